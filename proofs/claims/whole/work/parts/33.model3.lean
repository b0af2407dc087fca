theorem quad_s {wv : Nat → UInt64} {A B C D : UInt64} {i : Nat} (hI : ∀ j, j < i → wv j = A ∧ wv (11 + j) = B ∧ wv (22 + j) = C ∧ wv (33 + j) = D) (hi : i ≤ 10) :
    ∀ j, j < i + 1 → vf_upd (vf_upd (vf_upd (vf_upd wv i A) (11 + i) B) (22 + i) C) (33 + i) D j = A ∧ vf_upd (vf_upd (vf_upd (vf_upd wv i A) (11 + i) B) (22 + i) C) (33 + i) D (11 + j) = B ∧ vf_upd (vf_upd (vf_upd (vf_upd wv i A) (11 + i) B) (22 + i) C) (33 + i) D (22 + j) = C ∧ vf_upd (vf_upd (vf_upd (vf_upd wv i A) (11 + i) B) (22 + i) C) (33 + i) D (33 + j) = D := fun j hj => by
  by_cases e : j = i
  · subst e
    refine ⟨?_, ?_, ?_, ?_⟩
    · rw [vu_ne _ _ (by omega), vu_ne _ _ (by omega), vu_ne _ _ (by omega), vu_eq]
    · rw [vu_ne _ _ (by omega), vu_ne _ _ (by omega), vu_eq]
    · rw [vu_ne _ _ (by omega), vu_eq]
    · rw [vu_eq]
  · obtain ⟨h1, h2, h3, h4⟩ := hI j (by omega)
    refine ⟨?_, ?_, ?_, ?_⟩
    · rw [vu_ne _ _ (by omega), vu_ne _ _ (by omega), vu_ne _ _ (by omega), vu_ne _ _ (by omega), h1]
    · rw [vu_ne _ _ (by omega), vu_ne _ _ (by omega), vu_ne _ _ (by omega), vu_ne _ _ (by omega), h2]
    · rw [vu_ne _ _ (by omega), vu_ne _ _ (by omega), vu_ne _ _ (by omega), vu_ne _ _ (by omega), h3]
    · rw [vu_ne _ _ (by omega), vu_ne _ _ (by omega), vu_ne _ _ (by omega), vu_ne _ _ (by omega), h4]
theorem WR.settle {x : LineSt} {wv : Nat → UInt64} {i : Nat} (hi : i = nv x.1 0 + 1) (hN : nv x.1 0 ≤ 10) (hI : ∀ j, j < i → wv j = stF x.1 ∧ wv (11 + j) = stB x.1 ∧ wv (22 + j) = stP x.1 ∧ wv (33 + j) = stP x.1) : WR (settleL x) (vf_upd wv 44 (FP.i2d (x.1 1))) := by
  have e0 : nv (settleL x).1 0 = nv x.1 0 := nv_upd_ne (by decide)
  refine ⟨fun j hj => ?_, vu_eq _ _ _⟩
  rw [e0] at hj
  obtain ⟨h1, h2, h3, h4⟩ := hI j (by omega)
  rw [vu_ne _ _ (by omega), vu_ne _ _ (by omega), vu_ne _ _ (by omega), vu_ne _ _ (by omega), h1, h2, h3, h4]
  exact ⟨(fil_at _ _ (by omega)).symm, (fil_at _ _ (by omega)).symm, (fil_at _ _ (by omega)).symm, (fil_at _ _ (by omega)).symm⟩
theorem WR.ends {y : LineSt} {wv w2 : Nat → UInt64} (hw : WR y wv) (hN : 1 ≤ nv y.1 0 ∧ nv y.1 0 ≤ 10) (h0 : w2 0 = leftF y.1 (y.2.2.1 0)) (hB : w2 (11 + nv y.1 0) = rightB y.1 (y.2.1 (nv y.1 0)) y.2.2.2.2.2.2.2) (hl : w2 44 = rightLev y.1 (y.2.1 (nv y.1 0)) y.2.2.2.2.2.2.2) (ho : ∀ j, j ≠ 0 → j ≠ 11 + nv y.1 0 → j ≠ 44 → w2 j = wv j) : WR (turnRightL (turnLeftL y)) w2 := by
  have eF : vf_upd y.2.1 0 (leftF y.1 (y.2.2.1 0)) (nv y.1 0) = y.2.1 (nv y.1 0) := vu_ne _ _ (by omega)
  refine ⟨fun i hi => ?_, ?_⟩
  · have hi : i ≤ nv y.1 0 := hi
    obtain ⟨h1, h2, h3, h4⟩ := hw.1 i hi
    refine ⟨?_, ?_, (ho _ (by omega) (by omega) (by omega)).trans h3, (ho _ (by omega) (by omega) (by omega)).trans h4⟩
    · show w2 i = vf_upd y.2.1 0 (leftF y.1 (y.2.2.1 0)) i
      by_cases e : i = 0
      · subst e; rw [vu_eq]; exact h0
      · rw [vu_ne _ _ e, ho i e (by omega) (by omega)]; exact h1
    · show w2 (11 + i) = vf_upd y.2.2.1 (nv y.1 0) (rightB y.1 (vf_upd y.2.1 0 (leftF y.1 (y.2.2.1 0)) (nv y.1 0)) y.2.2.2.2.2.2.2) i
      rw [eF]
      by_cases e : i = nv y.1 0
      · subst e; rw [vu_eq]; exact hB
      · rw [vu_ne _ _ e, ho _ (by omega) (by omega) (by omega)]; exact h2
  · show w2 44 = rightLev y.1 (vf_upd y.2.1 0 (leftF y.1 (y.2.2.1 0)) (nv y.1 0)) y.2.2.2.2.2.2.2
    rw [eF]; exact hl
/-- the waves of a row go on by one node -/
def shW (wv : Nat → UInt64) (i : Nat) : Nat → UInt64 := fun j => if 1 ≤ j ∧ j ≤ i then wv (j - 1) else if 11 ≤ j ∧ j < 11 + i then wv (j + 1) else wv j
theorem shW_0 (wv : Nat → UInt64) : shW wv 0 = wv := by funext j; simp only [shW]; rw [if_neg (by omega), if_neg (by omega)]
theorem shW_s (wv : Nat → UInt64) {i : Nat} (hi : i + 1 ≤ 10) : vf_upd (vf_upd (shW wv i) (i + 1) (wv i)) (11 + i) (wv (11 + i + 1)) = shW wv (i + 1) := by
  funext j
  by_cases e : j = 11 + i
  · subst e; rw [vu_eq]; simp only [shW]; rw [if_neg (by omega), if_pos (by omega)]
  · rw [vu_ne _ _ e]
    by_cases e2 : j = i + 1
    · subst e2; rw [vu_eq]; simp only [shW]; rw [if_pos (by omega)]; rfl
    · rw [vu_ne _ _ e2]; simp only [shW]
      by_cases h1 : 1 ≤ j ∧ j ≤ i
      · rw [if_pos h1, if_pos (by omega)]
      · rw [if_neg h1, if_neg (show ¬ (1 ≤ j ∧ j ≤ i + 1) by omega)]
        by_cases h2 : 11 ≤ j ∧ j < 11 + i
        · rw [if_pos h2, if_pos (by omega)]
        · rw [if_neg h2, if_neg (by omega)]
theorem WR.shift {x : LineSt} {wv : Nat → UInt64} (h : WR x wv) (hN : nv x.1 0 ≤ 10) : WR (shiftL (tickL x)) (shW wv (nv x.1 0)) := by
  have e0 : nv (tickL x).1 0 = nv x.1 0 := nv_upd_ne (by decide)
  refine ⟨fun i hi => ?_, ?_⟩
  · have hi : i ≤ nv (tickL x).1 0 := hi
    show _ = shF (nv (tickL x).1 0) 0 x.2.1 i ∧ _ = shB (nv (tickL x).1 0) x.2.2.1 i ∧ _ = x.2.2.2.1 i ∧ _ = x.2.2.2.2.1 i
    rw [e0] at hi ⊢
    obtain ⟨h1, h2, h3, h4⟩ := h.1 i hi
    refine ⟨?_, ?_, ?_, ?_⟩
    · simp only [shW, shF]
      by_cases e : i = 0
      · subst e; rw [if_neg (by omega), if_neg (by omega), if_neg (by omega)]; exact h1
      · rw [if_pos (by omega), if_pos (by omega)]; exact (h.1 (i - 1) (by omega)).1
    · simp only [shW, shB]
      rw [if_neg (by omega)]
      by_cases e : i = nv x.1 0
      · rw [if_neg (by omega), if_neg (by omega)]; exact h2
      · rw [if_pos (by omega), if_pos (by omega), show 11 + i + 1 = 11 + (i + 1) by omega]; exact (h.1 (i + 1) (by omega)).2.1
    · simp only [shW]; rw [if_neg (by omega), if_neg (by omega)]; exact h3
    · simp only [shW]; rw [if_neg (by omega), if_neg (by omega)]; exact h4
  · simp only [shW]; rw [if_neg (by omega), if_neg (by omega)]; exact h.2
/-- the envelopes are widened up to a node -/
def widX (z : LineSt) (i : Nat) : LineSt := (z.1, z.2.1, z.2.2.1, (widN (fun j => FP.dadd (z.2.1 j) (z.2.2.1 j)) i (z.2.2.2.1, z.2.2.2.2.1, z.2.2.2.2.2.1, z.2.2.2.2.2.2.1)).1, (widN (fun j => FP.dadd (z.2.1 j) (z.2.2.1 j)) i (z.2.2.2.1, z.2.2.2.2.1, z.2.2.2.2.2.1, z.2.2.2.2.2.2.1)).2.1, z.2.2.2.2.2)
theorem WR.widS {z : LineSt} {w : Nat → UInt64} {i : Nat} (h : WR (widX z i) w) (hi : i ≤ nv z.1 0) (hN : nv z.1 0 ≤ 10) {p : UInt64} (hp : p = FP.dadd (z.2.1 i) (z.2.2.1 i)) :
    WR (widX z (i + 1)) (vf_upd (vf_upd w (22 + i) (if zv (w (22 + i)) < zv p then p else w (22 + i))) (33 + i) (if zv p < zv (w (33 + i)) then p else w (33 + i))) := by
  obtain ⟨h1, h2⟩ := h
  refine ⟨fun j hj => ?_, ?_⟩
  · have hj : j ≤ nv z.1 0 := hj
    obtain ⟨a1, a2, a3, a4⟩ := h1 j hj
    obtain ⟨b1, b2, b3, b4⟩ := h1 i hi
    subst hp
    have ei : widN (fun j => FP.dadd (z.2.1 j) (z.2.2.1 j)) (i + 1) (z.2.2.2.1, z.2.2.2.2.1, z.2.2.2.2.2.1, z.2.2.2.2.2.2.1) = wid1 (FP.dadd (z.2.1 i) (z.2.2.1 i)) i (widN (fun j => FP.dadd (z.2.1 j) (z.2.2.1 j)) i (z.2.2.2.1, z.2.2.2.2.1, z.2.2.2.2.2.1, z.2.2.2.2.2.2.1)) := rfl
    unfold widX at a1 a2 a3 a4 b3 b4 ⊢
    simp only at a1 a2 a3 a4 b3 b4 ⊢
    rw [ei]
    generalize widN (fun j => FP.dadd (z.2.1 j) (z.2.2.1 j)) i (z.2.2.2.1, z.2.2.2.2.1, z.2.2.2.2.2.1, z.2.2.2.2.2.2.1) = e at a3 a4 b3 b4 ⊢
    generalize FP.dadd (z.2.1 i) (z.2.2.1 i) = p
    refine ⟨?_, ?_, ?_, ?_⟩
    · rw [vu_ne _ _ (by omega), vu_ne _ _ (by omega)]; exact a1
    · rw [vu_ne _ _ (by omega), vu_ne _ _ (by omega)]; exact a2
    · rw [vu_ne _ _ (by omega)]
      unfold wid1
      by_cases e2 : j = i
      · subst e2; rw [vu_eq, b3]
        dsimp only
        split
        · rw [vu_eq]
        · rfl
      · rw [vu_ne _ _ (by omega), a3]
        dsimp only
        split
        · rw [vu_ne _ _ e2]
        · rfl
    · unfold wid1
      by_cases e2 : j = i
      · subst e2; rw [vu_eq, b4]
        dsimp only
        split
        · rw [vu_eq]
        · rfl
      · rw [vu_ne _ _ (by omega), vu_ne _ _ (by omega), a4]
        dsimp only
        split
        · rw [vu_ne _ _ e2]
        · rfl
  · rw [vu_ne _ _ (by omega), vu_ne _ _ (by omega)]; exact h2
theorem LG.asksM {y : LineSt} (h : LG y) (ht : nv y.1 8 + 1 ≤ 999) {z : LineSt} (hz : shiftL (tickL y) = z) : VG z.1 ∧ vf_n64 (FP.dsub (FP.i2d (z.1 1)) (z.2.2.1 0)) ∧
    vf_n64 (FP.dsub (z.2.1 (nv z.1 0)) (letF (nv z.1 6) (nv z.1 7) (nv z.1 8) (z.1 2))) ∧ vf_n64 (FP.dsub (FP.i2d (z.1 1)) (z.2.1 (nv z.1 0))) ∧ vf_n64 (FP.dsub z.2.2.2.2.2.2.2 (z.2.1 (nv z.1 0))) ∧ vf_n64 (FP.dsub (z.2.1 (nv z.1 0)) (FP.dsub z.2.2.2.2.2.2.2 (z.2.1 (nv z.1 0)))) ∧ vf_n64 (FP.ddiv (FP.dsub (z.2.1 (nv z.1 0)) (FP.dsub z.2.2.2.2.2.2.2 (z.2.1 (nv z.1 0)))) (FP.i2d (z.1 3))) ∧
    vf_n64 (FP.dadd z.2.2.2.2.2.2.2 (FP.ddiv (FP.dsub (z.2.1 (nv z.1 0)) (FP.dsub z.2.2.2.2.2.2.2 (z.2.1 (nv z.1 0)))) (FP.i2d (z.1 3)))) ∧ nn (FP.dadd z.2.2.2.2.2.2.2 (FP.ddiv (FP.dsub (z.2.1 (nv z.1 0)) (FP.dsub z.2.2.2.2.2.2.2 (z.2.1 (nv z.1 0)))) (FP.i2d (z.1 3)))) := by
  subst hz
  obtain ⟨hv, hL⟩ := h.asks ht
  have hR := h.asksR ht rfl
  have hn := hv.n
  have e : (turnLeftL (shiftL (tickL y))).2.1 (nv (turnLeftL (shiftL (tickL y))).1 0) = (shiftL (tickL y)).2.1 (nv (shiftL (tickL y)).1 0) := vu_ne _ _ (show nv (tickL y).1 0 ≠ 0 by omega)
  rw [e] at hR
  exact ⟨hv, hL, hR⟩
set_option maxHeartbeats 4000000 in
set_option maxRecDepth 100000 in
theorem c_X3_laysSteady (g : Glob) (b : Nat → Nat) (x : LineSt) (wv : Nat → UInt64) (ah : Nat → UInt64) (pa : Nat → Int32) (pw : Nat → UInt64) (ai : Nat → Int32) (aw : Nat → UInt64) (sts : Nat) (rf : Nat → Int32) (tx : Nat → Int32) (len : Nat) (pl : Nat) (ord : Nat) (lr : Nat → Int32) (nu : Nat → Int32) (hsh : Int64) (hv : VG x.1) : Con g yX3_laysSteady cX3_laysSteady 6 none ({ frames := 0, cells := 0, slots := 0, locals := 0 } : Room) [.ref (b 0)] (modelW g b x.1 wv ah pa pw ai aw sts rf tx len pl ord lr nu hsh) (fun r_ w_ => r_ = none ∧ ∃ wv2 : Nat → UInt64, (WR (settleL x) wv2) ∧  w_ = modelW g b ((settleL x).1) wv2 ah pa pw ai aw sts rf tx len pl ord lr nu hsh) := by
  refine con_of_V ypl_X3_laysSteady (Nat.le_of_ble_eq_true rfl) [(0, .ref (b 0))] rfl (fun Γ ok => ?_)
  have hN := hv.n
  have HL : ∀ (n i : Nat) (wv1 : Nat → UInt64), i ≤ nv x.1 0 + 1 → n = nv x.1 0 + 1 - i → (∀ j, j < i → wv1 j = stF x.1 ∧ wv1 (11 + j) = stB x.1 ∧ wv1 (22 + j) = stP x.1 ∧ wv1 (33 + j) = stP x.1) → V g Γ 6 0 0 19 (modelW g b x.1 wv1 ah pa pw ai aw sts rf tx len pl ord lr nu hsh) [(5, .int (nI i)), (3, .double (FP.i2d (x.1 2))), (1, .double (FP.i2d (x.1 1))), (0, .ref (b 0))] [] := by
    intro n
    induction n using Nat.strongRecOn with
    | ind n ih =>
    intro i wv1 hi hn hI
    subst hn
    refine V_iload ok dX3_laysSteady_19 0 rfl ?_
    refine V_aload_n ok dX3_laysSteady_21 rfl 3 rfl ?_
    refine V_get (v := .ref (b 1)) ok 0 0 tw_X3 twf_X3_7 rfl rfl (by decide) dX3_laysSteady_22 rfl rfl ?_
    refine V_iconst (v := nI 0) ok dX3_laysSteady_25 rfl ?_
    refine V_iald (f := x.1) (N := 9) ok 1 0 dX3_laysSteady_26 rfl rfl (by decide) (by decide) ?_
    refine V_top_int (b := nI (nv x.1 0)) (hv.n.1) ?_
    refine V_icmpN_gt (tgt := 123) ok dX3_laysSteady_27 (by decide) (by omega) (by omega) (fun h27 => ?_) (fun h27 => ?_)
    · refine V_aload_n ok dX3_laysSteady_123 rfl 3 rfl ?_
      refine V_get (v := .ref (b 2)) ok 0 1 tw_X3 twf_X3_13 rfl rfl (by decide) dX3_laysSteady_124 rfl rfl ?_
      refine V_bipush (v := nI 44) ok dX3_laysSteady_127 rfl ?_
      refine V_dload_n ok dX3_laysSteady_129 rfl 2 rfl ?_
      refine V_dast (f := wv1) (N := 45) (w2 := modelW g b x.1 (vf_upd wv1 44 (FP.i2d (x.1 1))) ah pa pw ai aw sts rf tx len pl ord lr nu hsh) ok 2 44 dX3_laysSteady_130 rfl rfl (by decide) (by decide) rfl ?_
      refine V_aload_n ok dX3_laysSteady_131 rfl 3 rfl ?_
      refine V_get (v := .ref (b 1)) ok 0 0 tw_X3 twf_X3_7 rfl rfl (by decide) dX3_laysSteady_132 rfl rfl ?_
      refine V_bipush (v := nI 8) ok dX3_laysSteady_135 rfl ?_
      refine V_iconst (v := nI 0) ok dX3_laysSteady_137 rfl ?_
      refine V_iast (f := x.1) (N := 9) (w2 := modelW g b (upd x.1 8 (nI 0)) (vf_upd wv1 44 (FP.i2d (x.1 1))) ah pa pw ai aw sts rf tx len pl ord lr nu hsh) ok 1 8 dX3_laysSteady_138 rfl rfl (by decide) (by decide) rfl ?_
      exact V_vret ok dX3_laysSteady_139 (Nat.zero_le _) (Nat.zero_le _) ⟨rfl, _, WR.settle (by omega) (by omega) hI, rfl⟩
    · refine V_aload_n ok dX3_laysSteady_30 rfl 3 rfl ?_
      refine V_get (v := .ref (b 2)) ok 0 1 tw_X3 twf_X3_13 rfl rfl (by decide) dX3_laysSteady_31 rfl rfl ?_
      refine V_iload ok dX3_laysSteady_34 0 rfl ?_
      refine V_dload_n ok dX3_laysSteady_36 rfl 2 rfl ?_
      refine V_dload_n ok dX3_laysSteady_37 rfl 1 rfl ?_
      refine V_dadd ok dX3_laysSteady_38 (st_a hv).n64 ?_
      refine V_ldc2d ok twd_X3_61 dX3_laysSteady_39 ?_
      refine V_ddiv ok dX3_laysSteady_42 (st_F hv).n64 ?_
      refine V_top_double (b := stF x.1) (rfl) ?_
      refine V_dast (f := wv1) (N := 45) (w2 := modelW g b x.1 (vf_upd wv1 i (stF x.1)) ah pa pw ai aw sts rf tx len pl ord lr nu hsh) ok 2 i dX3_laysSteady_43 rfl rfl (by omega) (by decide) rfl ?_
      refine V_aload_n ok dX3_laysSteady_44 rfl 3 rfl ?_
      refine V_get (v := .ref (b 2)) ok 0 1 tw_X3 twf_X3_13 rfl rfl (by decide) dX3_laysSteady_45 rfl rfl ?_
      refine V_bipush (v := nI 11) ok dX3_laysSteady_48 rfl ?_
      refine V_iload ok dX3_laysSteady_50 0 rfl ?_
      refine V_iaddN (a := 11) (b := i) (c := 11 + i) ok dX3_laysSteady_52 (by first | rfl | omega) ?_
      refine V_dload_n ok dX3_laysSteady_53 rfl 2 rfl ?_
      refine V_dload_n ok dX3_laysSteady_54 rfl 1 rfl ?_
      refine V_dsub ok dX3_laysSteady_55 (st_s hv).n64 ?_
      refine V_ldc2d ok twd_X3_61 dX3_laysSteady_56 ?_
      refine V_ddiv ok dX3_laysSteady_59 (st_B hv).n64 ?_
      refine V_top_double (b := stB x.1) (rfl) ?_
      refine V_dast (f := vf_upd wv1 i (stF x.1)) (N := 45) (w2 := modelW g b x.1 (vf_upd (vf_upd wv1 i (stF x.1)) (11 + i) (stB x.1)) ah pa pw ai aw sts rf tx len pl ord lr nu hsh) ok 2 (11 + i) dX3_laysSteady_60 rfl rfl (by omega) (by decide) rfl ?_
      refine V_aload_n ok dX3_laysSteady_61 rfl 3 rfl ?_
      refine V_get (v := .ref (b 2)) ok 0 1 tw_X3 twf_X3_13 rfl rfl (by decide) dX3_laysSteady_62 rfl rfl ?_
      refine V_bipush (v := nI 22) ok dX3_laysSteady_65 rfl ?_
      refine V_iload ok dX3_laysSteady_67 0 rfl ?_
      refine V_iaddN (a := 22) (b := i) (c := 22 + i) ok dX3_laysSteady_69 (by first | rfl | omega) ?_
      refine V_aload_n ok dX3_laysSteady_70 rfl 3 rfl ?_
      refine V_get (v := .ref (b 2)) ok 0 1 tw_X3 twf_X3_13 rfl rfl (by decide) dX3_laysSteady_71 rfl rfl ?_
      refine V_iload ok dX3_laysSteady_74 0 rfl ?_
      refine V_dald (f := vf_upd (vf_upd wv1 i (stF x.1)) (11 + i) (stB x.1)) (N := 45) ok 2 i dX3_laysSteady_76 rfl rfl (by omega) (by decide) ?_
      refine V_top_double (b := stF x.1) (by rw [vu_ne _ _ (by omega), vu_eq]) ?_
      refine V_aload_n ok dX3_laysSteady_77 rfl 3 rfl ?_
      refine V_get (v := .ref (b 2)) ok 0 1 tw_X3 twf_X3_13 rfl rfl (by decide) dX3_laysSteady_78 rfl rfl ?_
      refine V_bipush (v := nI 11) ok dX3_laysSteady_81 rfl ?_
      refine V_iload ok dX3_laysSteady_83 0 rfl ?_
      refine V_iaddN (a := 11) (b := i) (c := 11 + i) ok dX3_laysSteady_85 (by first | rfl | omega) ?_
      refine V_dald (f := vf_upd (vf_upd wv1 i (stF x.1)) (11 + i) (stB x.1)) (N := 45) ok 2 (11 + i) dX3_laysSteady_86 rfl rfl (by omega) (by decide) ?_
      refine V_top_double (b := stB x.1) (vu_eq _ _ _) ?_
      refine V_dadd ok dX3_laysSteady_87 (st_P hv).n64 ?_
      refine V_top_double (b := stP x.1) (rfl) ?_
      refine V_dast (f := vf_upd (vf_upd wv1 i (stF x.1)) (11 + i) (stB x.1)) (N := 45) (w2 := modelW g b x.1 (vf_upd (vf_upd (vf_upd wv1 i (stF x.1)) (11 + i) (stB x.1)) (22 + i) (stP x.1)) ah pa pw ai aw sts rf tx len pl ord lr nu hsh) ok 2 (22 + i) dX3_laysSteady_88 rfl rfl (by omega) (by decide) rfl ?_
      refine V_aload_n ok dX3_laysSteady_89 rfl 3 rfl ?_
      refine V_get (v := .ref (b 2)) ok 0 1 tw_X3 twf_X3_13 rfl rfl (by decide) dX3_laysSteady_90 rfl rfl ?_
      refine V_bipush (v := nI 33) ok dX3_laysSteady_93 rfl ?_
      refine V_iload ok dX3_laysSteady_95 0 rfl ?_
      refine V_iaddN (a := 33) (b := i) (c := 33 + i) ok dX3_laysSteady_97 (by first | rfl | omega) ?_
      refine V_aload_n ok dX3_laysSteady_98 rfl 3 rfl ?_
      refine V_get (v := .ref (b 2)) ok 0 1 tw_X3 twf_X3_13 rfl rfl (by decide) dX3_laysSteady_99 rfl rfl ?_
      refine V_iload ok dX3_laysSteady_102 0 rfl ?_
      refine V_dald (f := vf_upd (vf_upd (vf_upd wv1 i (stF x.1)) (11 + i) (stB x.1)) (22 + i) (stP x.1)) (N := 45) ok 2 i dX3_laysSteady_104 rfl rfl (by omega) (by decide) ?_
      refine V_top_double (b := stF x.1) (by rw [vu_ne _ _ (by omega), vu_ne _ _ (by omega), vu_eq]) ?_
      refine V_aload_n ok dX3_laysSteady_105 rfl 3 rfl ?_
      refine V_get (v := .ref (b 2)) ok 0 1 tw_X3 twf_X3_13 rfl rfl (by decide) dX3_laysSteady_106 rfl rfl ?_
      refine V_bipush (v := nI 11) ok dX3_laysSteady_109 rfl ?_
      refine V_iload ok dX3_laysSteady_111 0 rfl ?_
      refine V_iaddN (a := 11) (b := i) (c := 11 + i) ok dX3_laysSteady_113 (by first | rfl | omega) ?_
      refine V_dald (f := vf_upd (vf_upd (vf_upd wv1 i (stF x.1)) (11 + i) (stB x.1)) (22 + i) (stP x.1)) (N := 45) ok 2 (11 + i) dX3_laysSteady_114 rfl rfl (by omega) (by decide) ?_
      refine V_top_double (b := stB x.1) (by rw [vu_ne _ _ (by omega), vu_eq]) ?_
      refine V_dadd ok dX3_laysSteady_115 (st_P hv).n64 ?_
      refine V_top_double (b := stP x.1) (rfl) ?_
      refine V_dast (f := vf_upd (vf_upd (vf_upd wv1 i (stF x.1)) (11 + i) (stB x.1)) (22 + i) (stP x.1)) (N := 45) (w2 := modelW g b x.1 (vf_upd (vf_upd (vf_upd (vf_upd wv1 i (stF x.1)) (11 + i) (stB x.1)) (22 + i) (stP x.1)) (33 + i) (stP x.1)) ah pa pw ai aw sts rf tx len pl ord lr nu hsh) ok 2 (33 + i) dX3_laysSteady_116 rfl rfl (by omega) (by decide) rfl ?_
      refine V_iinc (q := 0) (v := nI (i + 1)) (lv2 := [(5, .int (nI (i + 1))), (3, .double (FP.i2d (x.1 2))), (1, .double (FP.i2d (x.1 1))), (0, .ref (b 0))]) ok dX3_laysSteady_117 rfl (nI_inc i 1) (by decide) rfl ?_
      refine V_goto (tgt := 19) ok dX3_laysSteady_120 (by decide) ?_
      refine V_lv [0, 1, 2, 3] rfl ?_
      exact ih (nv x.1 0 + 1 - (i + 1)) (by omega) (i + 1) _ (by omega) rfl (quad_s hI (by omega))
  refine V_aload_n ok dX3_laysSteady_0 rfl 0 rfl ?_
  refine V_get (v := .ref (b 1)) ok 0 0 tw_X3 twf_X3_7 rfl rfl (by decide) dX3_laysSteady_1 rfl rfl ?_
  refine V_iconst (v := nI 1) ok dX3_laysSteady_4 rfl ?_
  refine V_iald (f := x.1) (N := 9) ok 1 1 dX3_laysSteady_5 rfl rfl (by decide) (by decide) ?_
  refine V_i2d ok dX3_laysSteady_6 ?_
  refine V_dstore_n (lv2 := [(1, .double (FP.i2d (x.1 1))), (0, .ref (b 0))]) ok dX3_laysSteady_7 rfl (by decide) rfl ?_
  refine V_aload_n ok dX3_laysSteady_8 rfl 1 rfl ?_
  refine V_get (v := .ref (b 1)) ok 0 0 tw_X3 twf_X3_7 rfl rfl (by decide) dX3_laysSteady_9 rfl rfl ?_
  refine V_iconst (v := nI 2) ok dX3_laysSteady_12 rfl ?_
  refine V_iald (f := x.1) (N := 9) ok 1 2 dX3_laysSteady_13 rfl rfl (by decide) (by decide) ?_
  refine V_i2d ok dX3_laysSteady_14 ?_
  refine V_dstore_n (lv2 := [(3, .double (FP.i2d (x.1 2))), (1, .double (FP.i2d (x.1 1))), (0, .ref (b 0))]) ok dX3_laysSteady_15 rfl (by decide) rfl ?_
  refine V_iconst (v := nI 0) ok dX3_laysSteady_16 rfl ?_
  refine V_istore (lv2 := [(5, .int (nI 0)), (3, .double (FP.i2d (x.1 2))), (1, .double (FP.i2d (x.1 1))), (0, .ref (b 0))]) ok dX3_laysSteady_17 (by decide) rfl ?_
  refine V_lv [0, 1, 2, 3] rfl ?_
  exact HL (nv x.1 0 + 1) 0 wv (Nat.zero_le _) rfl (fun _ hj => absurd hj (Nat.not_lt_zero _))
set_option maxHeartbeats 4000000 in
set_option maxRecDepth 100000 in
theorem c_X3_let (g : Glob) (b : Nat → Nat) (nw : Nat → Int32) (wv : Nat → UInt64) (ah : Nat → UInt64) (pa : Nat → Int32) (pw : Nat → UInt64) (ai : Nat → Int32) (aw : Nat → UInt64) (sts : Nat) (rf : Nat → Int32) (tx : Nat → Int32) (len : Nat) (pl : Nat) (ord : Nat) (lr : Nat → Int32) (nu : Nat → Int32) (hsh : Int64) (k T t : Nat) (hk5 : k ≤ 5) (hq : Bd 100 (FP.i2d (nw 2))) (hT1 : 1 ≤ T) (hT2 : T ≤ 60) (ht : t ≤ 9999) : Con g yX3_let cX3_let 10 (some .double) ({ frames := 0, cells := 0, slots := 0, locals := 0 } : Room) [.ref (b 0), .int (nI k), .int (nI T), .int (nI t)] (modelW g b nw wv ah pa pw ai aw sts rf tx len pl ord lr nu hsh) (Is (some (.double (letF k T t (nw 2)))) (modelW g b nw wv ah pa pw ai aw sts rf tx len pl ord lr nu hsh)) := by
  refine con_of_V ypl_X3_let (Nat.le_of_ble_eq_true rfl) [(0, .ref (b 0)), (1, .int (nI k)), (2, .int (nI T)), (3, .int (nI t))] rfl (fun Γ ok => ?_)
  refine V_aload_n ok dX3_let_0 rfl 0 rfl ?_
  refine V_get (v := .ref (b 1)) ok 0 0 tw_X3 twf_X3_7 rfl rfl (by decide) dX3_let_1 rfl rfl ?_
  refine V_iconst (v := nI 2) ok dX3_let_4 rfl ?_
  refine V_iald (f := nw) (N := 9) ok 1 2 dX3_let_5 rfl rfl (by decide) (by decide) ?_
  refine V_i2d ok dX3_let_6 ?_
  refine V_dstore (lv2 := [(4, .double (FP.i2d (nw 2))), (0, .ref (b 0)), (1, .int (nI k)), (2, .int (nI T)), (3, .int (nI t))]) ok dX3_let_7 (by decide) rfl ?_
  refine V_iload_n ok dX3_let_9 rfl 4 rfl ?_
  refine V_i2d ok dX3_let_10 ?_
  refine V_dstore (lv2 := [(6, .double (FP.i2d (nI t))), (4, .double (FP.i2d (nw 2))), (0, .ref (b 0)), (1, .int (nI k)), (2, .int (nI T)), (3, .int (nI t))]) ok dX3_let_11 (by decide) rfl ?_
  refine V_iload_n ok dX3_let_13 rfl 4 rfl ?_
  refine V_i2d ok dX3_let_14 ?_
  refine V_dstore (lv2 := [(8, .double (FP.i2d (nI T))), (6, .double (FP.i2d (nI t))), (4, .double (FP.i2d (nw 2))), (0, .ref (b 0)), (1, .int (nI k)), (2, .int (nI T)), (3, .int (nI t))]) ok dX3_let_15 (by decide) rfl ?_
  refine V_iload_n ok dX3_let_17 rfl 4 rfl ?_
  rcases (show k = 0 ∨ k = 1 ∨ k = 2 ∨ k = 3 ∨ k = 4 ∨ k = 5 by omega) with hk | hk | hk | hk | hk | hk
  · refine V_top_int (b := nI 0) (by rw [hk]) ?_
    refine V_tabIn (off := 34) (tgt := 52) ok dX3_let_18 (by decide) (by decide) rfl (by decide) ?_
    refine V_dload ok dX3_let_52 2 rfl ?_
    exact V_dret ok dX3_let_54 (Nat.zero_le _) (Nat.zero_le _) ⟨by subst hk; simp [letF], rfl⟩
  · refine V_top_int (b := nI 1) (by rw [hk]) ?_
    refine V_tabIn (off := 37) (tgt := 55) ok dX3_let_18 (by decide) (by decide) rfl (by decide) ?_
    refine V_iload_n ok dX3_let_55 rfl 6 rfl ?_
    refine V_iload_n ok dX3_let_56 rfl 5 rfl ?_
    refine V_icmpN_ge (tgt := 65) ok dX3_let_57 (by decide) (by omega) (by omega) (fun h57 => ?_) (fun h57 => ?_)
    · have ho : ¬ t < T := by omega
      refine V_dconst0 ok dX3_let_65 ?_
      exact V_dret ok dX3_let_66 (Nat.zero_le _) (Nat.zero_le _) ⟨by subst hk; simp [letF, ho], rfl⟩
    · have ho : t < T := by omega
      refine V_dload ok dX3_let_60 2 rfl ?_
      refine V_goto (tgt := 66) ok dX3_let_62 (by decide) ?_
      exact V_dret ok dX3_let_66 (Nat.zero_le _) (Nat.zero_le _) ⟨by subst hk; simp [letF, ho], rfl⟩
  · refine V_top_int (b := nI 2) (by rw [hk]) ?_
    refine V_tabIn (off := 49) (tgt := 67) ok dX3_let_18 (by decide) (by decide) rfl (by decide) ?_
    refine V_iload_n ok dX3_let_67 rfl 6 rfl ?_
    refine V_iload_n ok dX3_let_68 rfl 5 rfl ?_
    refine V_icmpN_ge (tgt := 86) ok dX3_let_69 (by decide) (by omega) (by omega) (fun h69 => ?_) (fun h69 => ?_)
    · have ho : ¬ t < T := by omega
      refine V_dconst0 ok dX3_let_86 ?_
      exact V_dret ok dX3_let_87 (Nat.zero_le _) (Nat.zero_le _) ⟨by subst hk; simp [letF, ho], rfl⟩
    · have ho : t < T := by omega
      refine V_dload ok dX3_let_72 2 rfl ?_
      refine V_dload ok dX3_let_74 0 rfl ?_
      refine V_dload ok dX3_let_76 1 rfl ?_
      refine V_dsub ok dX3_let_78 (let_2a hq hT2 ht).n64 ?_
      refine V_dmul ok dX3_let_79 (let_2b hq hT2 ho).n64 ?_
      refine V_dload ok dX3_let_80 0 rfl ?_
      refine V_ddiv ok dX3_let_82 (let_2 hq hT2 ho).n64 ?_
      refine V_goto (tgt := 87) ok dX3_let_83 (by decide) ?_
      exact V_dret ok dX3_let_87 (Nat.zero_le _) (Nat.zero_le _) ⟨by subst hk; simp [letF, ho], rfl⟩
  · refine V_top_int (b := nI 3) (by rw [hk]) ?_
    refine V_tabIn (off := 70) (tgt := 88) ok dX3_let_18 (by decide) (by decide) rfl (by decide) ?_
    refine V_iload_n ok dX3_let_88 rfl 6 rfl ?_
    refine V_iload_n ok dX3_let_89 rfl 5 rfl ?_
    refine V_icmpN_ge (tgt := 116) ok dX3_let_90 (by decide) (by omega) (by omega) (fun h90 => ?_) (fun h90 => ?_)
    · have ho : ¬ t < T := by omega
      refine V_dconst0 ok dX3_let_116 ?_
      exact V_dret ok dX3_let_117 (Nat.zero_le _) (Nat.zero_le _) ⟨by subst hk; simp [letF, ho], rfl⟩
    · have ho : t < T := by omega
      refine V_dload ok dX3_let_93 2 rfl ?_
      refine V_dload ok dX3_let_95 0 rfl ?_
      refine V_dload ok dX3_let_97 0 rfl ?_
      refine V_dmul ok dX3_let_99 (let_3s hT2).n64 ?_
      refine V_dload ok dX3_let_100 1 rfl ?_
      refine V_dload ok dX3_let_102 1 rfl ?_
      refine V_dmul ok dX3_let_104 (let_3s (show t ≤ 60 by omega)).n64 ?_
      refine V_dsub ok dX3_let_105 (let_3a hT2 ho).n64 ?_
      refine V_dmul ok dX3_let_106 (let_3b hq hT2 ho).n64 ?_
      refine V_dload ok dX3_let_107 0 rfl ?_
      refine V_dload ok dX3_let_109 0 rfl ?_
      refine V_dmul ok dX3_let_111 (let_3s hT2).n64 ?_
      refine V_ddiv ok dX3_let_112 (let_3 hq hT2 ho).n64 ?_
      refine V_goto (tgt := 117) ok dX3_let_113 (by decide) ?_
      exact V_dret ok dX3_let_117 (Nat.zero_le _) (Nat.zero_le _) ⟨by subst hk; simp [letF, ho], rfl⟩
  · refine V_top_int (b := nI 4) (by rw [hk]) ?_
    refine V_tabIn (off := 100) (tgt := 118) ok dX3_let_18 (by decide) (by decide) rfl (by decide) ?_
    refine V_iload_n ok dX3_let_118 rfl 6 rfl ?_
    refine V_iload_n ok dX3_let_119 rfl 5 rfl ?_
    refine V_icmpN_ge (tgt := 132) ok dX3_let_120 (by decide) (by omega) (by omega) (fun h120 => ?_) (fun h120 => ?_)
    · have ho : ¬ t < T := by omega
      refine V_dconst0 ok dX3_let_132 ?_
      exact V_dret ok dX3_let_133 (Nat.zero_le _) (Nat.zero_le _) ⟨by subst hk; simp [letF, ho], rfl⟩
    · have ho : t < T := by omega
      refine V_dload ok dX3_let_123 2 rfl ?_
      refine V_ldc2d ok twd_X3_61 dX3_let_125 ?_
      refine V_ddiv ok dX3_let_128 (let_4 hq).n64 ?_
      refine V_goto (tgt := 133) ok dX3_let_129 (by decide) ?_
      exact V_dret ok dX3_let_133 (Nat.zero_le _) (Nat.zero_le _) ⟨by subst hk; simp [letF, ho], rfl⟩
  · refine V_top_int (b := nI 5) (by rw [hk]) ?_
    refine V_tabOut (tgt := 134) ok dX3_let_18 (by decide) (by decide) ?_
    refine V_iload_n ok dX3_let_134 rfl 6 rfl ?_
    refine V_iload_n ok dX3_let_135 rfl 5 rfl ?_
    refine V_idiv ok dX3_let_136 (nI_ne0 (by omega) (by omega)) ?_
    refine V_top_int (b := nI (t / T)) (pk_div (by omega) (by omega) (by omega)) ?_
    refine V_iconst (v := nI 2) ok dX3_let_137 rfl ?_
    refine V_irem ok dX3_let_138 (by decide) ?_
    refine V_top_int (b := nI (t / T % 2)) (pk_rem (d := 2) (Nat.lt_of_le_of_lt (Nat.div_le_self t T) (by omega)) (by decide) (by decide)) ?_
    have hm2 : t / T % 2 < 2 := Nat.mod_lt _ (by decide)
    refine V_ifN_ne (tgt := 147) ok dX3_let_139 (by decide) (by omega) (fun h139 => ?_) (fun h139 => ?_)
    · refine V_dload ok dX3_let_147 2 rfl ?_
      refine V_ldc2d ok twd_X3_61 dX3_let_149 ?_
      refine V_ddiv ok dX3_let_152 (let_4 hq).n64 ?_
      exact V_dret ok dX3_let_153 (Nat.zero_le _) (Nat.zero_le _) ⟨by subst hk; simp [letF, h139], rfl⟩
    · refine V_dload ok dX3_let_142 2 rfl ?_
      refine V_goto (tgt := 153) ok dX3_let_144 (by decide) ?_
      exact V_dret ok dX3_let_153 (Nat.zero_le _) (Nat.zero_le _) ⟨by subst hk; simp [letF, h139], rfl⟩
set_option maxHeartbeats 4000000 in
set_option maxRecDepth 100000 in
theorem c_X3_laysEnds (g : Glob) (b : Nat → Nat) (x : LineSt) (wv : Nat → UInt64) (ah : Nat → UInt64) (pa : Nat → Int32) (pw : Nat → UInt64) (ai : Nat → Int32) (aw : Nat → UInt64) (sts : Nat) (rf : Nat → Int32) (tx : Nat → Int32) (len : Nat) (pl : Nat) (ord : Nat) (lr : Nat → Int32) (nu : Nat → Int32) (hsh : Int64) (hv : VG x.1) (hL : vf_n64 (FP.dsub (FP.i2d (x.1 1)) (x.2.2.1 0))) (hn0 : vf_n64 (FP.dsub (x.2.1 (nv x.1 0)) (letF (nv x.1 6) (nv x.1 7) (nv x.1 8) (x.1 2)))) (hn1 : vf_n64 (FP.dsub (FP.i2d (x.1 1)) (x.2.1 (nv x.1 0)))) (hn2 : vf_n64 (FP.dsub x.2.2.2.2.2.2.2 (x.2.1 (nv x.1 0)))) (hn3 : vf_n64 (FP.dsub (x.2.1 (nv x.1 0)) (FP.dsub x.2.2.2.2.2.2.2 (x.2.1 (nv x.1 0))))) (hf1 : vf_n64 (FP.ddiv (FP.dsub (x.2.1 (nv x.1 0)) (FP.dsub x.2.2.2.2.2.2.2 (x.2.1 (nv x.1 0)))) (FP.i2d (x.1 3)))) (hf2 : vf_n64 (FP.dadd x.2.2.2.2.2.2.2 (FP.ddiv (FP.dsub (x.2.1 (nv x.1 0)) (FP.dsub x.2.2.2.2.2.2.2 (x.2.1 (nv x.1 0)))) (FP.i2d (x.1 3))))) (hf3 : nn (FP.dadd x.2.2.2.2.2.2.2 (FP.ddiv (FP.dsub (x.2.1 (nv x.1 0)) (FP.dsub x.2.2.2.2.2.2.2 (x.2.1 (nv x.1 0)))) (FP.i2d (x.1 3))))) (hw : WR x wv) : Con g yX3_laysEnds cX3_laysEnds 6 none ({ frames := 1, cells := 0, slots := 0, locals := 29 } : Room) [.ref (b 0)] (modelW g b x.1 wv ah pa pw ai aw sts rf tx len pl ord lr nu hsh) (fun r_ w_ => r_ = none ∧ ∃ wv2 : Nat → UInt64, (WR (turnRightL (turnLeftL x)) wv2) ∧  w_ = modelW g b x.1 wv2 ah pa pw ai aw sts rf tx len pl ord lr nu hsh) := by
  refine con_of_V ypl_X3_laysEnds (Nat.le_of_ble_eq_true rfl) [(0, .ref (b 0))] rfl (fun Γ ok => ?_)
  have hN := hv.n
  refine V_aload_n ok dX3_laysEnds_0 rfl 0 rfl ?_
  refine V_get (v := .ref (b 1)) ok 0 0 tw_X3 twf_X3_7 rfl rfl (by decide) dX3_laysEnds_1 rfl rfl ?_
  refine V_iconst (v := nI 0) ok dX3_laysEnds_4 rfl ?_
  refine V_iald (f := x.1) (N := 9) ok 1 0 dX3_laysEnds_5 rfl rfl (by decide) (by decide) ?_
  refine V_top_int (b := nI (nv x.1 0)) (hv.n.1) ?_
  refine V_istore_n (lv2 := [(1, .int (nI (nv x.1 0))), (0, .ref (b 0))]) ok dX3_laysEnds_6 rfl (by decide) rfl ?_
  refine V_aload_n ok dX3_laysEnds_7 rfl 1 rfl ?_
  refine V_get (v := .ref (b 1)) ok 0 0 tw_X3 twf_X3_7 rfl rfl (by decide) dX3_laysEnds_8 rfl rfl ?_
  refine V_iconst (v := nI 1) ok dX3_laysEnds_11 rfl ?_
  refine V_iald (f := x.1) (N := 9) ok 1 1 dX3_laysEnds_12 rfl rfl (by decide) (by decide) ?_
  refine V_i2d ok dX3_laysEnds_13 ?_
  refine V_dstore_n (lv2 := [(2, .double (FP.i2d (x.1 1))), (1, .int (nI (nv x.1 0))), (0, .ref (b 0))]) ok dX3_laysEnds_14 rfl (by decide) rfl ?_
  refine V_aload_n ok dX3_laysEnds_15 rfl 2 rfl ?_
  refine V_get (v := .ref (b 2)) ok 0 1 tw_X3 twf_X3_13 rfl rfl (by decide) dX3_laysEnds_16 rfl rfl ?_
  refine V_iconst (v := nI 0) ok dX3_laysEnds_19 rfl ?_
  refine V_aload_n ok dX3_laysEnds_20 rfl 2 rfl ?_
  refine V_get (v := .ref (b 1)) ok 0 0 tw_X3 twf_X3_7 rfl rfl (by decide) dX3_laysEnds_21 rfl rfl ?_
  refine V_iconst (v := nI 4) ok dX3_laysEnds_24 rfl ?_
  refine V_iald (f := x.1) (N := 9) ok 1 4 dX3_laysEnds_25 rfl rfl (by decide) (by decide) ?_
  have J26 : V g Γ 6 0 0 48 (modelW g b x.1 wv ah pa pw ai aw sts rf tx len pl ord lr nu hsh) [(2, .double (FP.i2d (x.1 1))), (1, .int (nI (nv x.1 0))), (0, .ref (b 0))] [.double (if (x.1 4) = 0 then FP.dsub (FP.i2d (x.1 1)) (x.2.2.1 0) else x.2.2.1 0), .int (nI 0), .ref (b 2)] := by
    refine V_dast (f := wv) (N := 45) (w2 := modelW g b x.1 (vf_upd wv 0 (if (x.1 4) = 0 then FP.dsub (FP.i2d (x.1 1)) (x.2.2.1 0) else x.2.2.1 0)) ah pa pw ai aw sts rf tx len pl ord lr nu hsh) ok 2 0 dX3_laysEnds_48 rfl rfl (by decide) (by decide) rfl ?_
    refine V_aload_n ok dX3_laysEnds_49 rfl 2 rfl ?_
    refine V_get (v := .ref (b 1)) ok 0 0 tw_X3 twf_X3_7 rfl rfl (by decide) dX3_laysEnds_50 rfl rfl ?_
    refine V_iconst (v := nI 5) ok dX3_laysEnds_53 rfl ?_
    refine V_iald (f := x.1) (N := 9) ok 1 5 dX3_laysEnds_54 rfl rfl (by decide) (by decide) ?_
    refine V_top_int (b := nI (nv x.1 5)) (hv.rt.1) ?_
    rcases (show nv x.1 5 = 0 ∨ nv x.1 5 = 1 ∨ nv x.1 5 = 2 ∨ nv x.1 5 = 3 by have := hv.rt; omega) with hr | hr | hr | hr
    · refine V_top_int (b := nI 0) (by rw [hr]) ?_
      refine V_tabIn (off := 25) (tgt := 80) ok dX3_laysEnds_55 (by decide) (by decide) rfl (by decide) ?_
      refine V_aload_n ok dX3_laysEnds_80 rfl 2 rfl ?_
      refine V_get (v := .ref (b 2)) ok 0 1 tw_X3 twf_X3_13 rfl rfl (by decide) dX3_laysEnds_81 rfl rfl ?_
      refine V_bipush (v := nI 11) ok dX3_laysEnds_84 rfl ?_
      refine V_iload_n ok dX3_laysEnds_86 rfl 1 rfl ?_
      refine V_iaddN (a := 11) (b := nv x.1 0) (c := 11 + (nv x.1 0)) ok dX3_laysEnds_87 (by first | rfl | omega) ?_
      refine V_aload_n ok dX3_laysEnds_88 rfl 2 rfl ?_
      refine V_get (v := .ref (b 2)) ok 0 1 tw_X3 twf_X3_13 rfl rfl (by decide) dX3_laysEnds_89 rfl rfl ?_
      refine V_iload_n ok dX3_laysEnds_92 rfl 1 rfl ?_
      refine V_dald (f := vf_upd wv 0 (if (x.1 4) = 0 then FP.dsub (FP.i2d (x.1 1)) (x.2.2.1 0) else x.2.2.1 0)) (N := 45) ok 2 (nv x.1 0) dX3_laysEnds_93 rfl rfl (by omega) (by decide) ?_
      refine V_top_double (b := x.2.1 (nv x.1 0)) (by rw [vu_ne _ _ (by omega)]; exact (hw.1 _ (Nat.le_refl _)).1) ?_
      refine V_aload_n ok dX3_laysEnds_94 rfl 2 rfl ?_
      refine V_aload_n ok dX3_laysEnds_95 rfl 2 rfl ?_
      refine V_get (v := .ref (b 1)) ok 0 0 tw_X3 twf_X3_7 rfl rfl (by decide) dX3_laysEnds_96 rfl rfl ?_
      refine V_bipush (v := nI 6) ok dX3_laysEnds_99 rfl ?_
      refine V_iald (f := x.1) (N := 9) ok 1 6 dX3_laysEnds_101 rfl rfl (by decide) (by decide) ?_
      refine V_top_int (b := nI (nv x.1 6)) (hv.k.1) ?_
      refine V_aload_n ok dX3_laysEnds_102 rfl 2 rfl ?_
      refine V_get (v := .ref (b 1)) ok 0 0 tw_X3 twf_X3_7 rfl rfl (by decide) dX3_laysEnds_103 rfl rfl ?_
      refine V_bipush (v := nI 7) ok dX3_laysEnds_106 rfl ?_
      refine V_iald (f := x.1) (N := 9) ok 1 7 dX3_laysEnds_108 rfl rfl (by decide) (by decide) ?_
      refine V_top_int (b := nI (nv x.1 7)) (hv.t.1) ?_
      refine V_aload_n ok dX3_laysEnds_109 rfl 2 rfl ?_
      refine V_get (v := .ref (b 1)) ok 0 0 tw_X3 twf_X3_7 rfl rfl (by decide) dX3_laysEnds_110 rfl rfl ?_
      refine V_bipush (v := nI 8) ok dX3_laysEnds_113 rfl ?_
      refine V_iald (f := x.1) (N := 9) ok 1 8 dX3_laysEnds_115 rfl rfl (by decide) (by decide) ?_
      refine V_top_int (b := nI (nv x.1 8)) (hv.tm.1) ?_
      refine V_cW (v2 := some (.double (letF (nv x.1 6) (nv x.1 7) (nv x.1 8) (x.1 2)))) (w2 := modelW g b x.1 (vf_upd wv 0 (if (x.1 4) = 0 then FP.dsub (FP.i2d (x.1 1)) (x.2.2.1 0) else x.2.2.1 0)) ah pa pw ai aw sts rf tx len pl ord lr nu hsh) (rest := [.double (x.2.1 (nv x.1 0)), .int (nI (11 + (nv x.1 0))), .ref (b 2)]) ok 0 3 (c_X3_let g b x.1 (vf_upd wv 0 (if (x.1 4) = 0 then FP.dsub (FP.i2d (x.1 1)) (x.2.2.1 0) else x.2.2.1 0)) ah pa pw ai aw sts rf tx len pl ord lr nu hsh (nv x.1 6) (nv x.1 7) (nv x.1 8) hv.k.2 hv.bq hv.t.2.1 hv.t.2.2 (by have := hv.tm; omega)) 3 twm_X3_63 twi_yX3_let twv_yX3_let twin_X3 twc_yX3_let yok_X3_let (by decide) ⟨rfl, rfl⟩ dX3_laysEnds_116 rfl rfl rfl rfl (Nat.le_of_ble_eq_true rfl) ⟨Nat.zero_le _, Nat.zero_le _⟩ ?_
      refine V_dsub ok dX3_laysEnds_119 hn0 ?_
      refine V_dast (f := vf_upd wv 0 (if (x.1 4) = 0 then FP.dsub (FP.i2d (x.1 1)) (x.2.2.1 0) else x.2.2.1 0)) (N := 45) (w2 := modelW g b x.1 (vf_upd (vf_upd wv 0 (if (x.1 4) = 0 then FP.dsub (FP.i2d (x.1 1)) (x.2.2.1 0) else x.2.2.1 0)) (11 + (nv x.1 0)) (FP.dsub (x.2.1 (nv x.1 0)) (letF (nv x.1 6) (nv x.1 7) (nv x.1 8) (x.1 2)))) ah pa pw ai aw sts rf tx len pl ord lr nu hsh) ok 2 (11 + (nv x.1 0)) dX3_laysEnds_120 rfl rfl (by omega) (by decide) rfl ?_
      refine V_goto (tgt := 258) ok dX3_laysEnds_121 (by decide) ?_
      exact V_vret ok dX3_laysEnds_258 (Nat.zero_le _) (Nat.zero_le _) ⟨rfl, _, hw.ends hv.n.2 (by rw [vu_ne _ _ (by omega), vu_eq]; rfl) (by rw [vu_eq]; simp [rightB, hr]) (by rw [vu_ne _ _ (by omega), vu_ne _ _ (by decide), hw.2]; simp [rightLev, hr]) (fun j a b c => by rw [vu_ne _ _ b, vu_ne _ _ a]), rfl⟩
    · refine V_top_int (b := nI 1) (by rw [hr]) ?_
      refine V_tabIn (off := 69) (tgt := 124) ok dX3_laysEnds_55 (by decide) (by decide) rfl (by decide) ?_
      refine V_aload_n ok dX3_laysEnds_124 rfl 2 rfl ?_
      refine V_get (v := .ref (b 2)) ok 0 1 tw_X3 twf_X3_13 rfl rfl (by decide) dX3_laysEnds_125 rfl rfl ?_
      refine V_bipush (v := nI 11) ok dX3_laysEnds_128 rfl ?_
      refine V_iload_n ok dX3_laysEnds_130 rfl 1 rfl ?_
      refine V_iaddN (a := 11) (b := nv x.1 0) (c := 11 + (nv x.1 0)) ok dX3_laysEnds_131 (by first | rfl | omega) ?_
      refine V_dload_n ok dX3_laysEnds_132 rfl 0 rfl ?_
      refine V_aload_n ok dX3_laysEnds_133 rfl 2 rfl ?_
      refine V_get (v := .ref (b 2)) ok 0 1 tw_X3 twf_X3_13 rfl rfl (by decide) dX3_laysEnds_134 rfl rfl ?_
      refine V_iload_n ok dX3_laysEnds_137 rfl 1 rfl ?_
      refine V_dald (f := vf_upd wv 0 (if (x.1 4) = 0 then FP.dsub (FP.i2d (x.1 1)) (x.2.2.1 0) else x.2.2.1 0)) (N := 45) ok 2 (nv x.1 0) dX3_laysEnds_138 rfl rfl (by omega) (by decide) ?_
      refine V_top_double (b := x.2.1 (nv x.1 0)) (by rw [vu_ne _ _ (by omega)]; exact (hw.1 _ (Nat.le_refl _)).1) ?_
      refine V_dsub ok dX3_laysEnds_139 hn1 ?_
      refine V_dast (f := vf_upd wv 0 (if (x.1 4) = 0 then FP.dsub (FP.i2d (x.1 1)) (x.2.2.1 0) else x.2.2.1 0)) (N := 45) (w2 := modelW g b x.1 (vf_upd (vf_upd wv 0 (if (x.1 4) = 0 then FP.dsub (FP.i2d (x.1 1)) (x.2.2.1 0) else x.2.2.1 0)) (11 + (nv x.1 0)) (FP.dsub (FP.i2d (x.1 1)) (x.2.1 (nv x.1 0)))) ah pa pw ai aw sts rf tx len pl ord lr nu hsh) ok 2 (11 + (nv x.1 0)) dX3_laysEnds_140 rfl rfl (by omega) (by decide) rfl ?_
      refine V_goto (tgt := 258) ok dX3_laysEnds_141 (by decide) ?_
      exact V_vret ok dX3_laysEnds_258 (Nat.zero_le _) (Nat.zero_le _) ⟨rfl, _, hw.ends hv.n.2 (by rw [vu_ne _ _ (by omega), vu_eq]; rfl) (by rw [vu_eq]; simp [rightB, hr]) (by rw [vu_ne _ _ (by omega), vu_ne _ _ (by decide), hw.2]; simp [rightLev, hr]) (fun j a b c => by rw [vu_ne _ _ b, vu_ne _ _ a]), rfl⟩
    · refine V_top_int (b := nI 2) (by rw [hr]) ?_
      refine V_tabIn (off := 89) (tgt := 144) ok dX3_laysEnds_55 (by decide) (by decide) rfl (by decide) ?_
      refine V_aload_n ok dX3_laysEnds_144 rfl 2 rfl ?_
      refine V_get (v := .ref (b 2)) ok 0 1 tw_X3 twf_X3_13 rfl rfl (by decide) dX3_laysEnds_145 rfl rfl ?_
      refine V_bipush (v := nI 11) ok dX3_laysEnds_148 rfl ?_
      refine V_iload_n ok dX3_laysEnds_150 rfl 1 rfl ?_
      refine V_iaddN (a := 11) (b := nv x.1 0) (c := 11 + (nv x.1 0)) ok dX3_laysEnds_151 (by first | rfl | omega) ?_
      refine V_aload_n ok dX3_laysEnds_152 rfl 2 rfl ?_
      refine V_get (v := .ref (b 2)) ok 0 1 tw_X3 twf_X3_13 rfl rfl (by decide) dX3_laysEnds_153 rfl rfl ?_
      refine V_iload_n ok dX3_laysEnds_156 rfl 1 rfl ?_
      refine V_dald (f := vf_upd wv 0 (if (x.1 4) = 0 then FP.dsub (FP.i2d (x.1 1)) (x.2.2.1 0) else x.2.2.1 0)) (N := 45) ok 2 (nv x.1 0) dX3_laysEnds_157 rfl rfl (by omega) (by decide) ?_
      refine V_top_double (b := x.2.1 (nv x.1 0)) (by rw [vu_ne _ _ (by omega)]; exact (hw.1 _ (Nat.le_refl _)).1) ?_
      refine V_dast (f := vf_upd wv 0 (if (x.1 4) = 0 then FP.dsub (FP.i2d (x.1 1)) (x.2.2.1 0) else x.2.2.1 0)) (N := 45) (w2 := modelW g b x.1 (vf_upd (vf_upd wv 0 (if (x.1 4) = 0 then FP.dsub (FP.i2d (x.1 1)) (x.2.2.1 0) else x.2.2.1 0)) (11 + (nv x.1 0)) (x.2.1 (nv x.1 0))) ah pa pw ai aw sts rf tx len pl ord lr nu hsh) ok 2 (11 + (nv x.1 0)) dX3_laysEnds_158 rfl rfl (by omega) (by decide) rfl ?_
      refine V_goto (tgt := 258) ok dX3_laysEnds_159 (by decide) ?_
      exact V_vret ok dX3_laysEnds_258 (Nat.zero_le _) (Nat.zero_le _) ⟨rfl, _, hw.ends hv.n.2 (by rw [vu_ne _ _ (by omega), vu_eq]; rfl) (by rw [vu_eq]; simp [rightB, hr]) (by rw [vu_ne _ _ (by omega), vu_ne _ _ (by decide), hw.2]; simp [rightLev, hr]) (fun j a b c => by rw [vu_ne _ _ b, vu_ne _ _ a]), rfl⟩
    · refine V_top_int (b := nI 3) (by rw [hr]) ?_
      refine V_tabOut (tgt := 162) ok dX3_laysEnds_55 (by decide) (by decide) ?_
      refine V_aload_n ok dX3_laysEnds_162 rfl 2 rfl ?_
      refine V_get (v := .ref (b 2)) ok 0 1 tw_X3 twf_X3_13 rfl rfl (by decide) dX3_laysEnds_163 rfl rfl ?_
      refine V_bipush (v := nI 11) ok dX3_laysEnds_166 rfl ?_
      refine V_iload_n ok dX3_laysEnds_168 rfl 1 rfl ?_
      refine V_iaddN (a := 11) (b := nv x.1 0) (c := 11 + (nv x.1 0)) ok dX3_laysEnds_169 (by first | rfl | omega) ?_
      refine V_aload_n ok dX3_laysEnds_170 rfl 2 rfl ?_
      refine V_get (v := .ref (b 2)) ok 0 1 tw_X3 twf_X3_13 rfl rfl (by decide) dX3_laysEnds_171 rfl rfl ?_
      refine V_bipush (v := nI 44) ok dX3_laysEnds_174 rfl ?_
      refine V_dald (f := vf_upd wv 0 (if (x.1 4) = 0 then FP.dsub (FP.i2d (x.1 1)) (x.2.2.1 0) else x.2.2.1 0)) (N := 45) ok 2 44 dX3_laysEnds_176 rfl rfl (by decide) (by decide) ?_
      refine V_top_double (b := x.2.2.2.2.2.2.2) (by rw [vu_ne _ _ (by decide)]; exact hw.2) ?_
      refine V_aload_n ok dX3_laysEnds_177 rfl 2 rfl ?_
      refine V_get (v := .ref (b 2)) ok 0 1 tw_X3 twf_X3_13 rfl rfl (by decide) dX3_laysEnds_178 rfl rfl ?_
      refine V_iload_n ok dX3_laysEnds_181 rfl 1 rfl ?_
      refine V_dald (f := vf_upd wv 0 (if (x.1 4) = 0 then FP.dsub (FP.i2d (x.1 1)) (x.2.2.1 0) else x.2.2.1 0)) (N := 45) ok 2 (nv x.1 0) dX3_laysEnds_182 rfl rfl (by omega) (by decide) ?_
      refine V_top_double (b := x.2.1 (nv x.1 0)) (by rw [vu_ne _ _ (by omega)]; exact (hw.1 _ (Nat.le_refl _)).1) ?_
      refine V_dsub ok dX3_laysEnds_183 hn2 ?_
      refine V_dast (f := vf_upd wv 0 (if (x.1 4) = 0 then FP.dsub (FP.i2d (x.1 1)) (x.2.2.1 0) else x.2.2.1 0)) (N := 45) (w2 := modelW g b x.1 (vf_upd (vf_upd wv 0 (if (x.1 4) = 0 then FP.dsub (FP.i2d (x.1 1)) (x.2.2.1 0) else x.2.2.1 0)) (11 + (nv x.1 0)) (FP.dsub x.2.2.2.2.2.2.2 (x.2.1 (nv x.1 0)))) ah pa pw ai aw sts rf tx len pl ord lr nu hsh) ok 2 (11 + (nv x.1 0)) dX3_laysEnds_184 rfl rfl (by omega) (by decide) rfl ?_
      refine V_aload_n ok dX3_laysEnds_185 rfl 2 rfl ?_
      refine V_get (v := .ref (b 2)) ok 0 1 tw_X3 twf_X3_13 rfl rfl (by decide) dX3_laysEnds_186 rfl rfl ?_
      refine V_bipush (v := nI 44) ok dX3_laysEnds_189 rfl ?_
      refine V_dald (f := vf_upd (vf_upd wv 0 (if (x.1 4) = 0 then FP.dsub (FP.i2d (x.1 1)) (x.2.2.1 0) else x.2.2.1 0)) (11 + (nv x.1 0)) (FP.dsub x.2.2.2.2.2.2.2 (x.2.1 (nv x.1 0)))) (N := 45) ok 2 44 dX3_laysEnds_191 rfl rfl (by decide) (by decide) ?_
      refine V_top_double (b := x.2.2.2.2.2.2.2) (by rw [vu_ne _ _ (by omega), vu_ne _ _ (by decide)]; exact hw.2) ?_
      refine V_aload_n ok dX3_laysEnds_192 rfl 2 rfl ?_
      refine V_get (v := .ref (b 2)) ok 0 1 tw_X3 twf_X3_13 rfl rfl (by decide) dX3_laysEnds_193 rfl rfl ?_
      refine V_iload_n ok dX3_laysEnds_196 rfl 1 rfl ?_
      refine V_dald (f := vf_upd (vf_upd wv 0 (if (x.1 4) = 0 then FP.dsub (FP.i2d (x.1 1)) (x.2.2.1 0) else x.2.2.1 0)) (11 + (nv x.1 0)) (FP.dsub x.2.2.2.2.2.2.2 (x.2.1 (nv x.1 0)))) (N := 45) ok 2 (nv x.1 0) dX3_laysEnds_197 rfl rfl (by omega) (by decide) ?_
      refine V_top_double (b := x.2.1 (nv x.1 0)) (by rw [vu_ne _ _ (by omega), vu_ne _ _ (by omega)]; exact (hw.1 _ (Nat.le_refl _)).1) ?_
      refine V_aload_n ok dX3_laysEnds_198 rfl 2 rfl ?_
      refine V_get (v := .ref (b 2)) ok 0 1 tw_X3 twf_X3_13 rfl rfl (by decide) dX3_laysEnds_199 rfl rfl ?_
      refine V_bipush (v := nI 11) ok dX3_laysEnds_202 rfl ?_
      refine V_iload_n ok dX3_laysEnds_204 rfl 1 rfl ?_
      refine V_iaddN (a := 11) (b := nv x.1 0) (c := 11 + (nv x.1 0)) ok dX3_laysEnds_205 (by first | rfl | omega) ?_
      refine V_dald (f := vf_upd (vf_upd wv 0 (if (x.1 4) = 0 then FP.dsub (FP.i2d (x.1 1)) (x.2.2.1 0) else x.2.2.1 0)) (11 + (nv x.1 0)) (FP.dsub x.2.2.2.2.2.2.2 (x.2.1 (nv x.1 0)))) (N := 45) ok 2 (11 + (nv x.1 0)) dX3_laysEnds_206 rfl rfl (by omega) (by decide) ?_
      refine V_top_double (b := FP.dsub x.2.2.2.2.2.2.2 (x.2.1 (nv x.1 0))) (vu_eq _ _ _) ?_
      refine V_dsub ok dX3_laysEnds_207 hn3 ?_
      refine V_aload_n ok dX3_laysEnds_208 rfl 2 rfl ?_
      refine V_get (v := .ref (b 1)) ok 0 0 tw_X3 twf_X3_7 rfl rfl (by decide) dX3_laysEnds_209 rfl rfl ?_
      refine V_iconst (v := nI 3) ok dX3_laysEnds_212 rfl ?_
      refine V_iald (f := x.1) (N := 9) ok 1 3 dX3_laysEnds_213 rfl rfl (by decide) (by decide) ?_
      refine V_i2d ok dX3_laysEnds_214 ?_
      refine V_ddiv ok dX3_laysEnds_215 hf1 ?_
      refine V_dadd ok dX3_laysEnds_216 hf2 ?_
      refine V_dstore (lv2 := [(4, .double (FP.dadd x.2.2.2.2.2.2.2 (FP.ddiv (FP.dsub (x.2.1 (nv x.1 0)) (FP.dsub x.2.2.2.2.2.2.2 (x.2.1 (nv x.1 0)))) (FP.i2d (x.1 3))))), (2, .double (FP.i2d (x.1 1))), (1, .int (nI (nv x.1 0))), (0, .ref (b 0))]) ok dX3_laysEnds_217 (by decide) rfl ?_
      refine V_aload_n ok dX3_laysEnds_219 rfl 3 rfl ?_
      refine V_get (v := .ref (b 2)) ok 0 1 tw_X3 twf_X3_13 rfl rfl (by decide) dX3_laysEnds_220 rfl rfl ?_
      refine V_bipush (v := nI 44) ok dX3_laysEnds_223 rfl ?_
      refine V_dload ok dX3_laysEnds_225 0 rfl ?_
      refine V_ldc2d ok twd_X3_67 dX3_laysEnds_227 ?_
      have J230 : V g Γ 6 0 0 257 (modelW g b x.1 (vf_upd (vf_upd wv 0 (if (x.1 4) = 0 then FP.dsub (FP.i2d (x.1 1)) (x.2.2.1 0) else x.2.2.1 0)) (11 + (nv x.1 0)) (FP.dsub x.2.2.2.2.2.2.2 (x.2.1 (nv x.1 0)))) ah pa pw ai aw sts rf tx len pl ord lr nu hsh) [(4, .double (FP.dadd x.2.2.2.2.2.2.2 (FP.ddiv (FP.dsub (x.2.1 (nv x.1 0)) (FP.dsub x.2.2.2.2.2.2.2 (x.2.1 (nv x.1 0)))) (FP.i2d (x.1 3))))), (2, .double (FP.i2d (x.1 1))), (1, .int (nI (nv x.1 0))), (0, .ref (b 0))] [.double (if zv 4666723172467343360 < zv (FP.dadd x.2.2.2.2.2.2.2 (FP.ddiv (FP.dsub (x.2.1 (nv x.1 0)) (FP.dsub x.2.2.2.2.2.2.2 (x.2.1 (nv x.1 0)))) (FP.i2d (x.1 3)))) then 4666723172467343360 else (if zv (FP.dadd x.2.2.2.2.2.2.2 (FP.ddiv (FP.dsub (x.2.1 (nv x.1 0)) (FP.dsub x.2.2.2.2.2.2.2 (x.2.1 (nv x.1 0)))) (FP.i2d (x.1 3)))) < zv 13890095209322119168 then 13890095209322119168 else FP.dadd x.2.2.2.2.2.2.2 (FP.ddiv (FP.dsub (x.2.1 (nv x.1 0)) (FP.dsub x.2.2.2.2.2.2.2 (x.2.1 (nv x.1 0)))) (FP.i2d (x.1 3))))), .int (nI 44), .ref (b 2)] := by
        refine V_dast (f := vf_upd (vf_upd wv 0 (if (x.1 4) = 0 then FP.dsub (FP.i2d (x.1 1)) (x.2.2.1 0) else x.2.2.1 0)) (11 + (nv x.1 0)) (FP.dsub x.2.2.2.2.2.2.2 (x.2.1 (nv x.1 0)))) (N := 45) (w2 := modelW g b x.1 (vf_upd (vf_upd (vf_upd wv 0 (if (x.1 4) = 0 then FP.dsub (FP.i2d (x.1 1)) (x.2.2.1 0) else x.2.2.1 0)) (11 + (nv x.1 0)) (FP.dsub x.2.2.2.2.2.2.2 (x.2.1 (nv x.1 0)))) 44 (if zv 4666723172467343360 < zv (FP.dadd x.2.2.2.2.2.2.2 (FP.ddiv (FP.dsub (x.2.1 (nv x.1 0)) (FP.dsub x.2.2.2.2.2.2.2 (x.2.1 (nv x.1 0)))) (FP.i2d (x.1 3)))) then 4666723172467343360 else (if zv (FP.dadd x.2.2.2.2.2.2.2 (FP.ddiv (FP.dsub (x.2.1 (nv x.1 0)) (FP.dsub x.2.2.2.2.2.2.2 (x.2.1 (nv x.1 0)))) (FP.i2d (x.1 3)))) < zv 13890095209322119168 then 13890095209322119168 else FP.dadd x.2.2.2.2.2.2.2 (FP.ddiv (FP.dsub (x.2.1 (nv x.1 0)) (FP.dsub x.2.2.2.2.2.2.2 (x.2.1 (nv x.1 0)))) (FP.i2d (x.1 3)))))) ah pa pw ai aw sts rf tx len pl ord lr nu hsh) ok 2 44 dX3_laysEnds_257 rfl rfl (by decide) (by decide) rfl ?_
        exact V_vret ok dX3_laysEnds_258 (Nat.zero_le _) (Nat.zero_le _) ⟨rfl, _, hw.ends hv.n.2 (by rw [vu_ne _ _ (by decide), vu_ne _ _ (by omega), vu_eq]; rfl) (by rw [vu_ne _ _ (by omega), vu_eq]; simp [rightB, hr]) (by rw [vu_eq]; simp only [rightLev, hr, if_true]; rfl) (fun j a b c => by rw [vu_ne _ _ c, vu_ne _ _ b, vu_ne _ _ a]), rfl⟩
      refine V_dle (tgt := 240) ok dX3_laysEnds_230 dX3_laysEnds_231 (by decide) hf3 ten_nn (fun h230 => ?_) (fun h230 => ?_)
      · refine V_dload ok dX3_laysEnds_240 0 rfl ?_
        refine V_ldc2d ok twd_X3_69 dX3_laysEnds_242 ?_
        have J245 : V g Γ 6 0 0 257 (modelW g b x.1 (vf_upd (vf_upd wv 0 (if (x.1 4) = 0 then FP.dsub (FP.i2d (x.1 1)) (x.2.2.1 0) else x.2.2.1 0)) (11 + (nv x.1 0)) (FP.dsub x.2.2.2.2.2.2.2 (x.2.1 (nv x.1 0)))) ah pa pw ai aw sts rf tx len pl ord lr nu hsh) [(4, .double (FP.dadd x.2.2.2.2.2.2.2 (FP.ddiv (FP.dsub (x.2.1 (nv x.1 0)) (FP.dsub x.2.2.2.2.2.2.2 (x.2.1 (nv x.1 0)))) (FP.i2d (x.1 3))))), (2, .double (FP.i2d (x.1 1))), (1, .int (nI (nv x.1 0))), (0, .ref (b 0))] [.double (if zv (FP.dadd x.2.2.2.2.2.2.2 (FP.ddiv (FP.dsub (x.2.1 (nv x.1 0)) (FP.dsub x.2.2.2.2.2.2.2 (x.2.1 (nv x.1 0)))) (FP.i2d (x.1 3)))) < zv 13890095209322119168 then 13890095209322119168 else FP.dadd x.2.2.2.2.2.2.2 (FP.ddiv (FP.dsub (x.2.1 (nv x.1 0)) (FP.dsub x.2.2.2.2.2.2.2 (x.2.1 (nv x.1 0)))) (FP.i2d (x.1 3)))), .int (nI 44), .ref (b 2)] := by
          simp only [if_neg h230] at J230
          exact J230
        refine V_dge (tgt := 255) ok dX3_laysEnds_245 dX3_laysEnds_246 (by decide) hf3 mten_nn (fun h245 => ?_) (fun h245 => ?_)
        · refine V_dload ok dX3_laysEnds_255 0 rfl ?_
          simp only [if_neg h245] at J245
          exact J245
        · refine V_ldc2d ok twd_X3_69 dX3_laysEnds_249 ?_
          refine V_goto (tgt := 257) ok dX3_laysEnds_252 (by decide) ?_
          simp only [if_pos h245] at J245
          exact J245
      · refine V_ldc2d ok twd_X3_67 dX3_laysEnds_234 ?_
        refine V_goto (tgt := 257) ok dX3_laysEnds_237 (by decide) ?_
        simp only [if_pos h230] at J230
        exact J230
  refine V_if_ne (tgt := 41) ok dX3_laysEnds_26 (by decide) (fun h26 => ?_) (fun h26 => ?_)
  · refine V_aload_n ok dX3_laysEnds_41 rfl 2 rfl ?_
    refine V_get (v := .ref (b 2)) ok 0 1 tw_X3 twf_X3_13 rfl rfl (by decide) dX3_laysEnds_42 rfl rfl ?_
    refine V_bipush (v := nI 11) ok dX3_laysEnds_45 rfl ?_
    refine V_dald (f := wv) (N := 45) ok 2 11 dX3_laysEnds_47 rfl rfl (by decide) (by decide) ?_
    refine V_top_double (b := x.2.2.1 0) ((hw.1 0 (Nat.zero_le _)).2.1) ?_
    simp only [if_neg h26] at J26
    exact J26
  · refine V_dload_n ok dX3_laysEnds_29 rfl 0 rfl ?_
    refine V_aload_n ok dX3_laysEnds_30 rfl 2 rfl ?_
    refine V_get (v := .ref (b 2)) ok 0 1 tw_X3 twf_X3_13 rfl rfl (by decide) dX3_laysEnds_31 rfl rfl ?_
    refine V_bipush (v := nI 11) ok dX3_laysEnds_34 rfl ?_
    refine V_dald (f := wv) (N := 45) ok 2 11 dX3_laysEnds_36 rfl rfl (by decide) (by decide) ?_
    refine V_top_double (b := x.2.2.1 0) ((hw.1 0 (Nat.zero_le _)).2.1) ?_
    refine V_dsub ok dX3_laysEnds_37 hL ?_
    refine V_goto (tgt := 48) ok dX3_laysEnds_38 (by decide) ?_
    simp only [if_pos h26] at J26
    exact J26
