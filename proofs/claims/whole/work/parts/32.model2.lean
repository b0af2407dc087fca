/-! the reference's rows, moved -/
def pfx {α : Type} (f h : Nat → α) (i : Nat) : Nat → α := fun j => if j < i then h j else f j
def seg {α : Type} (f h : Nat → α) (o i : Nat) : Nat → α := fun j => if o ≤ j ∧ j < o + i then h (j - o) else f j
theorem pfx_0 {α : Type} (f h : Nat → α) : pfx f h 0 = f := by funext j; simp [pfx]
theorem seg_0 {α : Type} (f h : Nat → α) (o : Nat) : seg f h o 0 = f := by funext j; simp only [seg]; rw [if_neg (by omega)]
theorem pfx_hi {α : Type} (f h : Nat → α) {i j : Nat} (hj : i ≤ j) : pfx f h i j = f j := if_neg (by omega)
theorem pfx_lo {α : Type} (f h : Nat → α) {i j : Nat} (hj : j < i) : pfx f h i j = h j := if_pos hj
theorem vu_eq {α : Type} (f : Nat → α) (i : Nat) (x : α) : vf_upd f i x i = x := if_pos rfl
theorem vu_ne {α : Type} (f : Nat → α) {i j : Nat} (x : α) (h : j ≠ i) : vf_upd f i x j = f j := if_neg h
theorem pfx_sD (f h : Nat → UInt64) (i : Nat) : vf_upd (pfx f h i) i (h i) = pfx f h (i + 1) := by
  funext j
  by_cases e : j = i
  · subst e; rw [vu_eq, pfx_lo f h (by omega)]
  · rw [vu_ne _ _ e]; simp only [pfx]
    by_cases h2 : j < i
    · rw [if_pos h2, if_pos (by omega)]
    · rw [if_neg h2, if_neg (by omega)]
theorem pfx_sI (f h : Nat → Int32) (i : Nat) : upd (pfx f h i) i (h i) = pfx f h (i + 1) := by
  funext j
  by_cases e : j = i
  · subst e; rw [upd_eq, pfx_lo f h (by omega)]
  · rw [upd_ne e]; simp only [pfx]
    by_cases h2 : j < i
    · rw [if_pos h2, if_pos (by omega)]
    · rw [if_neg h2, if_neg (by omega)]
theorem seg_sD (f h : Nat → UInt64) (o i : Nat) : vf_upd (seg f h o i) (o + i) (h i) = seg f h o (i + 1) := by
  funext j
  by_cases e : j = o + i
  · subst e; rw [vu_eq]; simp only [seg]; rw [if_pos (by omega), Nat.add_sub_cancel_left]
  · rw [vu_ne _ _ e]; simp only [seg]
    by_cases h2 : o ≤ j ∧ j < o + i
    · rw [if_pos h2, if_pos (by omega)]
    · rw [if_neg h2, if_neg (by omega)]
theorem seg_sI (f h : Nat → Int32) (o i : Nat) : upd (seg f h o i) (o + i) (h i) = seg f h o (i + 1) := by
  funext j
  by_cases e : j = o + i
  · subst e; rw [upd_eq]; simp only [seg]; rw [if_pos (by omega), Nat.add_sub_cancel_left]
  · rw [upd_ne e]; simp only [seg]
    by_cases h2 : o ≤ j ∧ j < o + i
    · rw [if_pos h2, if_pos (by omega)]
    · rw [if_neg h2, if_neg (by omega)]
theorem shI_s (f : Nat → Int32) (c i : Nat) : upd (pfx f (fun j => f (j + c)) i) i (pfx f (fun j => f (j + c)) i (i + c)) = pfx f (fun j => f (j + c)) (i + 1) := by
  rw [pfx_hi f _ (by omega)]; exact pfx_sI f (fun j => f (j + c)) i
theorem shD_s (f : Nat → UInt64) (c i : Nat) : vf_upd (pfx f (fun j => f (j + c)) i) i (pfx f (fun j => f (j + c)) i (i + c)) = pfx f (fun j => f (j + c)) (i + 1) := by
  rw [pfx_hi f _ (by omega)]; exact pfx_sD f (fun j => f (j + c)) i
/-- two rows change places -/
def leaI (pa : Nat → Int32) (sts : Nat) (nw : Nat → Int32) : Nat → Int32 := if sts = 4 then seg (pfx pa (fun j => pa (j + 9)) 27) nw (9 * 3) 9 else seg pa nw (9 * sts) 9
def leaD (pw : Nat → UInt64) (sts : Nat) (wv : Nat → UInt64) : Nat → UInt64 := if sts = 4 then seg (pfx pw (fun j => pw (j + 45)) 135) wv (45 * 3) 45 else seg pw wv (45 * sts) 45
theorem WR.of {x : LineSt} {f h : Nat → UInt64} (H : WR x f) (hx : nv x.1 0 ≤ 10) (e : ∀ i, i < 45 → h i = f i) : WR x h :=
  ⟨fun i hi => by have := H.1 i hi; rw [e i (by omega), e (11 + i) (by omega), e (22 + i) (by omega), e (33 + i) (by omega)]; exact this, by rw [e 44 (by decide)]; exact H.2⟩
theorem seg_in {α : Type} (f h : Nat → α) {o i j : Nat} (hj : j < i) : seg f h o i (o + j) = h j := by
  simp only [seg]; rw [if_pos (by omega), Nat.add_sub_cancel_left]
theorem seg_out {α : Type} (f h : Nat → α) {o i j : Nat} (hj : j < o) : seg f h o i j = f j := by
  simp only [seg]; rw [if_neg (by omega)]
/-- a state is left behind -/
theorem PR.leave {K : Nat → LineSt} {nw sts : Nat} {pa : Nat → Int32} {pw : Nat → UInt64} {x : LineSt} {wv : Nat → UInt64} (H : PR K nw sts pa pw) (hK : ∀ j, j < sts → nv (K ((nw + 5 + j - sts) % 4)).1 0 ≤ 10) (hx : WR x wv) (hx0 : nv x.1 0 ≤ 10) (hst : sts ≤ 4) : PR (ringU K nw x) ((nw + 1) % 4) (stsU sts) (leaI pa sts x.1) (leaD pw sts wv) := by
  by_cases h4 : sts = 4
  · subst h4
    intro j hj
    have hj : j < 4 := hj
    rw [show stsU 4 = 4 from rfl, show leaI pa 4 x.1 = seg (pfx pa (fun j => pa (j + 9)) 27) x.1 (9 * 3) 9 from rfl, show leaD pw 4 wv = seg (pfx pw (fun j => pw (j + 45)) 135) wv (45 * 3) 45 from rfl]
    by_cases h3 : j = 3
    · subst h3
      have e : ringU K nw x (((nw + 1) % 4 + 5 + 3 - 4) % 4) = x := by unfold ringU; rw [show ((nw + 1) % 4 + 5 + 3 - 4) % 4 = (nw + 1) % 4 by omega]; exact vu_eq _ _ _
      rw [e]
      exact ⟨fun i hi => seg_in _ _ hi, hx.of hx0 (fun i hi => seg_in _ _ hi)⟩
    · have e : ringU K nw x (((nw + 1) % 4 + 5 + j - 4) % 4) = K ((nw + 5 + (j + 1) - 4) % 4) := by unfold ringU; rw [vu_ne _ _ (by omega)]; congr 1; omega
      rw [e]
      obtain ⟨h1, h2⟩ := H (j + 1) (by omega)
      refine ⟨fun i hi => ?_, h2.of (hK (j + 1) (by omega)) (fun i hi => ?_)⟩
      · rw [seg_out _ _ (by omega), pfx_lo _ _ (by omega), ← h1 i hi]; congr 1; omega
      · show seg _ _ _ _ _ = pw _
        rw [seg_out _ _ (by omega), pfx_lo _ _ (by omega)]; congr 1; omega
  · have es : stsU sts = sts + 1 := if_neg (by omega)
    intro j hj
    rw [es] at hj ⊢
    rw [show leaI pa sts x.1 = seg pa x.1 (9 * sts) 9 from if_neg h4, show leaD pw sts wv = seg pw wv (45 * sts) 45 from if_neg h4]
    by_cases h3 : j = sts
    · subst h3
      have e : ringU K nw x (((nw + 1) % 4 + 5 + j - (j + 1)) % 4) = x := by unfold ringU; rw [show ((nw + 1) % 4 + 5 + j - (j + 1)) % 4 = (nw + 1) % 4 by omega]; exact vu_eq _ _ _
      rw [e]
      exact ⟨fun i hi => seg_in _ _ hi, hx.of hx0 (fun i hi => seg_in _ _ hi)⟩
    · have e : ringU K nw x (((nw + 1) % 4 + 5 + j - (sts + 1)) % 4) = K ((nw + 5 + j - sts) % 4) := by unfold ringU; rw [vu_ne _ _ (by omega)]; congr 1; omega
      rw [e]
      obtain ⟨h1, h2⟩ := H j (by omega)
      refine ⟨fun i hi => ?_, h2.of (hK j (by omega)) (fun i hi => ?_)⟩
      · rw [seg_out _ _ (by omega)]; exact h1 i hi
      · show seg _ _ _ _ _ = pw _
        rw [seg_out _ _ (by omega)]
theorem PR.drop {K : Nat → LineSt} {nw s : Nat} {pa : Nat → Int32} {pw : Nat → UInt64} (H : PR K nw (s + 1) pa pw) (hs : s < 4) : PR K ((nw + 3) % 4) s pa pw := fun j hj => by
  have h := H j (by omega)
  rw [show ((nw + 3) % 4 + 5 + j - s) % 4 = (nw + 5 + j - (s + 1)) % 4 by omega]
  exact h
set_option maxHeartbeats 4000000 in
set_option maxRecDepth 100000 in
theorem c_X3_swapsAside (g : Glob) (b : Nat → Nat) (nw : Nat → Int32) (wv : Nat → UInt64) (ah : Nat → UInt64) (pa : Nat → Int32) (pw : Nat → UInt64) (ai : Nat → Int32) (aw : Nat → UInt64) (sts : Nat) (rf : Nat → Int32) (tx : Nat → Int32) (len : Nat) (pl : Nat) (ord : Nat) (lr : Nat → Int32) (nu : Nat → Int32) (hsh : Int64)  : Con g yX3_swapsAside cX3_swapsAside 4 none ({ frames := 0, cells := 0, slots := 0, locals := 0 } : Room) [.ref (b 0)] (modelW g b nw wv ah pa pw ai aw sts rf tx len pl ord lr nu hsh) (Is none (modelW g b ai aw ah pa pw nw wv sts rf tx len pl ord lr nu hsh)) := by
  refine con_of_V ypl_X3_swapsAside (Nat.le_of_ble_eq_true rfl) [(0, .ref (b 0))] rfl (fun Γ ok => ?_)
  have H2 : ∀ (n i : Nat), i ≤ 45 → n = 45 - i → V g Γ 4 0 0 42 (modelW g b ai (pfx wv aw i) ah pa pw nw (pfx aw wv i) sts rf tx len pl ord lr nu hsh) [(1, .int (nI i)), (0, .ref (b 0))] [] := by
    intro n
    induction n using Nat.strongRecOn with
    | ind n ih =>
    intro i hi hn
    subst hn
    refine V_iload_n ok dX3_swapsAside_42 rfl 0 rfl ?_
    refine V_bipush (v := nI 45) ok dX3_swapsAside_43 rfl ?_
    refine V_icmpN_ge (tgt := 80) ok dX3_swapsAside_45 (by decide) (by omega) (by omega) (fun h45 => ?_) (fun h45 => ?_)
    · refine V_cd (f := pfx wv aw i) (f2 := aw) (N := 45) (w2 := modelW g b ai aw ah pa pw nw (pfx aw wv i) sts rf tx len pl ord lr nu hsh) 2 rfl (fun j hj => pfx_lo _ _ (by omega)) rfl ?_
      refine V_cd (f := pfx aw wv i) (f2 := wv) (N := 45) (w2 := modelW g b ai aw ah pa pw nw wv sts rf tx len pl ord lr nu hsh) 7 rfl (fun j hj => pfx_lo _ _ (by omega)) rfl ?_
      exact V_vret ok dX3_swapsAside_80 (Nat.zero_le _) (Nat.zero_le _) ⟨rfl, rfl⟩
    · refine V_aload_n ok dX3_swapsAside_48 rfl 1 rfl ?_
      refine V_get (v := .ref (b 2)) ok 0 1 tw_X3 twf_X3_13 rfl rfl (by decide) dX3_swapsAside_49 rfl rfl ?_
      refine V_iload_n ok dX3_swapsAside_52 rfl 0 rfl ?_
      refine V_dald (f := pfx wv aw i) (N := 45) ok 2 i dX3_swapsAside_53 rfl rfl (by omega) (by decide) ?_
      refine V_top_double (b := wv i) (pfx_hi _ _ (Nat.le_refl _)) ?_
      refine V_dstore_n (lv2 := [(2, .double (wv i)), (1, .int (nI i)), (0, .ref (b 0))]) ok dX3_swapsAside_54 rfl (by decide) rfl ?_
      refine V_aload_n ok dX3_swapsAside_55 rfl 2 rfl ?_
      refine V_get (v := .ref (b 2)) ok 0 1 tw_X3 twf_X3_13 rfl rfl (by decide) dX3_swapsAside_56 rfl rfl ?_
      refine V_iload_n ok dX3_swapsAside_59 rfl 1 rfl ?_
      refine V_aload_n ok dX3_swapsAside_60 rfl 2 rfl ?_
      refine V_get (v := .ref (b 7)) ok 0 6 tw_X3 twf_X3_29 rfl rfl (by decide) dX3_swapsAside_61 rfl rfl ?_
      refine V_iload_n ok dX3_swapsAside_64 rfl 1 rfl ?_
      refine V_dald (f := pfx aw wv i) (N := 45) ok 7 i dX3_swapsAside_65 rfl rfl (by omega) (by decide) ?_
      refine V_top_double (b := aw i) (pfx_hi _ _ (Nat.le_refl _)) ?_
      refine V_dast (f := pfx wv aw i) (N := 45) (w2 := modelW g b ai (pfx wv aw (i + 1)) ah pa pw nw (pfx aw wv i) sts rf tx len pl ord lr nu hsh) ok 2 i dX3_swapsAside_66 rfl rfl (by omega) (by decide) (congrArg (fun zz => modelW g b ai zz ah pa pw nw (pfx aw wv i) sts rf tx len pl ord lr nu hsh) (pfx_sD wv aw i)) ?_
      refine V_aload_n ok dX3_swapsAside_67 rfl 2 rfl ?_
      refine V_get (v := .ref (b 7)) ok 0 6 tw_X3 twf_X3_29 rfl rfl (by decide) dX3_swapsAside_68 rfl rfl ?_
      refine V_iload_n ok dX3_swapsAside_71 rfl 1 rfl ?_
      refine V_dload_n ok dX3_swapsAside_72 rfl 0 rfl ?_
      refine V_dast (f := pfx aw wv i) (N := 45) (w2 := modelW g b ai (pfx wv aw (i + 1)) ah pa pw nw (pfx aw wv (i + 1)) sts rf tx len pl ord lr nu hsh) ok 7 i dX3_swapsAside_73 rfl rfl (by omega) (by decide) (congrArg (fun zz => modelW g b ai (pfx wv aw (i + 1)) ah pa pw nw zz sts rf tx len pl ord lr nu hsh) (pfx_sD aw wv i)) ?_
      refine V_iinc (q := 1) (v := nI (i + 1)) (lv2 := [(1, .int (nI (i + 1))), (2, .double (wv i)), (0, .ref (b 0))]) ok dX3_swapsAside_74 rfl (nI_inc i 1) (by decide) rfl ?_
      refine V_goto (tgt := 42) ok dX3_swapsAside_77 (by decide) ?_
      refine V_lv [0, 2] rfl ?_
      exact ih (45 - (i + 1)) (by omega) (i + 1) (by omega) rfl
  have H1 : ∀ (n i : Nat), i ≤ 9 → n = 9 - i → V g Γ 4 0 0 2 (modelW g b (pfx nw ai i) wv ah pa pw (pfx ai nw i) aw sts rf tx len pl ord lr nu hsh) [(1, .int (nI i)), (0, .ref (b 0))] [] := by
    intro n
    induction n using Nat.strongRecOn with
    | ind n ih =>
    intro i hi hn
    subst hn
    refine V_iload_n ok dX3_swapsAside_2 rfl 0 rfl ?_
    refine V_bipush (v := nI 9) ok dX3_swapsAside_3 rfl ?_
    refine V_icmpN_ge (tgt := 40) ok dX3_swapsAside_5 (by decide) (by omega) (by omega) (fun h5 => ?_) (fun h5 => ?_)
    · refine V_ci (f := pfx nw ai i) (f2 := ai) (N := 9) (w2 := modelW g b ai wv ah pa pw (pfx ai nw i) aw sts rf tx len pl ord lr nu hsh) 1 rfl (fun j hj => pfx_lo _ _ (by omega)) rfl ?_
      refine V_ci (f := pfx ai nw i) (f2 := nw) (N := 9) (w2 := modelW g b ai wv ah pa pw nw aw sts rf tx len pl ord lr nu hsh) 6 rfl (fun j hj => pfx_lo _ _ (by omega)) rfl ?_
      refine V_iconst (v := nI 0) ok dX3_swapsAside_40 rfl ?_
      refine V_istore_n (lv2 := [(1, .int (nI 0)), (0, .ref (b 0))]) ok dX3_swapsAside_41 rfl (by decide) rfl ?_
      refine V_lv [0, 1] rfl ?_
      refine V_ws (w2 := modelW g b ai (pfx wv aw 0) ah pa pw nw (pfx aw wv 0) sts rf tx len pl ord lr nu hsh) (by simp only [pfx_0]) ?_
      exact H2 45 0 (by decide) rfl
    · refine V_aload_n ok dX3_swapsAside_8 rfl 1 rfl ?_
      refine V_get (v := .ref (b 1)) ok 0 0 tw_X3 twf_X3_7 rfl rfl (by decide) dX3_swapsAside_9 rfl rfl ?_
      refine V_iload_n ok dX3_swapsAside_12 rfl 0 rfl ?_
      refine V_iald (f := pfx nw ai i) (N := 9) ok 1 i dX3_swapsAside_13 rfl rfl (by omega) (by decide) ?_
      refine V_top_int (b := nw i) (pfx_hi _ _ (Nat.le_refl _)) ?_
      refine V_istore_n (lv2 := [(2, .int (nw i)), (1, .int (nI i)), (0, .ref (b 0))]) ok dX3_swapsAside_14 rfl (by decide) rfl ?_
      refine V_aload_n ok dX3_swapsAside_15 rfl 2 rfl ?_
      refine V_get (v := .ref (b 1)) ok 0 0 tw_X3 twf_X3_7 rfl rfl (by decide) dX3_swapsAside_16 rfl rfl ?_
      refine V_iload_n ok dX3_swapsAside_19 rfl 1 rfl ?_
      refine V_aload_n ok dX3_swapsAside_20 rfl 2 rfl ?_
      refine V_get (v := .ref (b 6)) ok 0 5 tw_X3 twf_X3_26 rfl rfl (by decide) dX3_swapsAside_21 rfl rfl ?_
      refine V_iload_n ok dX3_swapsAside_24 rfl 1 rfl ?_
      refine V_iald (f := pfx ai nw i) (N := 9) ok 6 i dX3_swapsAside_25 rfl rfl (by omega) (by decide) ?_
      refine V_top_int (b := ai i) (pfx_hi _ _ (Nat.le_refl _)) ?_
      refine V_iast (f := pfx nw ai i) (N := 9) (w2 := modelW g b (pfx nw ai (i + 1)) wv ah pa pw (pfx ai nw i) aw sts rf tx len pl ord lr nu hsh) ok 1 i dX3_swapsAside_26 rfl rfl (by omega) (by decide) (congrArg (fun zz => modelW g b zz wv ah pa pw (pfx ai nw i) aw sts rf tx len pl ord lr nu hsh) (pfx_sI nw ai i)) ?_
      refine V_aload_n ok dX3_swapsAside_27 rfl 2 rfl ?_
      refine V_get (v := .ref (b 6)) ok 0 5 tw_X3 twf_X3_26 rfl rfl (by decide) dX3_swapsAside_28 rfl rfl ?_
      refine V_iload_n ok dX3_swapsAside_31 rfl 1 rfl ?_
      refine V_iload_n ok dX3_swapsAside_32 rfl 0 rfl ?_
      refine V_iast (f := pfx ai nw i) (N := 9) (w2 := modelW g b (pfx nw ai (i + 1)) wv ah pa pw (pfx ai nw (i + 1)) aw sts rf tx len pl ord lr nu hsh) ok 6 i dX3_swapsAside_33 rfl rfl (by omega) (by decide) (congrArg (fun zz => modelW g b (pfx nw ai (i + 1)) wv ah pa pw zz aw sts rf tx len pl ord lr nu hsh) (pfx_sI ai nw i)) ?_
      refine V_iinc (q := 1) (v := nI (i + 1)) (lv2 := [(1, .int (nI (i + 1))), (2, .int (nw i)), (0, .ref (b 0))]) ok dX3_swapsAside_34 rfl (nI_inc i 1) (by decide) rfl ?_
      refine V_goto (tgt := 2) ok dX3_swapsAside_37 (by decide) ?_
      refine V_lv [0, 2] rfl ?_
      exact ih (9 - (i + 1)) (by omega) (i + 1) (by omega) rfl
  refine V_iconst (v := nI 0) ok dX3_swapsAside_0 rfl ?_
  refine V_istore_n (lv2 := [(1, .int (nI 0)), (0, .ref (b 0))]) ok dX3_swapsAside_1 rfl (by decide) rfl ?_
  refine V_lv [0, 1] rfl ?_
  refine V_ws (w2 := modelW g b (pfx nw ai 0) wv ah pa pw (pfx ai nw 0) aw sts rf tx len pl ord lr nu hsh) (by simp only [pfx_0]) ?_
  exact H1 9 0 (by decide) rfl
set_option maxHeartbeats 4000000 in
set_option maxRecDepth 100000 in
theorem c_X3_becomesPast (g : Glob) (b : Nat → Nat) (nw : Nat → Int32) (wv : Nat → UInt64) (ah : Nat → UInt64) (pa : Nat → Int32) (pw : Nat → UInt64) (ai : Nat → Int32) (aw : Nat → UInt64) (sts : Nat) (rf : Nat → Int32) (tx : Nat → Int32) (len : Nat) (pl : Nat) (ord : Nat) (lr : Nat → Int32) (nu : Nat → Int32) (hsh : Int64) (c : Nat) (hc : c < 4) : Con g yX3_becomesPast cX3_becomesPast 3 none ({ frames := 0, cells := 0, slots := 0, locals := 0 } : Room) [.ref (b 0), .int (nI c)] (modelW g b nw wv ah pa pw ai aw sts rf tx len pl ord lr nu hsh) (Is none (modelW g b (fun j => pa (9 * c + j)) (fun j => pw (45 * c + j)) ah pa pw ai aw sts rf tx len pl ord lr nu hsh)) := by
  refine con_of_V ypl_X3_becomesPast (Nat.le_of_ble_eq_true rfl) [(0, .ref (b 0)), (1, .int (nI c))] rfl (fun Γ ok => ?_)
  have H2 : ∀ (n i : Nat), i ≤ 45 → n = 45 - i → V g Γ 3 0 0 33 (modelW g b (fun j => pa (9 * c + j)) (pfx wv (fun j => pw (45 * c + j)) i) ah pa pw ai aw sts rf tx len pl ord lr nu hsh) [(2, .int (nI i)), (1, .int (nI c)), (0, .ref (b 0))] [] := by
    intro n
    induction n using Nat.strongRecOn with
    | ind n ih =>
    intro i hi hn
    subst hn
    refine V_iload_n ok dX3_becomesPast_33 rfl 0 rfl ?_
    refine V_bipush (v := nI 45) ok dX3_becomesPast_34 rfl ?_
    refine V_icmpN_ge (tgt := 62) ok dX3_becomesPast_36 (by decide) (by omega) (by omega) (fun h36 => ?_) (fun h36 => ?_)
    · refine V_cd (f := pfx wv (fun j => pw (45 * c + j)) i) (f2 := (fun j => pw (45 * c + j))) (N := 45) (w2 := modelW g b (fun j => pa (9 * c + j)) (fun j => pw (45 * c + j)) ah pa pw ai aw sts rf tx len pl ord lr nu hsh) 2 rfl (fun j hj => pfx_lo _ _ (by omega)) rfl ?_
      exact V_vret ok dX3_becomesPast_62 (Nat.zero_le _) (Nat.zero_le _) ⟨rfl, rfl⟩
    · refine V_aload_n ok dX3_becomesPast_39 rfl 2 rfl ?_
      refine V_get (v := .ref (b 2)) ok 0 1 tw_X3 twf_X3_13 rfl rfl (by decide) dX3_becomesPast_40 rfl rfl ?_
      refine V_iload_n ok dX3_becomesPast_43 rfl 0 rfl ?_
      refine V_aload_n ok dX3_becomesPast_44 rfl 2 rfl ?_
      refine V_get (v := .ref (b 5)) ok 0 4 tw_X3 twf_X3_23 rfl rfl (by decide) dX3_becomesPast_45 rfl rfl ?_
      refine V_bipush (v := nI 45) ok dX3_becomesPast_48 rfl ?_
      refine V_iload_n ok dX3_becomesPast_50 rfl 1 rfl ?_
      refine V_imulN (a := 45) (b := c) (c := 45 * c) ok dX3_becomesPast_51 (by first | rfl | omega) ?_
      refine V_iload_n ok dX3_becomesPast_52 rfl 0 rfl ?_
      refine V_iaddN (a := 45 * c) (b := i) (c := (45 * c) + i) ok dX3_becomesPast_53 (by first | rfl | omega) ?_
      refine V_dald (f := pw) (N := 180) ok 5 ((45 * c) + i) dX3_becomesPast_54 rfl rfl (by omega) (by decide) ?_
      refine V_dast (f := pfx wv (fun j => pw (45 * c + j)) i) (N := 45) (w2 := modelW g b (fun j => pa (9 * c + j)) (pfx wv (fun j => pw (45 * c + j)) (i + 1)) ah pa pw ai aw sts rf tx len pl ord lr nu hsh) ok 2 i dX3_becomesPast_55 rfl rfl (by omega) (by decide) (congrArg (fun zz => modelW g b (fun j => pa (9 * c + j)) zz ah pa pw ai aw sts rf tx len pl ord lr nu hsh) (pfx_sD wv (fun j => pw (45 * c + j)) i)) ?_
      refine V_iinc (q := 0) (v := nI (i + 1)) (lv2 := [(2, .int (nI (i + 1))), (1, .int (nI c)), (0, .ref (b 0))]) ok dX3_becomesPast_56 rfl (nI_inc i 1) (by decide) rfl ?_
      refine V_goto (tgt := 33) ok dX3_becomesPast_59 (by decide) ?_
      refine V_lv [0, 1, 2] rfl ?_
      exact ih (45 - (i + 1)) (by omega) (i + 1) (by omega) rfl
  have H1 : ∀ (n i : Nat), i ≤ 9 → n = 9 - i → V g Γ 3 0 0 2 (modelW g b (pfx nw (fun j => pa (9 * c + j)) i) wv ah pa pw ai aw sts rf tx len pl ord lr nu hsh) [(2, .int (nI i)), (1, .int (nI c)), (0, .ref (b 0))] [] := by
    intro n
    induction n using Nat.strongRecOn with
    | ind n ih =>
    intro i hi hn
    subst hn
    refine V_iload_n ok dX3_becomesPast_2 rfl 0 rfl ?_
    refine V_bipush (v := nI 9) ok dX3_becomesPast_3 rfl ?_
    refine V_icmpN_ge (tgt := 31) ok dX3_becomesPast_5 (by decide) (by omega) (by omega) (fun h5 => ?_) (fun h5 => ?_)
    · refine V_ci (f := pfx nw (fun j => pa (9 * c + j)) i) (f2 := (fun j => pa (9 * c + j))) (N := 9) (w2 := modelW g b (fun j => pa (9 * c + j)) wv ah pa pw ai aw sts rf tx len pl ord lr nu hsh) 1 rfl (fun j hj => pfx_lo _ _ (by omega)) rfl ?_
      refine V_iconst (v := nI 0) ok dX3_becomesPast_31 rfl ?_
      refine V_istore_n (lv2 := [(2, .int (nI 0)), (1, .int (nI c)), (0, .ref (b 0))]) ok dX3_becomesPast_32 rfl (by decide) rfl ?_
      refine V_lv [0, 1, 2] rfl ?_
      refine V_ws (w2 := modelW g b (fun j => pa (9 * c + j)) (pfx wv (fun j => pw (45 * c + j)) 0) ah pa pw ai aw sts rf tx len pl ord lr nu hsh) (by simp only [pfx_0]) ?_
      exact H2 45 0 (by decide) rfl
    · refine V_aload_n ok dX3_becomesPast_8 rfl 2 rfl ?_
      refine V_get (v := .ref (b 1)) ok 0 0 tw_X3 twf_X3_7 rfl rfl (by decide) dX3_becomesPast_9 rfl rfl ?_
      refine V_iload_n ok dX3_becomesPast_12 rfl 0 rfl ?_
      refine V_aload_n ok dX3_becomesPast_13 rfl 2 rfl ?_
      refine V_get (v := .ref (b 4)) ok 0 3 tw_X3 twf_X3_20 rfl rfl (by decide) dX3_becomesPast_14 rfl rfl ?_
      refine V_bipush (v := nI 9) ok dX3_becomesPast_17 rfl ?_
      refine V_iload_n ok dX3_becomesPast_19 rfl 1 rfl ?_
      refine V_imulN (a := 9) (b := c) (c := 9 * c) ok dX3_becomesPast_20 (by first | rfl | omega) ?_
      refine V_iload_n ok dX3_becomesPast_21 rfl 0 rfl ?_
      refine V_iaddN (a := 9 * c) (b := i) (c := (9 * c) + i) ok dX3_becomesPast_22 (by first | rfl | omega) ?_
      refine V_iald (f := pa) (N := 36) ok 4 ((9 * c) + i) dX3_becomesPast_23 rfl rfl (by omega) (by decide) ?_
      refine V_iast (f := pfx nw (fun j => pa (9 * c + j)) i) (N := 9) (w2 := modelW g b (pfx nw (fun j => pa (9 * c + j)) (i + 1)) wv ah pa pw ai aw sts rf tx len pl ord lr nu hsh) ok 1 i dX3_becomesPast_24 rfl rfl (by omega) (by decide) (congrArg (fun zz => modelW g b zz wv ah pa pw ai aw sts rf tx len pl ord lr nu hsh) (pfx_sI nw (fun j => pa (9 * c + j)) i)) ?_
      refine V_iinc (q := 0) (v := nI (i + 1)) (lv2 := [(2, .int (nI (i + 1))), (1, .int (nI c)), (0, .ref (b 0))]) ok dX3_becomesPast_25 rfl (nI_inc i 1) (by decide) rfl ?_
      refine V_goto (tgt := 2) ok dX3_becomesPast_28 (by decide) ?_
      refine V_lv [0, 1, 2] rfl ?_
      exact ih (9 - (i + 1)) (by omega) (i + 1) (by omega) rfl
  refine V_iconst (v := nI 0) ok dX3_becomesPast_0 rfl ?_
  refine V_istore_n (lv2 := [(2, .int (nI 0)), (0, .ref (b 0)), (1, .int (nI c))]) ok dX3_becomesPast_1 rfl (by decide) rfl ?_
  refine V_lv [0, 2, 1] rfl ?_
  refine V_ws (w2 := modelW g b (pfx nw (fun j => pa (9 * c + j)) 0) wv ah pa pw ai aw sts rf tx len pl ord lr nu hsh) (by simp only [pfx_0]) ?_
  exact H1 9 0 (by decide) rfl
set_option maxHeartbeats 4000000 in
set_option maxRecDepth 100000 in
theorem c_X3_leaves (g : Glob) (b : Nat → Nat) (nw : Nat → Int32) (wv : Nat → UInt64) (ah : Nat → UInt64) (pa : Nat → Int32) (pw : Nat → UInt64) (ai : Nat → Int32) (aw : Nat → UInt64) (sts : Nat) (rf : Nat → Int32) (tx : Nat → Int32) (len : Nat) (pl : Nat) (ord : Nat) (lr : Nat → Int32) (nu : Nat → Int32) (hsh : Int64) (hst : sts ≤ 4) : Con g yX3_leaves cX3_leaves 2 none ({ frames := 0, cells := 0, slots := 0, locals := 0 } : Room) [.ref (b 0)] (modelW g b nw wv ah pa pw ai aw sts rf tx len pl ord lr nu hsh) (Is none (modelW g b nw wv ah (leaI pa sts nw) (leaD pw sts wv) ai aw (stsU sts) rf tx len pl ord lr nu hsh)) := by
  refine con_of_V ypl_X3_leaves (Nat.le_of_ble_eq_true rfl) [(0, .ref (b 0))] rfl (fun Γ ok => ?_)
  have HD : ∀ (n i : Nat) (s : Nat) (pa1 : Nat → Int32) (pw1 : Nat → UInt64), i ≤ 45 → n = 45 - i → (s ≤ 3 ∧ s + 1 = stsU sts ∧ seg pa1 nw (9 * s) 9 = leaI pa sts nw ∧ seg pw1 wv (45 * s) 45 = leaD pw sts wv) → V g Γ 2 0 0 113 (modelW g b nw wv ah (seg pa1 nw (9 * s) 9) (seg pw1 wv (45 * s) i) ai aw s rf tx len pl ord lr nu hsh) [(1, .int (nI i)), (0, .ref (b 0))] [] := by
    intro n
    induction n using Nat.strongRecOn with
    | ind n ih =>
    intro i s pa1 pw1 hi hn hI
    subst hn
    refine V_iload_n ok dX3_leaves_113 rfl 0 rfl ?_
    refine V_bipush (v := nI 45) ok dX3_leaves_114 rfl ?_
    refine V_icmpN_ge (tgt := 145) ok dX3_leaves_116 (by decide) (by omega) (by omega) (fun h116 => ?_) (fun h116 => ?_)
    · refine V_aload_n ok dX3_leaves_145 rfl 1 rfl ?_
      refine V_dup ok dX3_leaves_146 rfl ?_
      refine V_get (v := .int (nI s)) ok 0 7 tw_X3 twf_X3_49 rfl rfl (by decide) dX3_leaves_147 rfl rfl ?_
      refine V_iconst (v := nI 1) ok dX3_leaves_150 rfl ?_
      refine V_iaddN (a := s) (b := 1) (c := s + 1) ok dX3_leaves_151 (by first | rfl | omega) ?_
      refine V_put (w2 := modelW g b nw wv ah (seg pa1 nw (9 * s) 9) (seg pw1 wv (45 * s) i) ai aw (s + 1) rf tx len pl ord lr nu hsh) ok 0 7 tw_X3 tyX3 tyX3_ok nmX3 twf_X3_49 rfl rfl (by decide) rfl rfl dX3_leaves_152 rfl rfl rfl (Nat.lt_of_lt_of_eq (m := 16) (by decide) rfl) rfl ?_
      exact V_vret ok dX3_leaves_155 (Nat.zero_le _) (Nat.zero_le _) ⟨rfl, by rw [show i = 45 by omega, hI.2.1, hI.2.2.1, hI.2.2.2]⟩
    · refine V_aload_n ok dX3_leaves_119 rfl 1 rfl ?_
      refine V_get (v := .ref (b 5)) ok 0 4 tw_X3 twf_X3_23 rfl rfl (by decide) dX3_leaves_120 rfl rfl ?_
      refine V_bipush (v := nI 45) ok dX3_leaves_123 rfl ?_
      refine V_aload_n ok dX3_leaves_125 rfl 1 rfl ?_
      refine V_get (v := .int (nI s)) ok 0 7 tw_X3 twf_X3_49 rfl rfl (by decide) dX3_leaves_126 rfl rfl ?_
      refine V_imulN (a := 45) (b := s) (c := 45 * s) ok dX3_leaves_129 (by first | rfl | omega) ?_
      refine V_iload_n ok dX3_leaves_130 rfl 0 rfl ?_
      refine V_iaddN (a := 45 * s) (b := i) (c := (45 * s) + i) ok dX3_leaves_131 (by first | rfl | omega) ?_
      refine V_aload_n ok dX3_leaves_132 rfl 1 rfl ?_
      refine V_get (v := .ref (b 2)) ok 0 1 tw_X3 twf_X3_13 rfl rfl (by decide) dX3_leaves_133 rfl rfl ?_
      refine V_iload_n ok dX3_leaves_136 rfl 0 rfl ?_
      refine V_dald (f := wv) (N := 45) ok 2 i dX3_leaves_137 rfl rfl (by omega) (by decide) ?_
      refine V_dast (f := seg pw1 wv (45 * s) i) (N := 180) (w2 := modelW g b nw wv ah (seg pa1 nw (9 * s) 9) (seg pw1 wv (45 * s) (i + 1)) ai aw s rf tx len pl ord lr nu hsh) ok 5 ((45 * s) + i) dX3_leaves_138 rfl rfl (by omega) (by decide) (congrArg (fun zz => modelW g b nw wv ah (seg pa1 nw (9 * s) 9) zz ai aw s rf tx len pl ord lr nu hsh) (seg_sD pw1 wv (45 * s) i)) ?_
      refine V_iinc (q := 0) (v := nI (i + 1)) (lv2 := [(1, .int (nI (i + 1))), (0, .ref (b 0))]) ok dX3_leaves_139 rfl (nI_inc i 1) (by decide) rfl ?_
      refine V_goto (tgt := 113) ok dX3_leaves_142 (by decide) ?_
      refine V_lv [0, 1] rfl ?_
      exact ih (45 - (i + 1)) (by omega) (i + 1) s pa1 pw1 (by omega) rfl hI
  have HC : ∀ (n i : Nat) (s : Nat) (pa1 : Nat → Int32) (pw1 : Nat → UInt64), i ≤ 9 → n = 9 - i → (s ≤ 3 ∧ s + 1 = stsU sts ∧ seg pa1 nw (9 * s) 9 = leaI pa sts nw ∧ seg pw1 wv (45 * s) 45 = leaD pw sts wv) → V g Γ 2 0 0 79 (modelW g b nw wv ah (seg pa1 nw (9 * s) i) pw1 ai aw s rf tx len pl ord lr nu hsh) [(1, .int (nI i)), (0, .ref (b 0))] [] := by
    intro n
    induction n using Nat.strongRecOn with
    | ind n ih =>
    intro i s pa1 pw1 hi hn hI
    subst hn
    refine V_iload_n ok dX3_leaves_79 rfl 0 rfl ?_
    refine V_bipush (v := nI 9) ok dX3_leaves_80 rfl ?_
    refine V_icmpN_ge (tgt := 111) ok dX3_leaves_82 (by decide) (by omega) (by omega) (fun h82 => ?_) (fun h82 => ?_)
    · refine V_iconst (v := nI 0) ok dX3_leaves_111 rfl ?_
      refine V_istore_n (lv2 := [(1, .int (nI 0)), (0, .ref (b 0))]) ok dX3_leaves_112 rfl (by decide) rfl ?_
      refine V_lv [0, 1] rfl ?_
      refine V_ws (w2 := modelW g b nw wv ah (seg pa1 nw (9 * s) 9) (seg pw1 wv (45 * s) 0) ai aw s rf tx len pl ord lr nu hsh) (by rw [seg_0, show i = 9 by omega]) ?_
      exact HD 45 0 s pa1 pw1 (by decide) rfl hI
    · refine V_aload_n ok dX3_leaves_85 rfl 1 rfl ?_
      refine V_get (v := .ref (b 4)) ok 0 3 tw_X3 twf_X3_20 rfl rfl (by decide) dX3_leaves_86 rfl rfl ?_
      refine V_bipush (v := nI 9) ok dX3_leaves_89 rfl ?_
      refine V_aload_n ok dX3_leaves_91 rfl 1 rfl ?_
      refine V_get (v := .int (nI s)) ok 0 7 tw_X3 twf_X3_49 rfl rfl (by decide) dX3_leaves_92 rfl rfl ?_
      refine V_imulN (a := 9) (b := s) (c := 9 * s) ok dX3_leaves_95 (by first | rfl | omega) ?_
      refine V_iload_n ok dX3_leaves_96 rfl 0 rfl ?_
      refine V_iaddN (a := 9 * s) (b := i) (c := (9 * s) + i) ok dX3_leaves_97 (by first | rfl | omega) ?_
      refine V_aload_n ok dX3_leaves_98 rfl 1 rfl ?_
      refine V_get (v := .ref (b 1)) ok 0 0 tw_X3 twf_X3_7 rfl rfl (by decide) dX3_leaves_99 rfl rfl ?_
      refine V_iload_n ok dX3_leaves_102 rfl 0 rfl ?_
      refine V_iald (f := nw) (N := 9) ok 1 i dX3_leaves_103 rfl rfl (by omega) (by decide) ?_
      refine V_iast (f := seg pa1 nw (9 * s) i) (N := 36) (w2 := modelW g b nw wv ah (seg pa1 nw (9 * s) (i + 1)) pw1 ai aw s rf tx len pl ord lr nu hsh) ok 4 ((9 * s) + i) dX3_leaves_104 rfl rfl (by omega) (by decide) (congrArg (fun zz => modelW g b nw wv ah zz pw1 ai aw s rf tx len pl ord lr nu hsh) (seg_sI pa1 nw (9 * s) i)) ?_
      refine V_iinc (q := 0) (v := nI (i + 1)) (lv2 := [(1, .int (nI (i + 1))), (0, .ref (b 0))]) ok dX3_leaves_105 rfl (nI_inc i 1) (by decide) rfl ?_
      refine V_goto (tgt := 79) ok dX3_leaves_108 (by decide) ?_
      refine V_lv [0, 1] rfl ?_
      exact ih (9 - (i + 1)) (by omega) (i + 1) s pa1 pw1 (by omega) rfl hI
  refine V_aload_n ok dX3_leaves_0 rfl 0 rfl ?_
  refine V_get (v := .int (nI sts)) ok 0 7 tw_X3 twf_X3_49 rfl rfl (by decide) dX3_leaves_1 rfl rfl ?_
  refine V_iconst (v := nI 4) ok dX3_leaves_4 rfl ?_
  refine V_icmpN_ne (tgt := 77) ok dX3_leaves_5 (by decide) (by omega) (by omega) (fun h4 => ?_) (fun h4 => ?_)
  · refine V_iconst (v := nI 0) ok dX3_leaves_77 rfl ?_
    refine V_istore_n (lv2 := [(1, .int (nI 0)), (0, .ref (b 0))]) ok dX3_leaves_78 rfl (by decide) rfl ?_
    refine V_lv [0, 1] rfl ?_
    refine V_ws (w2 := modelW g b nw wv ah (seg pa nw (9 * sts) 0) pw ai aw sts rf tx len pl ord lr nu hsh) (by rw [seg_0]) ?_
    exact HC 9 0 sts pa pw (by decide) rfl ⟨by omega, (if_neg (by omega)).symm, (if_neg h4).symm, (if_neg h4).symm⟩
  · have HB : ∀ (n i : Nat), i ≤ 135 → n = 135 - i → V g Γ 2 0 0 39 (modelW g b nw wv ah (pfx pa (fun j => pa (j + 9)) 27) (pfx pw (fun j => pw (j + 45)) i) ai aw sts rf tx len pl ord lr nu hsh) [(1, .int (nI i)), (0, .ref (b 0))] [] := by
      intro n
      induction n using Nat.strongRecOn with
      | ind n ih =>
      intro i hi hn
      subst hn
      refine V_iload_n ok dX3_leaves_39 rfl 0 rfl ?_
      refine V_sipush (v := nI 135) ok dX3_leaves_40 rfl ?_
      refine V_icmpN_ge (tgt := 67) ok dX3_leaves_43 (by decide) (by omega) (by omega) (fun h43 => ?_) (fun h43 => ?_)
      · refine V_ws (w2 := modelW g b nw wv ah (pfx pa (fun j => pa (j + 9)) 27) (pfx pw (fun j => pw (j + 45)) 135) ai aw sts rf tx len pl ord lr nu hsh) (by rw [show i = 135 by omega]) ?_
        refine V_aload_n ok dX3_leaves_67 rfl 1 rfl ?_
        refine V_dup ok dX3_leaves_68 rfl ?_
        refine V_get (v := .int (nI sts)) ok 0 7 tw_X3 twf_X3_49 rfl rfl (by decide) dX3_leaves_69 rfl rfl ?_
        refine V_iconst (v := nI 1) ok dX3_leaves_72 rfl ?_
        refine V_isubN (a := sts) (b := 1) (c := 3) ok dX3_leaves_73 (by omega) (by omega) ?_
        refine V_put (w2 := modelW g b nw wv ah (pfx pa (fun j => pa (j + 9)) 27) (pfx pw (fun j => pw (j + 45)) 135) ai aw 3 rf tx len pl ord lr nu hsh) ok 0 7 tw_X3 tyX3 tyX3_ok nmX3 twf_X3_49 rfl rfl (by decide) rfl rfl dX3_leaves_74 rfl rfl rfl (Nat.lt_of_lt_of_eq (m := 16) (by decide) rfl) rfl ?_
        refine V_iconst (v := nI 0) ok dX3_leaves_77 rfl ?_
        refine V_istore_n (lv2 := [(1, .int (nI 0)), (0, .ref (b 0))]) ok dX3_leaves_78 rfl (by decide) rfl ?_
        refine V_lv [0, 1] rfl ?_
        refine V_ws (w2 := modelW g b nw wv ah (seg (pfx pa (fun j => pa (j + 9)) 27) nw (9 * 3) 0) (pfx pw (fun j => pw (j + 45)) 135) ai aw 3 rf tx len pl ord lr nu hsh) (by rw [seg_0]) ?_
        exact HC 9 0 3 (pfx pa (fun j => pa (j + 9)) 27) (pfx pw (fun j => pw (j + 45)) 135) (by decide) rfl ⟨by decide, by rw [h4]; rfl, (if_pos h4).symm, (if_pos h4).symm⟩
      · refine V_aload_n ok dX3_leaves_46 rfl 1 rfl ?_
        refine V_get (v := .ref (b 5)) ok 0 4 tw_X3 twf_X3_23 rfl rfl (by decide) dX3_leaves_47 rfl rfl ?_
        refine V_iload_n ok dX3_leaves_50 rfl 0 rfl ?_
        refine V_aload_n ok dX3_leaves_51 rfl 1 rfl ?_
        refine V_get (v := .ref (b 5)) ok 0 4 tw_X3 twf_X3_23 rfl rfl (by decide) dX3_leaves_52 rfl rfl ?_
        refine V_iload_n ok dX3_leaves_55 rfl 0 rfl ?_
        refine V_bipush (v := nI 45) ok dX3_leaves_56 rfl ?_
        refine V_iaddN (a := i) (b := 45) (c := i + 45) ok dX3_leaves_58 (by first | rfl | omega) ?_
        refine V_dald (f := pfx pw (fun j => pw (j + 45)) i) (N := 180) ok 5 (i + 45) dX3_leaves_59 rfl rfl (by omega) (by decide) ?_
        refine V_dast (f := pfx pw (fun j => pw (j + 45)) i) (N := 180) (w2 := modelW g b nw wv ah (pfx pa (fun j => pa (j + 9)) 27) (pfx pw (fun j => pw (j + 45)) (i + 1)) ai aw sts rf tx len pl ord lr nu hsh) ok 5 i dX3_leaves_60 rfl rfl (by omega) (by decide) (congrArg (fun zz => modelW g b nw wv ah (pfx pa (fun j => pa (j + 9)) 27) zz ai aw sts rf tx len pl ord lr nu hsh) (shD_s pw 45 i)) ?_
        refine V_iinc (q := 0) (v := nI (i + 1)) (lv2 := [(1, .int (nI (i + 1))), (0, .ref (b 0))]) ok dX3_leaves_61 rfl (nI_inc i 1) (by decide) rfl ?_
        refine V_goto (tgt := 39) ok dX3_leaves_64 (by decide) ?_
        refine V_lv [0, 1] rfl ?_
        exact ih (135 - (i + 1)) (by omega) (i + 1) (by omega) rfl
    have HA : ∀ (n i : Nat), i ≤ 27 → n = 27 - i → V g Γ 2 0 0 10 (modelW g b nw wv ah (pfx pa (fun j => pa (j + 9)) i) pw ai aw sts rf tx len pl ord lr nu hsh) [(1, .int (nI i)), (0, .ref (b 0))] [] := by
      intro n
      induction n using Nat.strongRecOn with
      | ind n ih =>
      intro i hi hn
      subst hn
      refine V_iload_n ok dX3_leaves_10 rfl 0 rfl ?_
      refine V_bipush (v := nI 27) ok dX3_leaves_11 rfl ?_
      refine V_icmpN_ge (tgt := 37) ok dX3_leaves_13 (by decide) (by omega) (by omega) (fun h13 => ?_) (fun h13 => ?_)
      · refine V_ws (w2 := modelW g b nw wv ah (pfx pa (fun j => pa (j + 9)) 27) pw ai aw sts rf tx len pl ord lr nu hsh) (by rw [show i = 27 by omega]) ?_
        refine V_iconst (v := nI 0) ok dX3_leaves_37 rfl ?_
        refine V_istore_n (lv2 := [(1, .int (nI 0)), (0, .ref (b 0))]) ok dX3_leaves_38 rfl (by decide) rfl ?_
        refine V_lv [0, 1] rfl ?_
        refine V_ws (w2 := modelW g b nw wv ah (pfx pa (fun j => pa (j + 9)) 27) (pfx pw (fun j => pw (j + 45)) 0) ai aw sts rf tx len pl ord lr nu hsh) (by rw [pfx_0 pw]) ?_
        exact HB 135 0 (by decide) rfl
      · refine V_aload_n ok dX3_leaves_16 rfl 1 rfl ?_
        refine V_get (v := .ref (b 4)) ok 0 3 tw_X3 twf_X3_20 rfl rfl (by decide) dX3_leaves_17 rfl rfl ?_
        refine V_iload_n ok dX3_leaves_20 rfl 0 rfl ?_
        refine V_aload_n ok dX3_leaves_21 rfl 1 rfl ?_
        refine V_get (v := .ref (b 4)) ok 0 3 tw_X3 twf_X3_20 rfl rfl (by decide) dX3_leaves_22 rfl rfl ?_
        refine V_iload_n ok dX3_leaves_25 rfl 0 rfl ?_
        refine V_bipush (v := nI 9) ok dX3_leaves_26 rfl ?_
        refine V_iaddN (a := i) (b := 9) (c := i + 9) ok dX3_leaves_28 (by first | rfl | omega) ?_
        refine V_iald (f := pfx pa (fun j => pa (j + 9)) i) (N := 36) ok 4 (i + 9) dX3_leaves_29 rfl rfl (by omega) (by decide) ?_
        refine V_iast (f := pfx pa (fun j => pa (j + 9)) i) (N := 36) (w2 := modelW g b nw wv ah (pfx pa (fun j => pa (j + 9)) (i + 1)) pw ai aw sts rf tx len pl ord lr nu hsh) ok 4 i dX3_leaves_30 rfl rfl (by omega) (by decide) (congrArg (fun zz => modelW g b nw wv ah zz pw ai aw sts rf tx len pl ord lr nu hsh) (shI_s pa 9 i)) ?_
        refine V_iinc (q := 0) (v := nI (i + 1)) (lv2 := [(1, .int (nI (i + 1))), (0, .ref (b 0))]) ok dX3_leaves_31 rfl (nI_inc i 1) (by decide) rfl ?_
        refine V_goto (tgt := 10) ok dX3_leaves_34 (by decide) ?_
        refine V_lv [0, 1] rfl ?_
        exact ih (27 - (i + 1)) (by omega) (i + 1) (by omega) rfl
    refine V_iconst (v := nI 0) ok dX3_leaves_8 rfl ?_
    refine V_istore_n (lv2 := [(1, .int (nI 0)), (0, .ref (b 0))]) ok dX3_leaves_9 rfl (by decide) rfl ?_
    refine V_lv [0, 1] rfl ?_
    refine V_ws (w2 := modelW g b nw wv ah (pfx pa (fun j => pa (j + 9)) 0) pw ai aw sts rf tx len pl ord lr nu hsh) (by rw [pfx_0 pa]) ?_
    exact HA 27 0 (by decide) rfl
