/-! THE REFERENCE: its cells, and how its row of waves stands to a Line -/
abbrev modelW (g : Glob) (b : Nat → Nat) (nw : Nat → Int32) (wv : Nat → UInt64) (ah : Nat → UInt64) (pa : Nat → Int32) (pw : Nat → UInt64) (ai : Nat → Int32) (aw : Nat → UInt64) (sts : Nat) (rf : Nat → Int32) (tx : Nat → Int32) (len : Nat) (pl : Nat) (ord : Nat) (lr : Nat → Int32) (nu : Nat → Int32) (hsh : Int64) : va_W :=
  [(b 0, .inr (3, [.ref (b 1), .ref (b 2), .ref (b 3), .ref (b 4), .ref (b 5), .ref (b 6), .ref (b 7), .int (nI sts), .ref (b 8), .ref (b 9), .int (nI len), .int (nI pl), .int (nI ord), .ref (b 10), .ref (b 11), .long hsh])), (b 1, .inl (cI g, 9, .inl nw)), (b 2, .inl (cD g, 45, .inr (.inr (.inr (.inl wv))))), (b 3, .inl (cD g, 22, .inr (.inr (.inr (.inl ah))))), (b 4, .inl (cI g, 36, .inl pa)), (b 5, .inl (cD g, 180, .inr (.inr (.inr (.inl pw))))), (b 6, .inl (cI g, 9, .inl ai)), (b 7, .inl (cD g, 45, .inr (.inr (.inr (.inl aw))))), (b 8, .inl (cI g, 3, .inl rf)), (b 9, .inl (cI g, 100, .inl tx)), (b 10, .inl (cI g, 50, .inl lr)), (b 11, .inl (cI g, 100, .inl nu))]
section VCALLX
variable {g : Glob} {Γ : Ctx} {y : MethodName} {cc : ByteArray} {nL : Nat} {ret : Option FieldType} {rm : Room} {post : Option Value → va_W → Prop} {k n pc : Nat} {ws : va_W} {lv : List (Nat × Value)} {st : List Value}
variable {y2 : MethodName} {cc2 : ByteArray} {maxL2 : Nat} {ret2 : Option FieldType} {rm2 : Room} {As : List Value} {post2 : Option Value → va_W → Prop} {index : Nat} {rest : List Value}
/-- a call on the whole world, its outcome told by any post -/
theorem V_cX (ok : OK g Γ y cc nL ret rm post) {b : Nat} {fs : List Value} {TT : u_T} {NN : Nat} (q0 ci : Nat) (hM : Con g y2 cc2 maxL2 ret2 rm2 (.ref b :: As) ws post2) (nA : Nat) (hlink : Cond.methodLink y.cls index y2 ∈ Tw) (hin : Cond.instanceMethod y2 ∈ Tw) (hsel : Cond.selects y2.cls y2 y2 ∈ Tw) (hini : Cond.initialized y2.cls ∈ Tw) (hcode : Cond.code y2 cc2 maxL2 ret2 ∈ Tw) (hy : yOK y2 nA) (hR : rm2.frames + 1 ≤ rm.frames ∧ 8 + (maxL2 + 11) + rm2.locals ≤ rm.locals) (hz : rm2.cells = 0 ∧ rm2.slots = 0) (hd : decode cc pc = .ok (.invokevirtual index, 3)) (hcl : vwCl[ci]? = some (y2.cls, TT, NN)) (he : ws[q0]? = some (b, .inr (ci, fs))) (hn : As.length = nA) (hst : st = As.reverse ++ .ref b :: rest) (hcat : (rest.map fun v => v.category).sum ≤ 8) (hf : k ≤ rm.cells ∧ n ≤ rm.slots)
    (kk : ∀ v w, post2 v w → V g Γ nL k n (pc + 3) w lv (v.toList ++ rest)) : V g Γ nL k n pc ws lv st := fun H locs ls hP hD hS hl => by
  refine V_afterW ok (va_runV (C := y2.cls) (b := b) (As := As) (rest := rest) ⟨ok.hx, ok.hb, ok.hml, ok.hown, ok.hts⟩ (hM H.size) ⟨callB_of nA ok.hts (tw_gi hcode) rfl rfl rfl (ok.hts _ hini) (ok.hts _ hlink) hy (by rw [ok.hR]; exact hR), ok.hts _ hin, ok.hts _ hsel⟩ ⟨Pp_blind, va_recv ok.hK hP hcl he, fun U hU hW => Pp_startW ok hP hD hS (.ref b :: As) U hU hW⟩ rfl hn hl.1 hst (lv_room hcat) hd (by rw [ok.hR, hz.1, hz.2]; exact hf)) hP hD hS hl (fun v w h => ?_)
  rw [hz.1, hz.2]
  exact kk v w h
end VCALLX
/-- the row of waves tells a Line's, up to the last node -/
def WR (x : LineSt) (wv : Nat → UInt64) : Prop := (∀ i, i ≤ nv x.1 0 → wv i = x.2.1 i ∧ wv (11 + i) = x.2.2.1 i ∧ wv (22 + i) = x.2.2.2.1 i ∧ wv (33 + i) = x.2.2.2.2.1 i) ∧ wv 44 = x.2.2.2.2.2.2.2
/-- the rows of the past tell the ring's states, the oldest first -/
def PR (K : Nat → LineSt) (nw sts : Nat) (pa : Nat → Int32) (pw : Nat → UInt64) : Prop := ∀ j, j < sts → (∀ i, i < 9 → pa (9 * j + i) = (K ((nw + 5 + j - sts) % 4)).1 i) ∧ WR (K ((nw + 5 + j - sts) % 4)) (fun i => pw (45 * j + i))
def wiB (v lo hi : Int32) : Bool := if v < lo then false else if hi < v then false else true
theorem wiB_iff {v lo hi : Int32} : wiB v lo hi = true ↔ ¬ v < lo ∧ ¬ hi < v := by
  unfold wiB
  split
  · simp [*]
  · split <;> simp [*]
set_option maxHeartbeats 4000000 in
set_option maxRecDepth 100000 in
theorem c_X3_within (g : Glob) (v lo hi : Int32) : Con g yX3_within cX3_within 3 (some .boolean) ({ frames := 0, cells := 0, slots := 0, locals := 0 } : Room) [.int v, .int lo, .int hi] ([]) (Is (some (.int (bI (wiB v lo hi)))) []) := by
  refine con_of_V ypl_X3_within (Nat.le_of_ble_eq_true rfl) [(0, .int v), (1, .int lo), (2, .int hi)] rfl (fun Γ ok => ?_)
  refine V_iload_n ok dX3_within_0 rfl 0 rfl ?_
  refine V_iload_n ok dX3_within_1 rfl 1 rfl ?_
  refine V_icmp_lt (tgt := 14) ok dX3_within_2 (by decide) (fun h2 => ?_) (fun h2 => ?_)
  · refine V_iconst (v := nI 0) ok dX3_within_14 rfl ?_
    exact V_zret ok dX3_within_15 (Nat.zero_le _) (Nat.zero_le _) rfl ⟨bI_f (by unfold wiB; rw [if_pos h2]), rfl⟩
  · refine V_iload_n ok dX3_within_5 rfl 0 rfl ?_
    refine V_iload_n ok dX3_within_6 rfl 2 rfl ?_
    refine V_icmp_gt (tgt := 14) ok dX3_within_7 (by decide) (fun h7 => ?_) (fun h7 => ?_)
    · refine V_iconst (v := nI 0) ok dX3_within_14 rfl ?_
      exact V_zret ok dX3_within_15 (Nat.zero_le _) (Nat.zero_le _) rfl ⟨bI_f (by unfold wiB; rw [if_neg h2, if_pos h7]), rfl⟩
    · refine V_iconst (v := nI 1) ok dX3_within_10 rfl ?_
      refine V_goto (tgt := 15) ok dX3_within_11 (by decide) ?_
      exact V_zret ok dX3_within_15 (Nat.zero_le _) (Nat.zero_le _) rfl ⟨bI_t (by unfold wiB; rw [if_neg h2, if_neg h7]), rfl⟩
theorem up_all {f h : Nat → UInt64} {i : Nat} (hI : ∀ j, j < i → f j = h j) : ∀ j, j < i + 1 → vf_upd f i (h i) j = h j := fun j hj => by
  simp only [vf_upd]
  split
  · subst_vars; rfl
  · exact hI j (by omega)
theorem up_alli {f h : Nat → Int32} {i : Nat} (hI : ∀ j, j < i → f j = h j) : ∀ j, j < i + 1 → upd f i (h i) j = h j := fun j hj => by
  by_cases e : j = i
  · subst e; exact upd_eq ..
  · rw [upd_ne e]; exact hI j (by omega)
set_option maxHeartbeats 4000000 in
set_option maxRecDepth 100000 in
theorem c_X3_counts_m2 (g : Glob) (b : Nat → Nat) (nw : Nat → Int32) (wv : Nat → UInt64) (ah : Nat → UInt64) (pa : Nat → Int32) (pw : Nat → UInt64) (ai : Nat → Int32) (aw : Nat → UInt64) (sts : Nat) (rf : Nat → Int32) (tx : Nat → Int32) (len : Nat) (pl : Nat) (ord : Nat) (lr : Nat → Int32) (nu : Nat → Int32) (hsh : Int64)  : Con g yX3_counts cX3_counts 2 (some .int) ({ frames := 0, cells := 0, slots := 0, locals := 0 } : Room) [.ref (b 0), .int (-2)] (modelW g b nw wv ah pa pw ai aw sts rf tx len pl ord lr nu hsh) (Is (some (.int (-2))) (modelW g b nw wv ah pa pw ai aw sts (rfU rf (-2)) tx len pl ord lr nu hsh)) := by
  refine con_of_V ypl_X3_counts (Nat.le_of_ble_eq_true rfl) [(0, .ref (b 0)), (1, .int (-2))] rfl (fun Γ ok => ?_)
  refine V_aload_n ok dX3_counts_0 rfl 0 rfl ?_
  refine V_get (v := .ref (b 8)) ok 0 8 tw_X3 twf_X3_32 rfl rfl (by decide) dX3_counts_1 rfl rfl ?_
  refine V_bipush (v := (-2)) ok dX3_counts_4 rfl ?_
  refine V_iload_n ok dX3_counts_6 rfl 1 rfl ?_
  refine V_isub ok dX3_counts_7 ?_
  refine V_top_int (b := nI 0) (by decide) ?_
  refine V_dup2_11 ok dX3_counts_8 rfl rfl ?_
  refine V_iald (f := rf) (N := 3) ok 8 0 dX3_counts_9 rfl rfl (by decide) (by decide) ?_
  refine V_iconst (v := nI 1) ok dX3_counts_10 rfl ?_
  refine V_iadd ok dX3_counts_11 ?_
  refine V_iast (f := rf) (N := 3) (w2 := modelW g b nw wv ah pa pw ai aw sts (upd rf 0 ((rf 0) + (nI 1))) tx len pl ord lr nu hsh) ok 8 0 dX3_counts_12 rfl rfl (by decide) (by decide) rfl ?_
  refine V_iload_n ok dX3_counts_13 rfl 1 rfl ?_
  exact V_iret ok dX3_counts_14 (Nat.zero_le _) (Nat.zero_le _) ⟨rfl, rfl⟩
set_option maxHeartbeats 4000000 in
set_option maxRecDepth 100000 in
theorem c_X3_counts_m3 (g : Glob) (b : Nat → Nat) (nw : Nat → Int32) (wv : Nat → UInt64) (ah : Nat → UInt64) (pa : Nat → Int32) (pw : Nat → UInt64) (ai : Nat → Int32) (aw : Nat → UInt64) (sts : Nat) (rf : Nat → Int32) (tx : Nat → Int32) (len : Nat) (pl : Nat) (ord : Nat) (lr : Nat → Int32) (nu : Nat → Int32) (hsh : Int64)  : Con g yX3_counts cX3_counts 2 (some .int) ({ frames := 0, cells := 0, slots := 0, locals := 0 } : Room) [.ref (b 0), .int (-3)] (modelW g b nw wv ah pa pw ai aw sts rf tx len pl ord lr nu hsh) (Is (some (.int (-3))) (modelW g b nw wv ah pa pw ai aw sts (rfU rf (-3)) tx len pl ord lr nu hsh)) := by
  refine con_of_V ypl_X3_counts (Nat.le_of_ble_eq_true rfl) [(0, .ref (b 0)), (1, .int (-3))] rfl (fun Γ ok => ?_)
  refine V_aload_n ok dX3_counts_0 rfl 0 rfl ?_
  refine V_get (v := .ref (b 8)) ok 0 8 tw_X3 twf_X3_32 rfl rfl (by decide) dX3_counts_1 rfl rfl ?_
  refine V_bipush (v := (-2)) ok dX3_counts_4 rfl ?_
  refine V_iload_n ok dX3_counts_6 rfl 1 rfl ?_
  refine V_isub ok dX3_counts_7 ?_
  refine V_top_int (b := nI 1) (by decide) ?_
  refine V_dup2_11 ok dX3_counts_8 rfl rfl ?_
  refine V_iald (f := rf) (N := 3) ok 8 1 dX3_counts_9 rfl rfl (by decide) (by decide) ?_
  refine V_iconst (v := nI 1) ok dX3_counts_10 rfl ?_
  refine V_iadd ok dX3_counts_11 ?_
  refine V_iast (f := rf) (N := 3) (w2 := modelW g b nw wv ah pa pw ai aw sts (upd rf 1 ((rf 1) + (nI 1))) tx len pl ord lr nu hsh) ok 8 1 dX3_counts_12 rfl rfl (by decide) (by decide) rfl ?_
  refine V_iload_n ok dX3_counts_13 rfl 1 rfl ?_
  exact V_iret ok dX3_counts_14 (Nat.zero_le _) (Nat.zero_le _) ⟨rfl, rfl⟩
set_option maxHeartbeats 4000000 in
set_option maxRecDepth 100000 in
theorem c_X3_counts_m4 (g : Glob) (b : Nat → Nat) (nw : Nat → Int32) (wv : Nat → UInt64) (ah : Nat → UInt64) (pa : Nat → Int32) (pw : Nat → UInt64) (ai : Nat → Int32) (aw : Nat → UInt64) (sts : Nat) (rf : Nat → Int32) (tx : Nat → Int32) (len : Nat) (pl : Nat) (ord : Nat) (lr : Nat → Int32) (nu : Nat → Int32) (hsh : Int64)  : Con g yX3_counts cX3_counts 2 (some .int) ({ frames := 0, cells := 0, slots := 0, locals := 0 } : Room) [.ref (b 0), .int (-4)] (modelW g b nw wv ah pa pw ai aw sts rf tx len pl ord lr nu hsh) (Is (some (.int (-4))) (modelW g b nw wv ah pa pw ai aw sts (rfU rf (-4)) tx len pl ord lr nu hsh)) := by
  refine con_of_V ypl_X3_counts (Nat.le_of_ble_eq_true rfl) [(0, .ref (b 0)), (1, .int (-4))] rfl (fun Γ ok => ?_)
  refine V_aload_n ok dX3_counts_0 rfl 0 rfl ?_
  refine V_get (v := .ref (b 8)) ok 0 8 tw_X3 twf_X3_32 rfl rfl (by decide) dX3_counts_1 rfl rfl ?_
  refine V_bipush (v := (-2)) ok dX3_counts_4 rfl ?_
  refine V_iload_n ok dX3_counts_6 rfl 1 rfl ?_
  refine V_isub ok dX3_counts_7 ?_
  refine V_top_int (b := nI 2) (by decide) ?_
  refine V_dup2_11 ok dX3_counts_8 rfl rfl ?_
  refine V_iald (f := rf) (N := 3) ok 8 2 dX3_counts_9 rfl rfl (by decide) (by decide) ?_
  refine V_iconst (v := nI 1) ok dX3_counts_10 rfl ?_
  refine V_iadd ok dX3_counts_11 ?_
  refine V_iast (f := rf) (N := 3) (w2 := modelW g b nw wv ah pa pw ai aw sts (upd rf 2 ((rf 2) + (nI 1))) tx len pl ord lr nu hsh) ok 8 2 dX3_counts_12 rfl rfl (by decide) (by decide) rfl ?_
  refine V_iload_n ok dX3_counts_13 rfl 1 rfl ?_
  exact V_iret ok dX3_counts_14 (Nat.zero_le _) (Nat.zero_le _) ⟨rfl, rfl⟩
set_option maxHeartbeats 4000000 in
set_option maxRecDepth 100000 in
theorem c_X3_countsLong (g : Glob) (b : Nat → Nat) (nw : Nat → Int32) (wv : Nat → UInt64) (ah : Nat → UInt64) (pa : Nat → Int32) (pw : Nat → UInt64) (ai : Nat → Int32) (aw : Nat → UInt64) (sts : Nat) (rf : Nat → Int32) (tx : Nat → Int32) (len : Nat) (pl : Nat) (ord : Nat) (lr : Nat → Int32) (nu : Nat → Int32) (hsh : Int64)  : Con g yX3_countsLong cX3_countsLong 1 (some .long) ({ frames := 0, cells := 0, slots := 0, locals := 0 } : Room) [.ref (b 0)] (modelW g b nw wv ah pa pw ai aw sts rf tx len pl ord lr nu hsh) (Is (some (.long (-9000000000000000))) (modelW g b nw wv ah pa pw ai aw sts (rfU rf (-2)) tx len pl ord lr nu hsh)) := by
  refine con_of_V ypl_X3_countsLong (Nat.le_of_ble_eq_true rfl) [(0, .ref (b 0))] rfl (fun Γ ok => ?_)
  refine V_aload_n ok dX3_countsLong_0 rfl 0 rfl ?_
  refine V_get (v := .ref (b 8)) ok 0 8 tw_X3 twf_X3_32 rfl rfl (by decide) dX3_countsLong_1 rfl rfl ?_
  refine V_iconst (v := nI 0) ok dX3_countsLong_4 rfl ?_
  refine V_dup2_11 ok dX3_countsLong_5 rfl rfl ?_
  refine V_iald (f := rf) (N := 3) ok 8 0 dX3_countsLong_6 rfl rfl (by decide) (by decide) ?_
  refine V_iconst (v := nI 1) ok dX3_countsLong_7 rfl ?_
  refine V_iadd ok dX3_countsLong_8 ?_
  refine V_iast (f := rf) (N := 3) (w2 := modelW g b nw wv ah pa pw ai aw sts (upd rf 0 ((rf 0) + (nI 1))) tx len pl ord lr nu hsh) ok 8 0 dX3_countsLong_9 rfl rfl (by decide) (by decide) rfl ?_
  refine V_ldc2l ok twl_X3_47 dX3_countsLong_10 ?_
  exact V_lret ok dX3_countsLong_13 (Nat.zero_le _) (Nat.zero_le _) ⟨rfl, rfl⟩
set_option maxHeartbeats 4000000 in
set_option maxRecDepth 100000 in
theorem c_X3_laysAside (g : Glob) (b : Nat → Nat) (nw : Nat → Int32) (wv : Nat → UInt64) (ah : Nat → UInt64) (pa : Nat → Int32) (pw : Nat → UInt64) (ai : Nat → Int32) (aw : Nat → UInt64) (sts : Nat) (rf : Nat → Int32) (tx : Nat → Int32) (len : Nat) (pl : Nat) (ord : Nat) (lr : Nat → Int32) (nu : Nat → Int32) (hsh : Int64)  : Con g yX3_laysAside cX3_laysAside 2 none ({ frames := 0, cells := 0, slots := 0, locals := 0 } : Room) [.ref (b 0)] (modelW g b nw wv ah pa pw ai aw sts rf tx len pl ord lr nu hsh) (Is none (modelW g b nw wv ah pa pw nw wv sts rf tx len pl ord lr nu hsh)) := by
  refine con_of_V ypl_X3_laysAside (Nat.le_of_ble_eq_true rfl) [(0, .ref (b 0))] rfl (fun Γ ok => ?_)
  have H2 : ∀ (n i : Nat) (aw : Nat → UInt64), i ≤ 45 → n = 45 - i → (∀ j, j < i → aw j = wv j) → V g Γ 2 0 0 28 (modelW g b nw wv ah pa pw nw aw sts rf tx len pl ord lr nu hsh) [(1, .int (nI i)), (0, .ref (b 0))] [] := by
    intro n
    induction n using Nat.strongRecOn with
    | ind n ih =>
    intro i aw hi hn hI
    subst hn
    refine V_iload_n ok dX3_laysAside_28 rfl 0 rfl ?_
    refine V_bipush (v := nI 45) ok dX3_laysAside_29 rfl ?_
    refine V_icmpN_ge (tgt := 52) ok dX3_laysAside_31 (by decide) (by omega) (by omega) (fun h31 => ?_) (fun h31 => ?_)
    · refine V_cd (f := aw) (f2 := wv) (N := 45) (w2 := modelW g b nw wv ah pa pw nw wv sts rf tx len pl ord lr nu hsh) 7 rfl (fun j hj => hI j (by omega)) rfl ?_
      exact V_vret ok dX3_laysAside_52 (Nat.zero_le _) (Nat.zero_le _) ⟨rfl, rfl⟩
    · refine V_aload_n ok dX3_laysAside_34 rfl 1 rfl ?_
      refine V_get (v := .ref (b 7)) ok 0 6 tw_X3 twf_X3_29 rfl rfl (by decide) dX3_laysAside_35 rfl rfl ?_
      refine V_iload_n ok dX3_laysAside_38 rfl 0 rfl ?_
      refine V_aload_n ok dX3_laysAside_39 rfl 1 rfl ?_
      refine V_get (v := .ref (b 2)) ok 0 1 tw_X3 twf_X3_13 rfl rfl (by decide) dX3_laysAside_40 rfl rfl ?_
      refine V_iload_n ok dX3_laysAside_43 rfl 0 rfl ?_
      refine V_dald (f := wv) (N := 45) ok 2 i dX3_laysAside_44 rfl rfl (by omega) (by decide) ?_
      refine V_dast (f := aw) (N := 45) (w2 := modelW g b nw wv ah pa pw nw (vf_upd aw i (wv i)) sts rf tx len pl ord lr nu hsh) ok 7 i dX3_laysAside_45 rfl rfl (by omega) (by decide) rfl ?_
      refine V_iinc (q := 0) (v := nI (i + 1)) (lv2 := [(1, .int (nI (i + 1))), (0, .ref (b 0))]) ok dX3_laysAside_46 rfl (nI_inc i 1) (by decide) rfl ?_
      refine V_goto (tgt := 28) ok dX3_laysAside_49 (by decide) ?_
      refine V_lv [0, 1] rfl ?_
      exact ih (45 - (i + 1)) (by omega) (i + 1) (vf_upd aw i (wv i)) (by omega) rfl (up_all hI)
  have H1 : ∀ (n i : Nat) (ai : Nat → Int32), i ≤ 9 → n = 9 - i → (∀ j, j < i → ai j = nw j) → V g Γ 2 0 0 2 (modelW g b nw wv ah pa pw ai aw sts rf tx len pl ord lr nu hsh) [(1, .int (nI i)), (0, .ref (b 0))] [] := by
    intro n
    induction n using Nat.strongRecOn with
    | ind n ih =>
    intro i ai hi hn hI
    subst hn
    refine V_iload_n ok dX3_laysAside_2 rfl 0 rfl ?_
    refine V_bipush (v := nI 9) ok dX3_laysAside_3 rfl ?_
    refine V_icmpN_ge (tgt := 26) ok dX3_laysAside_5 (by decide) (by omega) (by omega) (fun h5 => ?_) (fun h5 => ?_)
    · refine V_ci (f := ai) (f2 := nw) (N := 9) (w2 := modelW g b nw wv ah pa pw nw aw sts rf tx len pl ord lr nu hsh) 6 rfl (fun j hj => hI j (by omega)) rfl ?_
      refine V_iconst (v := nI 0) ok dX3_laysAside_26 rfl ?_
      refine V_istore_n (lv2 := [(1, .int (nI 0)), (0, .ref (b 0))]) ok dX3_laysAside_27 rfl (by decide) rfl ?_
      refine V_lv [0, 1] rfl ?_
      exact H2 45 0 aw (by decide) rfl (fun _ hj => absurd hj (Nat.not_lt_zero _))
    · refine V_aload_n ok dX3_laysAside_8 rfl 1 rfl ?_
      refine V_get (v := .ref (b 6)) ok 0 5 tw_X3 twf_X3_26 rfl rfl (by decide) dX3_laysAside_9 rfl rfl ?_
      refine V_iload_n ok dX3_laysAside_12 rfl 0 rfl ?_
      refine V_aload_n ok dX3_laysAside_13 rfl 1 rfl ?_
      refine V_get (v := .ref (b 1)) ok 0 0 tw_X3 twf_X3_7 rfl rfl (by decide) dX3_laysAside_14 rfl rfl ?_
      refine V_iload_n ok dX3_laysAside_17 rfl 0 rfl ?_
      refine V_iald (f := nw) (N := 9) ok 1 i dX3_laysAside_18 rfl rfl (by omega) (by decide) ?_
      refine V_iast (f := ai) (N := 9) (w2 := modelW g b nw wv ah pa pw (upd ai i (nw i)) aw sts rf tx len pl ord lr nu hsh) ok 6 i dX3_laysAside_19 rfl rfl (by omega) (by decide) rfl ?_
      refine V_iinc (q := 0) (v := nI (i + 1)) (lv2 := [(1, .int (nI (i + 1))), (0, .ref (b 0))]) ok dX3_laysAside_20 rfl (nI_inc i 1) (by decide) rfl ?_
      refine V_goto (tgt := 2) ok dX3_laysAside_23 (by decide) ?_
      refine V_lv [0, 1] rfl ?_
      exact ih (9 - (i + 1)) (by omega) (i + 1) (upd ai i (nw i)) (by omega) rfl (up_alli hI)
  refine V_iconst (v := nI 0) ok dX3_laysAside_0 rfl ?_
  refine V_istore_n (lv2 := [(1, .int (nI 0)), (0, .ref (b 0))]) ok dX3_laysAside_1 rfl (by decide) rfl ?_
  refine V_lv [0, 1] rfl ?_
  exact H1 9 0 ai (by decide) rfl (fun _ hj => absurd hj (Nat.not_lt_zero _))
set_option maxHeartbeats 4000000 in
set_option maxRecDepth 100000 in
theorem c_X3_becomesAside (g : Glob) (b : Nat → Nat) (nw : Nat → Int32) (wv : Nat → UInt64) (ah : Nat → UInt64) (pa : Nat → Int32) (pw : Nat → UInt64) (ai : Nat → Int32) (aw : Nat → UInt64) (sts : Nat) (rf : Nat → Int32) (tx : Nat → Int32) (len : Nat) (pl : Nat) (ord : Nat) (lr : Nat → Int32) (nu : Nat → Int32) (hsh : Int64)  : Con g yX3_becomesAside cX3_becomesAside 2 none ({ frames := 0, cells := 0, slots := 0, locals := 0 } : Room) [.ref (b 0)] (modelW g b nw wv ah pa pw ai aw sts rf tx len pl ord lr nu hsh) (Is none (modelW g b ai aw ah pa pw ai aw sts rf tx len pl ord lr nu hsh)) := by
  refine con_of_V ypl_X3_becomesAside (Nat.le_of_ble_eq_true rfl) [(0, .ref (b 0))] rfl (fun Γ ok => ?_)
  have H2 : ∀ (n i : Nat) (wv : Nat → UInt64), i ≤ 45 → n = 45 - i → (∀ j, j < i → wv j = aw j) → V g Γ 2 0 0 28 (modelW g b ai wv ah pa pw ai aw sts rf tx len pl ord lr nu hsh) [(1, .int (nI i)), (0, .ref (b 0))] [] := by
    intro n
    induction n using Nat.strongRecOn with
    | ind n ih =>
    intro i wv hi hn hI
    subst hn
    refine V_iload_n ok dX3_becomesAside_28 rfl 0 rfl ?_
    refine V_bipush (v := nI 45) ok dX3_becomesAside_29 rfl ?_
    refine V_icmpN_ge (tgt := 52) ok dX3_becomesAside_31 (by decide) (by omega) (by omega) (fun h31 => ?_) (fun h31 => ?_)
    · refine V_cd (f := wv) (f2 := aw) (N := 45) (w2 := modelW g b ai aw ah pa pw ai aw sts rf tx len pl ord lr nu hsh) 2 rfl (fun j hj => hI j (by omega)) rfl ?_
      exact V_vret ok dX3_becomesAside_52 (Nat.zero_le _) (Nat.zero_le _) ⟨rfl, rfl⟩
    · refine V_aload_n ok dX3_becomesAside_34 rfl 1 rfl ?_
      refine V_get (v := .ref (b 2)) ok 0 1 tw_X3 twf_X3_13 rfl rfl (by decide) dX3_becomesAside_35 rfl rfl ?_
      refine V_iload_n ok dX3_becomesAside_38 rfl 0 rfl ?_
      refine V_aload_n ok dX3_becomesAside_39 rfl 1 rfl ?_
      refine V_get (v := .ref (b 7)) ok 0 6 tw_X3 twf_X3_29 rfl rfl (by decide) dX3_becomesAside_40 rfl rfl ?_
      refine V_iload_n ok dX3_becomesAside_43 rfl 0 rfl ?_
      refine V_dald (f := aw) (N := 45) ok 7 i dX3_becomesAside_44 rfl rfl (by omega) (by decide) ?_
      refine V_dast (f := wv) (N := 45) (w2 := modelW g b ai (vf_upd wv i (aw i)) ah pa pw ai aw sts rf tx len pl ord lr nu hsh) ok 2 i dX3_becomesAside_45 rfl rfl (by omega) (by decide) rfl ?_
      refine V_iinc (q := 0) (v := nI (i + 1)) (lv2 := [(1, .int (nI (i + 1))), (0, .ref (b 0))]) ok dX3_becomesAside_46 rfl (nI_inc i 1) (by decide) rfl ?_
      refine V_goto (tgt := 28) ok dX3_becomesAside_49 (by decide) ?_
      refine V_lv [0, 1] rfl ?_
      exact ih (45 - (i + 1)) (by omega) (i + 1) (vf_upd wv i (aw i)) (by omega) rfl (up_all hI)
  have H1 : ∀ (n i : Nat) (nw : Nat → Int32), i ≤ 9 → n = 9 - i → (∀ j, j < i → nw j = ai j) → V g Γ 2 0 0 2 (modelW g b nw wv ah pa pw ai aw sts rf tx len pl ord lr nu hsh) [(1, .int (nI i)), (0, .ref (b 0))] [] := by
    intro n
    induction n using Nat.strongRecOn with
    | ind n ih =>
    intro i nw hi hn hI
    subst hn
    refine V_iload_n ok dX3_becomesAside_2 rfl 0 rfl ?_
    refine V_bipush (v := nI 9) ok dX3_becomesAside_3 rfl ?_
    refine V_icmpN_ge (tgt := 26) ok dX3_becomesAside_5 (by decide) (by omega) (by omega) (fun h5 => ?_) (fun h5 => ?_)
    · refine V_ci (f := nw) (f2 := ai) (N := 9) (w2 := modelW g b ai wv ah pa pw ai aw sts rf tx len pl ord lr nu hsh) 1 rfl (fun j hj => hI j (by omega)) rfl ?_
      refine V_iconst (v := nI 0) ok dX3_becomesAside_26 rfl ?_
      refine V_istore_n (lv2 := [(1, .int (nI 0)), (0, .ref (b 0))]) ok dX3_becomesAside_27 rfl (by decide) rfl ?_
      refine V_lv [0, 1] rfl ?_
      exact H2 45 0 wv (by decide) rfl (fun _ hj => absurd hj (Nat.not_lt_zero _))
    · refine V_aload_n ok dX3_becomesAside_8 rfl 1 rfl ?_
      refine V_get (v := .ref (b 1)) ok 0 0 tw_X3 twf_X3_7 rfl rfl (by decide) dX3_becomesAside_9 rfl rfl ?_
      refine V_iload_n ok dX3_becomesAside_12 rfl 0 rfl ?_
      refine V_aload_n ok dX3_becomesAside_13 rfl 1 rfl ?_
      refine V_get (v := .ref (b 6)) ok 0 5 tw_X3 twf_X3_26 rfl rfl (by decide) dX3_becomesAside_14 rfl rfl ?_
      refine V_iload_n ok dX3_becomesAside_17 rfl 0 rfl ?_
      refine V_iald (f := ai) (N := 9) ok 6 i dX3_becomesAside_18 rfl rfl (by omega) (by decide) ?_
      refine V_iast (f := nw) (N := 9) (w2 := modelW g b (upd nw i (ai i)) wv ah pa pw ai aw sts rf tx len pl ord lr nu hsh) ok 1 i dX3_becomesAside_19 rfl rfl (by omega) (by decide) rfl ?_
      refine V_iinc (q := 0) (v := nI (i + 1)) (lv2 := [(1, .int (nI (i + 1))), (0, .ref (b 0))]) ok dX3_becomesAside_20 rfl (nI_inc i 1) (by decide) rfl ?_
      refine V_goto (tgt := 2) ok dX3_becomesAside_23 (by decide) ?_
      refine V_lv [0, 1] rfl ?_
      exact ih (9 - (i + 1)) (by omega) (i + 1) (upd nw i (ai i)) (by omega) rfl (up_alli hI)
  refine V_iconst (v := nI 0) ok dX3_becomesAside_0 rfl ?_
  refine V_istore_n (lv2 := [(1, .int (nI 0)), (0, .ref (b 0))]) ok dX3_becomesAside_1 rfl (by decide) rfl ?_
  refine V_lv [0, 1] rfl ?_
  exact H1 9 0 nw (by decide) rfl (fun _ hj => absurd hj (Nat.not_lt_zero _))
