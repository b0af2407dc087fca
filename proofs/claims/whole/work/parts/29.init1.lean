def lnV0 : Nat → Int32 := upd (upd (upd (upd (upd (upd (upd (upd (upd (fun _ => 0) 0 (nI 4)) 1 (nI 100)) 2 (nI 20)) 3 (nI 5)) 4 (nI 0)) 5 (nI 0)) 6 (nI 0)) 7 (nI 10)) 8 (nI 0)
theorem lnV0_ok : VG lnV0 := VG_iff.mpr fun i hi => by
  rcases (show i = 0 ∨ i = 1 ∨ i = 2 ∨ i = 3 ∨ i = 4 ∨ i = 5 ∨ i = 6 ∨ i = 7 ∨ i = 8 by omega) with rfl | rfl | rfl | rfl | rfl | rfl | rfl | rfl | rfl
  · exact (⟨rfl, by decide, by decide⟩ : nI 4 = nI (nI 4).toNatClampNeg ∧ 1 ≤ (nI 4).toNatClampNeg ∧ (nI 4).toNatClampNeg ≤ 10)
  · exact (⟨rfl, by decide⟩ : nI 100 = nI (nI 100).toNatClampNeg ∧ (nI 100).toNatClampNeg ≤ 1000)
  · exact (⟨by decide, by decide⟩ : -100 ≤ (nI 20).toInt ∧ (nI 20).toInt ≤ 100)
  · exact (⟨rfl, by decide, by decide⟩ : nI 5 = nI (nI 5).toNatClampNeg ∧ 1 ≤ (nI 5).toNatClampNeg ∧ (nI 5).toNatClampNeg ≤ 99)
  · exact (⟨rfl, by decide⟩ : nI 0 = nI (nI 0).toNatClampNeg ∧ (nI 0).toNatClampNeg ≤ 1)
  · exact (⟨rfl, by decide⟩ : nI 0 = nI (nI 0).toNatClampNeg ∧ (nI 0).toNatClampNeg ≤ 3)
  · exact (⟨rfl, by decide⟩ : nI 0 = nI (nI 0).toNatClampNeg ∧ (nI 0).toNatClampNeg ≤ 5)
  · exact (⟨rfl, by decide, by decide⟩ : nI 10 = nI (nI 10).toNatClampNeg ∧ 1 ≤ (nI 10).toNatClampNeg ∧ (nI 10).toNatClampNeg ≤ 60)
  · exact (⟨rfl, by decide⟩ : nI 0 = nI (nI 0).toNatClampNeg ∧ (nI 0).toNatClampNeg ≤ 999)
/-- a new Line -/
def ln0 : LineSt := settleL (lnV0, fun _ => 0, fun _ => 0, fun _ => 0, fun _ => 0, 0, 0, 0)
theorem ln0_ok : LG ln0 := LG.settle lnV0_ok
def pg0 : PageSt := (fun _ => 0, 0, 0, nI 0, nI 0, nI 0, 0, nI 0)
def adr (l : List Nat) : Nat → Nat := fun i => l.getD i 0
abbrev NewLine (g : Glob) (h : Nat) : Option Value → va_W → Prop := fun r w => r = none ∧ ∃ c : Nat → Nat, c 0 = h ∧ w = lineW g c ln0
abbrev NewPage (g : Glob) (h : Nat) : Option Value → va_W → Prop := fun r w => r = none ∧ ∃ c : Nat → Nat, c 0 = h ∧ w = pageW g c pg0
set_option maxHeartbeats 4000000 in
set_option maxRecDepth 100000 in
/-- a new Line -/
theorem c_X0_init (g : Glob) (h : Nat) : Con g yX0_init cX0_init 1 none ({ frames := 2, cells := 5, slots := 53, locals := 46 } : Room) [.ref h] ([(h, .inr (0, [.null, .null, .null, .null, .null, .double 0, .double 0, .double 0]))]) (NewLine g h) := by
  refine con_of_V ypl_X0_init (Nat.le_of_ble_eq_true rfl) [(0, .ref h)] rfl (fun Γ ok => ?_)
  refine V_aload_n ok dX0_init_0 rfl 0 rfl ?_
  refine V_objInit ok twm_X0_1 dX0_init_1 (by decide) (by decide) ?_
  refine V_aload_n ok dX0_init_4 rfl 0 rfl ?_
  refine V_bipush (v := nI 9) ok dX0_init_5 rfl ?_
  refine V_newa (atype := .int) (ty := .int) (N := 9) (t0 := 0) (a0 := (9, .inl (fun _ => 0))) ok twa_int rfl rfl (fun _ _ h => h) dX0_init_7 (fun _ => rfl) (by decide) (by decide) (by decide) (by decide) (by decide) (fun q7 => ?_)
  refine V_ws (w2 := [(h, .inr (0, [.null, .null, .null, .null, .null, .double 0, .double 0, .double 0])), (q7, .inl (cI g, 9, .inl (fun _ => 0)))]) rfl ?_
  refine V_dup ok dX0_init_9 rfl ?_
  refine V_iconst (v := nI 0) ok dX0_init_10 rfl ?_
  refine V_iconst (v := nI 4) ok dX0_init_11 rfl ?_
  refine V_iast (f := (fun _ => 0)) (N := 9) (w2 := [(h, .inr (0, [.null, .null, .null, .null, .null, .double 0, .double 0, .double 0])), (q7, .inl (cI g, 9, .inl (upd (fun _ => 0) 0 (nI 4))))]) ok 1 0 dX0_init_12 rfl rfl (by decide) (by decide) rfl ?_
  refine V_dup ok dX0_init_13 rfl ?_
  refine V_iconst (v := nI 1) ok dX0_init_14 rfl ?_
  refine V_bipush (v := nI 100) ok dX0_init_15 rfl ?_
  refine V_iast (f := upd (fun _ => 0) 0 (nI 4)) (N := 9) (w2 := [(h, .inr (0, [.null, .null, .null, .null, .null, .double 0, .double 0, .double 0])), (q7, .inl (cI g, 9, .inl (upd (upd (fun _ => 0) 0 (nI 4)) 1 (nI 100))))]) ok 1 1 dX0_init_17 rfl rfl (by decide) (by decide) rfl ?_
  refine V_dup ok dX0_init_18 rfl ?_
  refine V_iconst (v := nI 2) ok dX0_init_19 rfl ?_
  refine V_bipush (v := nI 20) ok dX0_init_20 rfl ?_
  refine V_iast (f := upd (upd (fun _ => 0) 0 (nI 4)) 1 (nI 100)) (N := 9) (w2 := [(h, .inr (0, [.null, .null, .null, .null, .null, .double 0, .double 0, .double 0])), (q7, .inl (cI g, 9, .inl (upd (upd (upd (fun _ => 0) 0 (nI 4)) 1 (nI 100)) 2 (nI 20))))]) ok 1 2 dX0_init_22 rfl rfl (by decide) (by decide) rfl ?_
  refine V_dup ok dX0_init_23 rfl ?_
  refine V_iconst (v := nI 3) ok dX0_init_24 rfl ?_
  refine V_iconst (v := nI 5) ok dX0_init_25 rfl ?_
  refine V_iast (f := upd (upd (upd (fun _ => 0) 0 (nI 4)) 1 (nI 100)) 2 (nI 20)) (N := 9) (w2 := [(h, .inr (0, [.null, .null, .null, .null, .null, .double 0, .double 0, .double 0])), (q7, .inl (cI g, 9, .inl (upd (upd (upd (upd (fun _ => 0) 0 (nI 4)) 1 (nI 100)) 2 (nI 20)) 3 (nI 5))))]) ok 1 3 dX0_init_26 rfl rfl (by decide) (by decide) rfl ?_
  refine V_dup ok dX0_init_27 rfl ?_
  refine V_iconst (v := nI 4) ok dX0_init_28 rfl ?_
  refine V_iconst (v := nI 0) ok dX0_init_29 rfl ?_
  refine V_iast (f := upd (upd (upd (upd (fun _ => 0) 0 (nI 4)) 1 (nI 100)) 2 (nI 20)) 3 (nI 5)) (N := 9) (w2 := [(h, .inr (0, [.null, .null, .null, .null, .null, .double 0, .double 0, .double 0])), (q7, .inl (cI g, 9, .inl (upd (upd (upd (upd (upd (fun _ => 0) 0 (nI 4)) 1 (nI 100)) 2 (nI 20)) 3 (nI 5)) 4 (nI 0))))]) ok 1 4 dX0_init_30 rfl rfl (by decide) (by decide) rfl ?_
  refine V_dup ok dX0_init_31 rfl ?_
  refine V_iconst (v := nI 5) ok dX0_init_32 rfl ?_
  refine V_iconst (v := nI 0) ok dX0_init_33 rfl ?_
  refine V_iast (f := upd (upd (upd (upd (upd (fun _ => 0) 0 (nI 4)) 1 (nI 100)) 2 (nI 20)) 3 (nI 5)) 4 (nI 0)) (N := 9) (w2 := [(h, .inr (0, [.null, .null, .null, .null, .null, .double 0, .double 0, .double 0])), (q7, .inl (cI g, 9, .inl (upd (upd (upd (upd (upd (upd (fun _ => 0) 0 (nI 4)) 1 (nI 100)) 2 (nI 20)) 3 (nI 5)) 4 (nI 0)) 5 (nI 0))))]) ok 1 5 dX0_init_34 rfl rfl (by decide) (by decide) rfl ?_
  refine V_dup ok dX0_init_35 rfl ?_
  refine V_bipush (v := nI 6) ok dX0_init_36 rfl ?_
  refine V_iconst (v := nI 0) ok dX0_init_38 rfl ?_
  refine V_iast (f := upd (upd (upd (upd (upd (upd (fun _ => 0) 0 (nI 4)) 1 (nI 100)) 2 (nI 20)) 3 (nI 5)) 4 (nI 0)) 5 (nI 0)) (N := 9) (w2 := [(h, .inr (0, [.null, .null, .null, .null, .null, .double 0, .double 0, .double 0])), (q7, .inl (cI g, 9, .inl (upd (upd (upd (upd (upd (upd (upd (fun _ => 0) 0 (nI 4)) 1 (nI 100)) 2 (nI 20)) 3 (nI 5)) 4 (nI 0)) 5 (nI 0)) 6 (nI 0))))]) ok 1 6 dX0_init_39 rfl rfl (by decide) (by decide) rfl ?_
  refine V_dup ok dX0_init_40 rfl ?_
  refine V_bipush (v := nI 7) ok dX0_init_41 rfl ?_
  refine V_bipush (v := nI 10) ok dX0_init_43 rfl ?_
  refine V_iast (f := upd (upd (upd (upd (upd (upd (upd (fun _ => 0) 0 (nI 4)) 1 (nI 100)) 2 (nI 20)) 3 (nI 5)) 4 (nI 0)) 5 (nI 0)) 6 (nI 0)) (N := 9) (w2 := [(h, .inr (0, [.null, .null, .null, .null, .null, .double 0, .double 0, .double 0])), (q7, .inl (cI g, 9, .inl (upd (upd (upd (upd (upd (upd (upd (upd (fun _ => 0) 0 (nI 4)) 1 (nI 100)) 2 (nI 20)) 3 (nI 5)) 4 (nI 0)) 5 (nI 0)) 6 (nI 0)) 7 (nI 10))))]) ok 1 7 dX0_init_45 rfl rfl (by decide) (by decide) rfl ?_
  refine V_dup ok dX0_init_46 rfl ?_
  refine V_bipush (v := nI 8) ok dX0_init_47 rfl ?_
  refine V_iconst (v := nI 0) ok dX0_init_49 rfl ?_
  refine V_iast (f := upd (upd (upd (upd (upd (upd (upd (upd (fun _ => 0) 0 (nI 4)) 1 (nI 100)) 2 (nI 20)) 3 (nI 5)) 4 (nI 0)) 5 (nI 0)) 6 (nI 0)) 7 (nI 10)) (N := 9) (w2 := [(h, .inr (0, [.null, .null, .null, .null, .null, .double 0, .double 0, .double 0])), (q7, .inl (cI g, 9, .inl (upd (upd (upd (upd (upd (upd (upd (upd (upd (fun _ => 0) 0 (nI 4)) 1 (nI 100)) 2 (nI 20)) 3 (nI 5)) 4 (nI 0)) 5 (nI 0)) 6 (nI 0)) 7 (nI 10)) 8 (nI 0))))]) ok 1 8 dX0_init_50 rfl rfl (by decide) (by decide) rfl ?_
  refine V_putF (w2 := [(h, .inr (0, [.ref q7, .null, .null, .null, .null, .double 0, .double 0, .double 0])), (q7, .inl (cI g, 9, .inl (upd (upd (upd (upd (upd (upd (upd (upd (upd (fun _ => 0) 0 (nI 4)) 1 (nI 100)) 2 (nI 20)) 3 (nI 5)) 4 (nI 0)) 5 (nI 0)) 6 (nI 0)) 7 (nI 10)) 8 (nI 0))))]) ok 0 0 tw_X0 tyX0 tyX0_ok nmX0 twf_X0_7 rfl rfl (by decide) rfl rfl rfl rfl dX0_init_51 rfl rfl rfl (Nat.lt_of_lt_of_eq (m := 8) (by decide) rfl) rfl ?_
  refine V_aload_n ok dX0_init_54 rfl 0 rfl ?_
  refine V_bipush (v := nI 11) ok dX0_init_55 rfl ?_
  refine V_newa (atype := .double) (ty := .double) (N := 11) (t0 := 1) (a0 := (11, .inr (.inr (.inr (.inl (fun _ => 0)))))) ok twa_double rfl rfl (fun _ _ h => h) dX0_init_57 (fun _ => rfl) (by decide) (by decide) (by decide) (by decide) (by decide) (fun q57 => ?_)
  refine V_ws (w2 := [(h, .inr (0, [.ref q7, .null, .null, .null, .null, .double 0, .double 0, .double 0])), (q7, .inl (cI g, 9, .inl (upd (upd (upd (upd (upd (upd (upd (upd (upd (fun _ => 0) 0 (nI 4)) 1 (nI 100)) 2 (nI 20)) 3 (nI 5)) 4 (nI 0)) 5 (nI 0)) 6 (nI 0)) 7 (nI 10)) 8 (nI 0)))), (q57, .inl (cD g, 11, .inr (.inr (.inr (.inl (fun _ => 0))))))]) rfl ?_
  refine V_putF (w2 := [(h, .inr (0, [.ref q7, .ref q57, .null, .null, .null, .double 0, .double 0, .double 0])), (q7, .inl (cI g, 9, .inl (upd (upd (upd (upd (upd (upd (upd (upd (upd (fun _ => 0) 0 (nI 4)) 1 (nI 100)) 2 (nI 20)) 3 (nI 5)) 4 (nI 0)) 5 (nI 0)) 6 (nI 0)) 7 (nI 10)) 8 (nI 0)))), (q57, .inl (cD g, 11, .inr (.inr (.inr (.inl (fun _ => 0))))))]) ok 0 1 tw_X0 tyX0 tyX0_ok nmX0 twf_X0_13 rfl rfl (by decide) rfl rfl rfl rfl dX0_init_59 rfl rfl rfl (Nat.lt_of_lt_of_eq (m := 8) (by decide) rfl) rfl ?_
  refine V_aload_n ok dX0_init_62 rfl 0 rfl ?_
  refine V_bipush (v := nI 11) ok dX0_init_63 rfl ?_
  refine V_newa (atype := .double) (ty := .double) (N := 11) (t0 := 1) (a0 := (11, .inr (.inr (.inr (.inl (fun _ => 0)))))) ok twa_double rfl rfl (fun _ _ h => h) dX0_init_65 (fun _ => rfl) (by decide) (by decide) (by decide) (by decide) (by decide) (fun q65 => ?_)
  refine V_ws (w2 := [(h, .inr (0, [.ref q7, .ref q57, .null, .null, .null, .double 0, .double 0, .double 0])), (q7, .inl (cI g, 9, .inl (upd (upd (upd (upd (upd (upd (upd (upd (upd (fun _ => 0) 0 (nI 4)) 1 (nI 100)) 2 (nI 20)) 3 (nI 5)) 4 (nI 0)) 5 (nI 0)) 6 (nI 0)) 7 (nI 10)) 8 (nI 0)))), (q57, .inl (cD g, 11, .inr (.inr (.inr (.inl (fun _ => 0)))))), (q65, .inl (cD g, 11, .inr (.inr (.inr (.inl (fun _ => 0))))))]) rfl ?_
  refine V_putF (w2 := [(h, .inr (0, [.ref q7, .ref q57, .ref q65, .null, .null, .double 0, .double 0, .double 0])), (q7, .inl (cI g, 9, .inl (upd (upd (upd (upd (upd (upd (upd (upd (upd (fun _ => 0) 0 (nI 4)) 1 (nI 100)) 2 (nI 20)) 3 (nI 5)) 4 (nI 0)) 5 (nI 0)) 6 (nI 0)) 7 (nI 10)) 8 (nI 0)))), (q57, .inl (cD g, 11, .inr (.inr (.inr (.inl (fun _ => 0)))))), (q65, .inl (cD g, 11, .inr (.inr (.inr (.inl (fun _ => 0))))))]) ok 0 2 tw_X0 tyX0 tyX0_ok nmX0 twf_X0_17 rfl rfl (by decide) rfl rfl rfl rfl dX0_init_67 rfl rfl rfl (Nat.lt_of_lt_of_eq (m := 8) (by decide) rfl) rfl ?_
  refine V_aload_n ok dX0_init_70 rfl 0 rfl ?_
  refine V_bipush (v := nI 11) ok dX0_init_71 rfl ?_
  refine V_newa (atype := .double) (ty := .double) (N := 11) (t0 := 1) (a0 := (11, .inr (.inr (.inr (.inl (fun _ => 0)))))) ok twa_double rfl rfl (fun _ _ h => h) dX0_init_73 (fun _ => rfl) (by decide) (by decide) (by decide) (by decide) (by decide) (fun q73 => ?_)
  refine V_ws (w2 := [(h, .inr (0, [.ref q7, .ref q57, .ref q65, .null, .null, .double 0, .double 0, .double 0])), (q7, .inl (cI g, 9, .inl (upd (upd (upd (upd (upd (upd (upd (upd (upd (fun _ => 0) 0 (nI 4)) 1 (nI 100)) 2 (nI 20)) 3 (nI 5)) 4 (nI 0)) 5 (nI 0)) 6 (nI 0)) 7 (nI 10)) 8 (nI 0)))), (q57, .inl (cD g, 11, .inr (.inr (.inr (.inl (fun _ => 0)))))), (q65, .inl (cD g, 11, .inr (.inr (.inr (.inl (fun _ => 0)))))), (q73, .inl (cD g, 11, .inr (.inr (.inr (.inl (fun _ => 0))))))]) rfl ?_
  refine V_putF (w2 := [(h, .inr (0, [.ref q7, .ref q57, .ref q65, .ref q73, .null, .double 0, .double 0, .double 0])), (q7, .inl (cI g, 9, .inl (upd (upd (upd (upd (upd (upd (upd (upd (upd (fun _ => 0) 0 (nI 4)) 1 (nI 100)) 2 (nI 20)) 3 (nI 5)) 4 (nI 0)) 5 (nI 0)) 6 (nI 0)) 7 (nI 10)) 8 (nI 0)))), (q57, .inl (cD g, 11, .inr (.inr (.inr (.inl (fun _ => 0)))))), (q65, .inl (cD g, 11, .inr (.inr (.inr (.inl (fun _ => 0)))))), (q73, .inl (cD g, 11, .inr (.inr (.inr (.inl (fun _ => 0))))))]) ok 0 3 tw_X0 tyX0 tyX0_ok nmX0 twf_X0_20 rfl rfl (by decide) rfl rfl rfl rfl dX0_init_75 rfl rfl rfl (Nat.lt_of_lt_of_eq (m := 8) (by decide) rfl) rfl ?_
  refine V_aload_n ok dX0_init_78 rfl 0 rfl ?_
  refine V_bipush (v := nI 11) ok dX0_init_79 rfl ?_
  refine V_newa (atype := .double) (ty := .double) (N := 11) (t0 := 1) (a0 := (11, .inr (.inr (.inr (.inl (fun _ => 0)))))) ok twa_double rfl rfl (fun _ _ h => h) dX0_init_81 (fun _ => rfl) (by decide) (by decide) (by decide) (by decide) (by decide) (fun q81 => ?_)
  refine V_ws (w2 := [(h, .inr (0, [.ref q7, .ref q57, .ref q65, .ref q73, .null, .double 0, .double 0, .double 0])), (q7, .inl (cI g, 9, .inl (upd (upd (upd (upd (upd (upd (upd (upd (upd (fun _ => 0) 0 (nI 4)) 1 (nI 100)) 2 (nI 20)) 3 (nI 5)) 4 (nI 0)) 5 (nI 0)) 6 (nI 0)) 7 (nI 10)) 8 (nI 0)))), (q57, .inl (cD g, 11, .inr (.inr (.inr (.inl (fun _ => 0)))))), (q65, .inl (cD g, 11, .inr (.inr (.inr (.inl (fun _ => 0)))))), (q73, .inl (cD g, 11, .inr (.inr (.inr (.inl (fun _ => 0)))))), (q81, .inl (cD g, 11, .inr (.inr (.inr (.inl (fun _ => 0))))))]) rfl ?_
  refine V_putF (w2 := [(h, .inr (0, [.ref q7, .ref q57, .ref q65, .ref q73, .ref q81, .double 0, .double 0, .double 0])), (q7, .inl (cI g, 9, .inl (upd (upd (upd (upd (upd (upd (upd (upd (upd (fun _ => 0) 0 (nI 4)) 1 (nI 100)) 2 (nI 20)) 3 (nI 5)) 4 (nI 0)) 5 (nI 0)) 6 (nI 0)) 7 (nI 10)) 8 (nI 0)))), (q57, .inl (cD g, 11, .inr (.inr (.inr (.inl (fun _ => 0)))))), (q65, .inl (cD g, 11, .inr (.inr (.inr (.inl (fun _ => 0)))))), (q73, .inl (cD g, 11, .inr (.inr (.inr (.inl (fun _ => 0)))))), (q81, .inl (cD g, 11, .inr (.inr (.inr (.inl (fun _ => 0))))))]) ok 0 4 tw_X0 tyX0 tyX0_ok nmX0 twf_X0_23 rfl rfl (by decide) rfl rfl rfl rfl dX0_init_83 rfl rfl rfl (Nat.lt_of_lt_of_eq (m := 8) (by decide) rfl) rfl ?_
  refine V_aload_n ok dX0_init_86 rfl 0 rfl ?_
  refine V_cV (v2 := none) (wn := lineW g (adr [h, q7, q57, q65, q73, q81]) ln0) (rest := []) ok 0 0 (c_X0_settle g (adr [h, q7, q57, q65, q73, q81]) lnV0 (fun _ => 0) (fun _ => 0) (fun _ => 0) (fun _ => 0) 0 0 0 lnV0_ok) 0 twm_X0_26 twi_yX0_settle twv_yX0_settle twin_X0 twc_yX0_settle yok_X0_settle (by decide) ⟨rfl, rfl⟩ dX0_init_87 rfl rfl rfl rfl (Nat.le_of_ble_eq_true rfl) ⟨by decide, by decide⟩ [0, 1, 2, 3, 4, 5] rfl rfl (Nat.le_of_ble_eq_true rfl) rfl ?_
  exact V_vret ok dX0_init_90 (by decide) (by decide) ⟨rfl, adr [h, q7, q57, q65, q73, q81], rfl, rfl⟩
set_option maxHeartbeats 4000000 in
set_option maxRecDepth 100000 in
/-- a new Page -/
theorem c_X1_init (g : Glob) (h : Nat) : Con g yX1_init cX1_init 1 none ({ frames := 1, cells := 1, slots := 100, locals := 12 } : Room) [.ref h] ([(h, .inr (1, [.null, .int (nI 0), .int (nI 0), .int (nI 0), .int (nI 0), .int (nI 0), .int (nI 0), .int (nI 0)]))]) (NewPage g h) := by
  refine con_of_V ypl_X1_init (Nat.le_of_ble_eq_true rfl) [(0, .ref h)] rfl (fun Γ ok => ?_)
  refine V_aload_n ok dX1_init_0 rfl 0 rfl ?_
  refine V_objInit ok twm_X1_3 dX1_init_1 (by decide) (by decide) ?_
  refine V_aload_n ok dX1_init_4 rfl 0 rfl ?_
  refine V_bipush (v := nI 100) ok dX1_init_5 rfl ?_
  refine V_newa (atype := .byte) (ty := .byte) (N := 100) (t0 := 2) (a0 := (100, .inl (fun _ => 0))) ok twa_byte rfl rfl (fun _ _ h => h) dX1_init_7 (fun _ => rfl) (by decide) (by decide) (by decide) (by decide) (by decide) (fun q7 => ?_)
  refine V_ws (w2 := [(h, .inr (1, [.null, .int (nI 0), .int (nI 0), .int (nI 0), .int (nI 0), .int (nI 0), .int (nI 0), .int (nI 0)])), (q7, .inl (cB g, 100, .inl (fun _ => 0)))]) rfl ?_
  refine V_putF (w2 := [(h, .inr (1, [.ref q7, .int (nI 0), .int (nI 0), .int (nI 0), .int (nI 0), .int (nI 0), .int (nI 0), .int (nI 0)])), (q7, .inl (cB g, 100, .inl (fun _ => 0)))]) ok 0 0 tw_X1 tyX1 tyX1_ok nmX1 twf_X1_11 rfl rfl (by decide) rfl rfl rfl rfl dX1_init_9 rfl rfl rfl (Nat.lt_of_lt_of_eq (m := 8) (by decide) rfl) rfl ?_
  refine V_aload_n ok dX1_init_12 rfl 0 rfl ?_
  refine V_iconst (v := nI 0) ok dX1_init_13 rfl ?_
  refine V_put (w2 := [(h, .inr (1, [.ref q7, .int (nI 0), .int (nI 0), .int (nI 0), .int (nI 0), .int (nI 0), .int (nI 0), .int (nI 0)])), (q7, .inl (cB g, 100, .inl (fun _ => 0)))]) ok 0 1 tw_X1 tyX1 tyX1_ok nmX1 twf_X1_15 rfl rfl (by decide) rfl rfl dX1_init_14 rfl rfl rfl (Nat.lt_of_lt_of_eq (m := 8) (by decide) rfl) rfl ?_
  refine V_aload_n ok dX1_init_17 rfl 0 rfl ?_
  refine V_iconst (v := nI 0) ok dX1_init_18 rfl ?_
  refine V_put (w2 := [(h, .inr (1, [.ref q7, .int (nI 0), .int (nI 0), .int (nI 0), .int (nI 0), .int (nI 0), .int (nI 0), .int (nI 0)])), (q7, .inl (cB g, 100, .inl (fun _ => 0)))]) ok 0 2 tw_X1 tyX1 tyX1_ok nmX1 twf_X1_19 rfl rfl (by decide) rfl rfl dX1_init_19 rfl rfl rfl (Nat.lt_of_lt_of_eq (m := 8) (by decide) rfl) rfl ?_
  refine V_aload_n ok dX1_init_22 rfl 0 rfl ?_
  refine V_iconst (v := nI 0) ok dX1_init_23 rfl ?_
  refine V_put (w2 := [(h, .inr (1, [.ref q7, .int (nI 0), .int (nI 0), .int (nI 0), .int (nI 0), .int (nI 0), .int (nI 0), .int (nI 0)])), (q7, .inl (cB g, 100, .inl (fun _ => 0)))]) ok 0 3 tw_X1 tyX1 tyX1_ok nmX1 twf_X1_22 rfl rfl (by decide) rfl rfl dX1_init_24 rfl rfl rfl (Nat.lt_of_lt_of_eq (m := 8) (by decide) rfl) rfl ?_
  refine V_aload_n ok dX1_init_27 rfl 0 rfl ?_
  refine V_iconst (v := nI 0) ok dX1_init_28 rfl ?_
  refine V_put (w2 := [(h, .inr (1, [.ref q7, .int (nI 0), .int (nI 0), .int (nI 0), .int (nI 0), .int (nI 0), .int (nI 0), .int (nI 0)])), (q7, .inl (cB g, 100, .inl (fun _ => 0)))]) ok 0 4 tw_X1 tyX1 tyX1_ok nmX1 twf_X1_25 rfl rfl (by decide) rfl rfl dX1_init_29 rfl rfl rfl (Nat.lt_of_lt_of_eq (m := 8) (by decide) rfl) rfl ?_
  refine V_aload_n ok dX1_init_32 rfl 0 rfl ?_
  refine V_iconst (v := nI 0) ok dX1_init_33 rfl ?_
  refine V_put (w2 := [(h, .inr (1, [.ref q7, .int (nI 0), .int (nI 0), .int (nI 0), .int (nI 0), .int (nI 0), .int (nI 0), .int (nI 0)])), (q7, .inl (cB g, 100, .inl (fun _ => 0)))]) ok 0 5 tw_X1 tyX1 tyX1_ok nmX1 twf_X1_28 rfl rfl (by decide) rfl rfl dX1_init_34 rfl rfl rfl (Nat.lt_of_lt_of_eq (m := 8) (by decide) rfl) rfl ?_
  refine V_aload_n ok dX1_init_37 rfl 0 rfl ?_
  refine V_iconst (v := nI 0) ok dX1_init_38 rfl ?_
  refine V_put (w2 := [(h, .inr (1, [.ref q7, .int (nI 0), .int (nI 0), .int (nI 0), .int (nI 0), .int (nI 0), .int (nI 0), .int (nI 0)])), (q7, .inl (cB g, 100, .inl (fun _ => 0)))]) ok 0 6 tw_X1 tyX1 tyX1_ok nmX1 twf_X1_31 rfl rfl (by decide) rfl rfl dX1_init_39 rfl rfl rfl (Nat.lt_of_lt_of_eq (m := 8) (by decide) rfl) rfl ?_
  refine V_aload_n ok dX1_init_42 rfl 0 rfl ?_
  refine V_iconst (v := nI 0) ok dX1_init_43 rfl ?_
  refine V_put (w2 := [(h, .inr (1, [.ref q7, .int (nI 0), .int (nI 0), .int (nI 0), .int (nI 0), .int (nI 0), .int (nI 0), .int (nI 0)])), (q7, .inl (cB g, 100, .inl (fun _ => 0)))]) ok 0 7 tw_X1 tyX1 tyX1_ok nmX1 twf_X1_34 rfl rfl (by decide) rfl rfl dX1_init_44 rfl rfl rfl (Nat.lt_of_lt_of_eq (m := 8) (by decide) rfl) rfl ?_
  exact V_vret ok dX1_init_47 (by decide) (by decide) ⟨rfl, adr [h, q7], rfl, rfl⟩
