set_option maxHeartbeats 4000000 in
set_option maxRecDepth 100000 in
/-- a number becomes another one, steady -/
theorem c_X0_put (g : Glob) (a : Nat → Nat) (v : Nat → Int32) (F B G L : Nat → UInt64) (hi lo lev : UInt64) (w : Nat) (u : Int32) (hw : w < 9) (hv : VG (upd v w u)) : Con g yX0_put cX0_put 3 none ({ frames := 2, cells := 0, slots := 0, locals := 46 } : Room) [.ref (a 0), .int (nI w), .int u] (lineW g a (v, F, B, G, L, hi, lo, lev)) (Is none (lineW g a (settleL (upd v w u, F, B, G, L, hi, lo, lev)))) := by
  refine con_of_V ypl_X0_put (Nat.le_of_ble_eq_true rfl) [(0, .ref (a 0)), (1, .int (nI w)), (2, .int u)] rfl (fun Γ ok => ?_)
  refine V_aload_n ok dX0_put_0 rfl 0 rfl ?_
  refine V_get (v := .ref (a 1)) ok 0 0 tw_X0 twf_X0_7 rfl rfl (by decide) dX0_put_1 rfl rfl ?_
  refine V_iload_n ok dX0_put_4 rfl 1 rfl ?_
  refine V_iload_n ok dX0_put_5 rfl 2 rfl ?_
  refine V_iast (f := v) (N := 9) (w2 := lineW g a (upd v w u, F, B, G, L, hi, lo, lev)) ok 1 w dX0_put_6 rfl rfl hw (by decide) rfl ?_
  refine V_aload_n ok dX0_put_7 rfl 0 rfl ?_
  refine V_cV (v2 := none) (wn := lineW g a (upd (upd v w u) 8 (nI 0), fil F (nv (upd v w u) 0 + 1) (stF (upd v w u)), fil B (nv (upd v w u) 0 + 1) (stB (upd v w u)), fil G (nv (upd v w u) 0 + 1) (stP (upd v w u)), fil L (nv (upd v w u) 0 + 1) (stP (upd v w u)), stP (upd v w u), stP (upd v w u), FP.i2d ((upd v w u) 1))) (rest := []) ok 0 0 (c_X0_settle g a (upd v w u) F B G L hi lo lev hv) 0 twm_X0_26 twi_yX0_settle twv_yX0_settle twin_X0 twc_yX0_settle yok_X0_settle (by decide) ⟨rfl, rfl⟩ dX0_put_8 rfl rfl rfl rfl (Nat.le_of_ble_eq_true rfl) ⟨Nat.zero_le _, Nat.zero_le _⟩ [0, 1, 2, 3, 4, 5] rfl rfl (Nat.le_of_ble_eq_true rfl) rfl ?_
  exact V_vret ok dX0_put_11 (Nat.zero_le _) (Nat.zero_le _) ⟨rfl, rfl⟩
set_option maxHeartbeats 4000000 in
set_option maxRecDepth 100000 in
/-- becomes the other -/
theorem c_X0_copyFrom (g : Glob) (a b : Nat → Nat) (x y : LineSt) : Con g yX0_copyFrom cX0_copyFrom 2 none ({ frames := 1, cells := 0, slots := 0, locals := 30 } : Room) [.ref (a 0), .ref (b 0)] (lineW g a x ++ lineW g b y) (Is none (lineW g a y ++ lineW g b y)) := by
  refine con_of_V ypl_X0_copyFrom (Nat.le_of_ble_eq_true rfl) [(0, .ref (a 0)), (1, .ref (b 0))] rfl (fun Γ ok => ?_)
  refine V_aload_n ok dX0_copyFrom_0 rfl 1 rfl ?_
  refine V_get (v := .ref (b 1)) ok 6 0 tw_X0 twf_X0_7 rfl rfl (by decide) dX0_copyFrom_1 rfl rfl ?_
  refine V_iconst (v := nI 0) ok dX0_copyFrom_4 rfl ?_
  refine V_aload_n ok dX0_copyFrom_5 rfl 0 rfl ?_
  refine V_get (v := .ref (a 1)) ok 0 0 tw_X0 twf_X0_7 rfl rfl (by decide) dX0_copyFrom_6 rfl rfl ?_
  refine V_iconst (v := nI 0) ok dX0_copyFrom_9 rfl ?_
  refine V_aload_n ok dX0_copyFrom_10 rfl 0 rfl ?_
  refine V_get (v := .ref (a 1)) ok 0 0 tw_X0 twf_X0_7 rfl rfl (by decide) dX0_copyFrom_11 rfl rfl ?_
  refine V_alen (t0 := 0) (v := nI 9) ok 1 dX0_copyFrom_14 rfl rfl rfl ?_
  refine V_copyi (f := y.1) (f1 := x.1) (N := 9) (w2 := lineW g a (va_cpy y.1 x.1 0 0 9, x.2.1, x.2.2.1, x.2.2.2.1, x.2.2.2.2.1, x.2.2.2.2.2.1, x.2.2.2.2.2.2.1, x.2.2.2.2.2.2.2) ++ lineW g b (y.1, y.2.1, y.2.2.1, y.2.2.2.1, y.2.2.2.2.1, y.2.2.2.2.2.1, y.2.2.2.2.2.2.1, y.2.2.2.2.2.2.2)) ok 7 1 9 twm_X0_41 dX0_copyFrom_15 rfl rfl rfl (by decide) (by decide) (by decide) (by decide +kernel) rfl ?_
  refine V_ci (f := va_cpy y.1 x.1 0 0 9) (f2 := y.1) (N := 9) (w2 := lineW g a (y.1, x.2.1, x.2.2.1, x.2.2.2.1, x.2.2.2.2.1, x.2.2.2.2.2.1, x.2.2.2.2.2.2.1, x.2.2.2.2.2.2.2) ++ lineW g b (y.1, y.2.1, y.2.2.1, y.2.2.2.1, y.2.2.2.2.1, y.2.2.2.2.2.1, y.2.2.2.2.2.2.1, y.2.2.2.2.2.2.2)) 1 rfl (fun j hj => cpy0 hj) rfl ?_
  refine V_aload_n ok dX0_copyFrom_18 rfl 1 rfl ?_
  refine V_get (v := .ref (b 2)) ok 6 1 tw_X0 twf_X0_13 rfl rfl (by decide) dX0_copyFrom_19 rfl rfl ?_
  refine V_iconst (v := nI 0) ok dX0_copyFrom_22 rfl ?_
  refine V_aload_n ok dX0_copyFrom_23 rfl 0 rfl ?_
  refine V_get (v := .ref (a 2)) ok 0 1 tw_X0 twf_X0_13 rfl rfl (by decide) dX0_copyFrom_24 rfl rfl ?_
  refine V_iconst (v := nI 0) ok dX0_copyFrom_27 rfl ?_
  refine V_bipush (v := nI 11) ok dX0_copyFrom_28 rfl ?_
  refine V_copyd (f := y.2.1) (f1 := x.2.1) (N := 11) (w2 := lineW g a (y.1, va_cpy y.2.1 x.2.1 0 0 11, x.2.2.1, x.2.2.2.1, x.2.2.2.2.1, x.2.2.2.2.2.1, x.2.2.2.2.2.2.1, x.2.2.2.2.2.2.2) ++ lineW g b (y.1, y.2.1, y.2.2.1, y.2.2.2.1, y.2.2.2.2.1, y.2.2.2.2.2.1, y.2.2.2.2.2.2.1, y.2.2.2.2.2.2.2)) ok 8 2 11 twm_X0_41 dX0_copyFrom_30 rfl rfl rfl (by decide) (by decide) (by decide) (by decide +kernel) rfl ?_
  refine V_cd (f := va_cpy y.2.1 x.2.1 0 0 11) (f2 := y.2.1) (N := 11) (w2 := lineW g a (y.1, y.2.1, x.2.2.1, x.2.2.2.1, x.2.2.2.2.1, x.2.2.2.2.2.1, x.2.2.2.2.2.2.1, x.2.2.2.2.2.2.2) ++ lineW g b (y.1, y.2.1, y.2.2.1, y.2.2.2.1, y.2.2.2.2.1, y.2.2.2.2.2.1, y.2.2.2.2.2.2.1, y.2.2.2.2.2.2.2)) 2 rfl (fun j hj => cpy0 hj) rfl ?_
  refine V_aload_n ok dX0_copyFrom_33 rfl 1 rfl ?_
  refine V_get (v := .ref (b 3)) ok 6 2 tw_X0 twf_X0_17 rfl rfl (by decide) dX0_copyFrom_34 rfl rfl ?_
  refine V_iconst (v := nI 0) ok dX0_copyFrom_37 rfl ?_
  refine V_aload_n ok dX0_copyFrom_38 rfl 0 rfl ?_
  refine V_get (v := .ref (a 3)) ok 0 2 tw_X0 twf_X0_17 rfl rfl (by decide) dX0_copyFrom_39 rfl rfl ?_
  refine V_iconst (v := nI 0) ok dX0_copyFrom_42 rfl ?_
  refine V_bipush (v := nI 11) ok dX0_copyFrom_43 rfl ?_
  refine V_copyd (f := y.2.2.1) (f1 := x.2.2.1) (N := 11) (w2 := lineW g a (y.1, y.2.1, va_cpy y.2.2.1 x.2.2.1 0 0 11, x.2.2.2.1, x.2.2.2.2.1, x.2.2.2.2.2.1, x.2.2.2.2.2.2.1, x.2.2.2.2.2.2.2) ++ lineW g b (y.1, y.2.1, y.2.2.1, y.2.2.2.1, y.2.2.2.2.1, y.2.2.2.2.2.1, y.2.2.2.2.2.2.1, y.2.2.2.2.2.2.2)) ok 9 3 11 twm_X0_41 dX0_copyFrom_45 rfl rfl rfl (by decide) (by decide) (by decide) (by decide +kernel) rfl ?_
  refine V_cd (f := va_cpy y.2.2.1 x.2.2.1 0 0 11) (f2 := y.2.2.1) (N := 11) (w2 := lineW g a (y.1, y.2.1, y.2.2.1, x.2.2.2.1, x.2.2.2.2.1, x.2.2.2.2.2.1, x.2.2.2.2.2.2.1, x.2.2.2.2.2.2.2) ++ lineW g b (y.1, y.2.1, y.2.2.1, y.2.2.2.1, y.2.2.2.2.1, y.2.2.2.2.2.1, y.2.2.2.2.2.2.1, y.2.2.2.2.2.2.2)) 3 rfl (fun j hj => cpy0 hj) rfl ?_
  refine V_aload_n ok dX0_copyFrom_48 rfl 1 rfl ?_
  refine V_get (v := .ref (b 4)) ok 6 3 tw_X0 twf_X0_20 rfl rfl (by decide) dX0_copyFrom_49 rfl rfl ?_
  refine V_iconst (v := nI 0) ok dX0_copyFrom_52 rfl ?_
  refine V_aload_n ok dX0_copyFrom_53 rfl 0 rfl ?_
  refine V_get (v := .ref (a 4)) ok 0 3 tw_X0 twf_X0_20 rfl rfl (by decide) dX0_copyFrom_54 rfl rfl ?_
  refine V_iconst (v := nI 0) ok dX0_copyFrom_57 rfl ?_
  refine V_bipush (v := nI 11) ok dX0_copyFrom_58 rfl ?_
  refine V_copyd (f := y.2.2.2.1) (f1 := x.2.2.2.1) (N := 11) (w2 := lineW g a (y.1, y.2.1, y.2.2.1, va_cpy y.2.2.2.1 x.2.2.2.1 0 0 11, x.2.2.2.2.1, x.2.2.2.2.2.1, x.2.2.2.2.2.2.1, x.2.2.2.2.2.2.2) ++ lineW g b (y.1, y.2.1, y.2.2.1, y.2.2.2.1, y.2.2.2.2.1, y.2.2.2.2.2.1, y.2.2.2.2.2.2.1, y.2.2.2.2.2.2.2)) ok 10 4 11 twm_X0_41 dX0_copyFrom_60 rfl rfl rfl (by decide) (by decide) (by decide) (by decide +kernel) rfl ?_
  refine V_cd (f := va_cpy y.2.2.2.1 x.2.2.2.1 0 0 11) (f2 := y.2.2.2.1) (N := 11) (w2 := lineW g a (y.1, y.2.1, y.2.2.1, y.2.2.2.1, x.2.2.2.2.1, x.2.2.2.2.2.1, x.2.2.2.2.2.2.1, x.2.2.2.2.2.2.2) ++ lineW g b (y.1, y.2.1, y.2.2.1, y.2.2.2.1, y.2.2.2.2.1, y.2.2.2.2.2.1, y.2.2.2.2.2.2.1, y.2.2.2.2.2.2.2)) 4 rfl (fun j hj => cpy0 hj) rfl ?_
  refine V_aload_n ok dX0_copyFrom_63 rfl 1 rfl ?_
  refine V_get (v := .ref (b 5)) ok 6 4 tw_X0 twf_X0_23 rfl rfl (by decide) dX0_copyFrom_64 rfl rfl ?_
  refine V_iconst (v := nI 0) ok dX0_copyFrom_67 rfl ?_
  refine V_aload_n ok dX0_copyFrom_68 rfl 0 rfl ?_
  refine V_get (v := .ref (a 5)) ok 0 4 tw_X0 twf_X0_23 rfl rfl (by decide) dX0_copyFrom_69 rfl rfl ?_
  refine V_iconst (v := nI 0) ok dX0_copyFrom_72 rfl ?_
  refine V_bipush (v := nI 11) ok dX0_copyFrom_73 rfl ?_
  refine V_copyd (f := y.2.2.2.2.1) (f1 := x.2.2.2.2.1) (N := 11) (w2 := lineW g a (y.1, y.2.1, y.2.2.1, y.2.2.2.1, va_cpy y.2.2.2.2.1 x.2.2.2.2.1 0 0 11, x.2.2.2.2.2.1, x.2.2.2.2.2.2.1, x.2.2.2.2.2.2.2) ++ lineW g b (y.1, y.2.1, y.2.2.1, y.2.2.2.1, y.2.2.2.2.1, y.2.2.2.2.2.1, y.2.2.2.2.2.2.1, y.2.2.2.2.2.2.2)) ok 11 5 11 twm_X0_41 dX0_copyFrom_75 rfl rfl rfl (by decide) (by decide) (by decide) (by decide +kernel) rfl ?_
  refine V_cd (f := va_cpy y.2.2.2.2.1 x.2.2.2.2.1 0 0 11) (f2 := y.2.2.2.2.1) (N := 11) (w2 := lineW g a (y.1, y.2.1, y.2.2.1, y.2.2.2.1, y.2.2.2.2.1, x.2.2.2.2.2.1, x.2.2.2.2.2.2.1, x.2.2.2.2.2.2.2) ++ lineW g b (y.1, y.2.1, y.2.2.1, y.2.2.2.1, y.2.2.2.2.1, y.2.2.2.2.2.1, y.2.2.2.2.2.2.1, y.2.2.2.2.2.2.2)) 5 rfl (fun j hj => cpy0 hj) rfl ?_
  refine V_aload_n ok dX0_copyFrom_78 rfl 0 rfl ?_
  refine V_aload_n ok dX0_copyFrom_79 rfl 1 rfl ?_
  refine V_get (v := .double y.2.2.2.2.2.1) ok 6 5 tw_X0 twf_X0_51 rfl rfl (by decide) dX0_copyFrom_80 rfl rfl ?_
  refine V_put (w2 := lineW g a (y.1, y.2.1, y.2.2.1, y.2.2.2.1, y.2.2.2.2.1, y.2.2.2.2.2.1, x.2.2.2.2.2.2.1, x.2.2.2.2.2.2.2) ++ lineW g b (y.1, y.2.1, y.2.2.1, y.2.2.2.1, y.2.2.2.2.1, y.2.2.2.2.2.1, y.2.2.2.2.2.2.1, y.2.2.2.2.2.2.2)) ok 0 5 tw_X0 tyX0 tyX0_ok nmX0 twf_X0_51 rfl rfl (by decide) rfl rfl dX0_copyFrom_83 rfl rfl rfl (Nat.lt_of_lt_of_eq (m := 8) (by decide) rfl) rfl ?_
  refine V_aload_n ok dX0_copyFrom_86 rfl 0 rfl ?_
  refine V_aload_n ok dX0_copyFrom_87 rfl 1 rfl ?_
  refine V_get (v := .double y.2.2.2.2.2.2.1) ok 6 6 tw_X0 twf_X0_55 rfl rfl (by decide) dX0_copyFrom_88 rfl rfl ?_
  refine V_put (w2 := lineW g a (y.1, y.2.1, y.2.2.1, y.2.2.2.1, y.2.2.2.2.1, y.2.2.2.2.2.1, y.2.2.2.2.2.2.1, x.2.2.2.2.2.2.2) ++ lineW g b (y.1, y.2.1, y.2.2.1, y.2.2.2.1, y.2.2.2.2.1, y.2.2.2.2.2.1, y.2.2.2.2.2.2.1, y.2.2.2.2.2.2.2)) ok 0 6 tw_X0 tyX0 tyX0_ok nmX0 twf_X0_55 rfl rfl (by decide) rfl rfl dX0_copyFrom_91 rfl rfl rfl (Nat.lt_of_lt_of_eq (m := 8) (by decide) rfl) rfl ?_
  refine V_aload_n ok dX0_copyFrom_94 rfl 0 rfl ?_
  refine V_aload_n ok dX0_copyFrom_95 rfl 1 rfl ?_
  refine V_get (v := .double y.2.2.2.2.2.2.2) ok 6 7 tw_X0 twf_X0_58 rfl rfl (by decide) dX0_copyFrom_96 rfl rfl ?_
  refine V_put (w2 := lineW g a (y.1, y.2.1, y.2.2.1, y.2.2.2.1, y.2.2.2.2.1, y.2.2.2.2.2.1, y.2.2.2.2.2.2.1, y.2.2.2.2.2.2.2) ++ lineW g b (y.1, y.2.1, y.2.2.1, y.2.2.2.1, y.2.2.2.2.1, y.2.2.2.2.2.1, y.2.2.2.2.2.2.1, y.2.2.2.2.2.2.2)) ok 0 7 tw_X0 tyX0 tyX0_ok nmX0 twf_X0_58 rfl rfl (by decide) rfl rfl dX0_copyFrom_99 rfl rfl rfl (Nat.lt_of_lt_of_eq (m := 8) (by decide) rfl) rfl ?_
  exact V_vret ok dX0_copyFrom_102 (Nat.zero_le _) (Nat.zero_le _) ⟨rfl, rfl⟩
/-- the numbers of a trial -/
def tryV (v : Nat → Int32) (k t : Int32) : Nat → Int32 := upd (upd (upd v 5 (nI 0)) 6 k) 7 t
set_option maxHeartbeats 4000000 in
set_option maxRecDepth 100000 in
/-- the other pipe, steady, with a valve under law k -/
theorem c_X0_tryOut (g : Glob) (a b : Nat → Nat) (x y : LineSt) (k t : Int32) (hv : VG (tryV y.1 k t)) : Con g yX0_tryOut cX0_tryOut 4 none ({ frames := 2, cells := 0, slots := 0, locals := 46 } : Room) [.ref (a 0), .ref (b 0), .int k, .int t] (lineW g a x ++ lineW g b y) (Is none (lineW g a (settleL (tryV y.1 k t, x.2)) ++ lineW g b y)) := by
  refine con_of_V ypl_X0_tryOut (Nat.le_of_ble_eq_true rfl) [(0, .ref (a 0)), (1, .ref (b 0)), (2, .int k), (3, .int t)] rfl (fun Γ ok => ?_)
  refine V_aload_n ok dX0_tryOut_0 rfl 1 rfl ?_
  refine V_get (v := .ref (b 1)) ok 6 0 tw_X0 twf_X0_7 rfl rfl (by decide) dX0_tryOut_1 rfl rfl ?_
  refine V_iconst (v := nI 0) ok dX0_tryOut_4 rfl ?_
  refine V_aload_n ok dX0_tryOut_5 rfl 0 rfl ?_
  refine V_get (v := .ref (a 1)) ok 0 0 tw_X0 twf_X0_7 rfl rfl (by decide) dX0_tryOut_6 rfl rfl ?_
  refine V_iconst (v := nI 0) ok dX0_tryOut_9 rfl ?_
  refine V_aload_n ok dX0_tryOut_10 rfl 0 rfl ?_
  refine V_get (v := .ref (a 1)) ok 0 0 tw_X0 twf_X0_7 rfl rfl (by decide) dX0_tryOut_11 rfl rfl ?_
  refine V_alen (t0 := 0) (v := nI 9) ok 1 dX0_tryOut_14 rfl rfl rfl ?_
  refine V_copyi (f := y.1) (f1 := x.1) (N := 9) (w2 := lineW g a (va_cpy y.1 x.1 0 0 9, x.2.1, x.2.2.1, x.2.2.2.1, x.2.2.2.2.1, x.2.2.2.2.2.1, x.2.2.2.2.2.2.1, x.2.2.2.2.2.2.2) ++ lineW g b (y.1, y.2.1, y.2.2.1, y.2.2.2.1, y.2.2.2.2.1, y.2.2.2.2.2.1, y.2.2.2.2.2.2.1, y.2.2.2.2.2.2.2)) ok 7 1 9 twm_X0_41 dX0_tryOut_15 rfl rfl rfl (by decide) (by decide) (by decide) (by decide +kernel) rfl ?_
  refine V_ci (f := va_cpy y.1 x.1 0 0 9) (f2 := y.1) (N := 9) (w2 := lineW g a (y.1, x.2.1, x.2.2.1, x.2.2.2.1, x.2.2.2.2.1, x.2.2.2.2.2.1, x.2.2.2.2.2.2.1, x.2.2.2.2.2.2.2) ++ lineW g b (y.1, y.2.1, y.2.2.1, y.2.2.2.1, y.2.2.2.2.1, y.2.2.2.2.2.1, y.2.2.2.2.2.2.1, y.2.2.2.2.2.2.2)) 1 rfl (fun j hj => cpy0 hj) rfl ?_
  refine V_aload_n ok dX0_tryOut_18 rfl 0 rfl ?_
  refine V_get (v := .ref (a 1)) ok 0 0 tw_X0 twf_X0_7 rfl rfl (by decide) dX0_tryOut_19 rfl rfl ?_
  refine V_iconst (v := nI 5) ok dX0_tryOut_22 rfl ?_
  refine V_iconst (v := nI 0) ok dX0_tryOut_23 rfl ?_
  refine V_iast (f := y.1) (N := 9) (w2 := lineW g a (upd y.1 5 (nI 0), x.2.1, x.2.2.1, x.2.2.2.1, x.2.2.2.2.1, x.2.2.2.2.2.1, x.2.2.2.2.2.2.1, x.2.2.2.2.2.2.2) ++ lineW g b (y.1, y.2.1, y.2.2.1, y.2.2.2.1, y.2.2.2.2.1, y.2.2.2.2.2.1, y.2.2.2.2.2.2.1, y.2.2.2.2.2.2.2)) ok 1 5 dX0_tryOut_24 rfl rfl (by decide) (by decide) rfl ?_
  refine V_aload_n ok dX0_tryOut_25 rfl 0 rfl ?_
  refine V_iload_n ok dX0_tryOut_26 rfl 2 rfl ?_
  refine V_iload_n ok dX0_tryOut_27 rfl 3 rfl ?_
  refine V_cV (v2 := none) (wn := lineW g a (upd (upd (upd y.1 5 (nI 0)) 6 k) 7 t, x.2.1, x.2.2.1, x.2.2.2.1, x.2.2.2.2.1, x.2.2.2.2.2.1, x.2.2.2.2.2.2.1, x.2.2.2.2.2.2.2) ++ lineW g b (y.1, y.2.1, y.2.2.1, y.2.2.2.1, y.2.2.2.2.1, y.2.2.2.2.2.1, y.2.2.2.2.2.2.1, y.2.2.2.2.2.2.2)) (rest := []) ok 0 0 (c_X0_govern g a (upd y.1 5 (nI 0)) x.2.1 x.2.2.1 x.2.2.2.1 x.2.2.2.2.1 x.2.2.2.2.2.1 x.2.2.2.2.2.2.1 x.2.2.2.2.2.2.2 k t) 2 twm_X0_47 twi_yX0_govern twv_yX0_govern twin_X0 twc_yX0_govern yok_X0_govern (by decide) ⟨rfl, rfl⟩ dX0_tryOut_28 rfl rfl rfl rfl (Nat.le_of_ble_eq_true rfl) ⟨Nat.zero_le _, Nat.zero_le _⟩ [0, 1, 2, 3, 4, 5] rfl rfl (Nat.le_of_ble_eq_true rfl) rfl ?_
  refine V_aload_n ok dX0_tryOut_31 rfl 0 rfl ?_
  refine V_cV (v2 := none) (wn := lineW g a (upd (upd (upd (upd y.1 5 (nI 0)) 6 k) 7 t) 8 (nI 0), fil x.2.1 (nv (upd (upd (upd y.1 5 (nI 0)) 6 k) 7 t) 0 + 1) (stF (upd (upd (upd y.1 5 (nI 0)) 6 k) 7 t)), fil x.2.2.1 (nv (upd (upd (upd y.1 5 (nI 0)) 6 k) 7 t) 0 + 1) (stB (upd (upd (upd y.1 5 (nI 0)) 6 k) 7 t)), fil x.2.2.2.1 (nv (upd (upd (upd y.1 5 (nI 0)) 6 k) 7 t) 0 + 1) (stP (upd (upd (upd y.1 5 (nI 0)) 6 k) 7 t)), fil x.2.2.2.2.1 (nv (upd (upd (upd y.1 5 (nI 0)) 6 k) 7 t) 0 + 1) (stP (upd (upd (upd y.1 5 (nI 0)) 6 k) 7 t)), stP (upd (upd (upd y.1 5 (nI 0)) 6 k) 7 t), stP (upd (upd (upd y.1 5 (nI 0)) 6 k) 7 t), FP.i2d ((upd (upd (upd y.1 5 (nI 0)) 6 k) 7 t) 1)) ++ lineW g b (y.1, y.2.1, y.2.2.1, y.2.2.2.1, y.2.2.2.2.1, y.2.2.2.2.2.1, y.2.2.2.2.2.2.1, y.2.2.2.2.2.2.2)) (rest := []) ok 0 0 (c_X0_settle g a (upd (upd (upd y.1 5 (nI 0)) 6 k) 7 t) x.2.1 x.2.2.1 x.2.2.2.1 x.2.2.2.2.1 x.2.2.2.2.2.1 x.2.2.2.2.2.2.1 x.2.2.2.2.2.2.2 hv) 0 twm_X0_26 twi_yX0_settle twv_yX0_settle twin_X0 twc_yX0_settle yok_X0_settle (by decide) ⟨rfl, rfl⟩ dX0_tryOut_32 rfl rfl rfl rfl (Nat.le_of_ble_eq_true rfl) ⟨Nat.zero_le _, Nat.zero_le _⟩ [0, 1, 2, 3, 4, 5] rfl rfl (Nat.le_of_ble_eq_true rfl) rfl ?_
  exact V_vret ok dX0_tryOut_35 (Nat.zero_le _) (Nat.zero_le _) ⟨rfl, rfl⟩
set_option maxHeartbeats 4000000 in
set_option maxRecDepth 100000 in
/-- what is kept -/
theorem c_X0_sumOfSquares (g : Glob) (a : Nat → Nat) (v : Nat → Int32) (F B G L : Nat → UInt64) (hi lo lev : UInt64) (hv : VG v) (hk : ∀ i, i ≤ nv v 0 → vf_n64 (FP.dmul (F i) (F i)) ∧ vf_n64 (FP.dmul (B i) (B i)) ∧ vf_n64 (FP.dadd (FP.dmul (F i) (F i)) (FP.dmul (B i) (B i))) ∧ vf_n64 (kept0 F B (i + 1))) : Con g yX0_sumOfSquares cX0_sumOfSquares 4 (some .double) ({ frames := 0, cells := 0, slots := 0, locals := 0 } : Room) [.ref (a 0)] (lineW g a (v, F, B, G, L, hi, lo, lev)) (Is (some (.double (kept0 F B (nv v 0 + 1)))) (lineW g a (v, F, B, G, L, hi, lo, lev))) := by
  refine con_of_V ypl_X0_sumOfSquares (Nat.le_of_ble_eq_true rfl) [(0, .ref (a 0))] rfl (fun Γ ok => ?_)
  have hN := hv.n
  have HL : ∀ (n i : Nat), i ≤ nv v 0 + 1 → n = nv v 0 + 1 - i → V g Γ 4 0 0 4 (lineW g a (v, F, B, G, L, hi, lo, lev)) [(3, .int (nI i)), (1, .double (kept0 F B i)), (0, .ref (a 0))] [] := by
    intro n
    induction n using Nat.strongRecOn with
    | ind n ih =>
    intro i hi1 hn
    subst hn
    refine V_iload_n ok dX0_sumOfSquares_4 rfl 0 rfl ?_
    refine V_aload_n ok dX0_sumOfSquares_5 rfl 2 rfl ?_
    refine V_get (v := .ref (a 1)) ok 0 0 tw_X0 twf_X0_7 rfl rfl (by decide) dX0_sumOfSquares_6 rfl rfl ?_
    refine V_iconst (v := nI 0) ok dX0_sumOfSquares_9 rfl ?_
    refine V_iald (f := v) (N := 9) ok 1 0 dX0_sumOfSquares_10 rfl rfl (by decide) (by decide) ?_
    refine V_top_int (b := nI (nv v 0)) (hv.n.1) ?_
    refine V_icmpN_gt (tgt := 50) ok dX0_sumOfSquares_11 (by decide) (by omega) (by omega) (fun h11 => ?_) (fun h11 => ?_)
    · refine V_dload_n ok dX0_sumOfSquares_50 rfl 1 rfl ?_
      exact V_dret ok dX0_sumOfSquares_51 (Nat.zero_le _) (Nat.zero_le _) ⟨by rw [show i = nv v 0 + 1 by omega], rfl⟩
    · refine V_dload_n ok dX0_sumOfSquares_14 rfl 1 rfl ?_
      refine V_aload_n ok dX0_sumOfSquares_15 rfl 2 rfl ?_
      refine V_get (v := .ref (a 2)) ok 0 1 tw_X0 twf_X0_13 rfl rfl (by decide) dX0_sumOfSquares_16 rfl rfl ?_
      refine V_iload_n ok dX0_sumOfSquares_19 rfl 0 rfl ?_
      refine V_dald (f := F) (N := 11) ok 2 i dX0_sumOfSquares_20 rfl rfl (by omega) (by decide) ?_
      refine V_aload_n ok dX0_sumOfSquares_21 rfl 2 rfl ?_
      refine V_get (v := .ref (a 2)) ok 0 1 tw_X0 twf_X0_13 rfl rfl (by decide) dX0_sumOfSquares_22 rfl rfl ?_
      refine V_iload_n ok dX0_sumOfSquares_25 rfl 0 rfl ?_
      refine V_dald (f := F) (N := 11) ok 2 i dX0_sumOfSquares_26 rfl rfl (by omega) (by decide) ?_
      refine V_dmul ok dX0_sumOfSquares_27 (hk i (by omega)).1 ?_
      refine V_aload_n ok dX0_sumOfSquares_28 rfl 2 rfl ?_
      refine V_get (v := .ref (a 3)) ok 0 2 tw_X0 twf_X0_17 rfl rfl (by decide) dX0_sumOfSquares_29 rfl rfl ?_
      refine V_iload_n ok dX0_sumOfSquares_32 rfl 0 rfl ?_
      refine V_dald (f := B) (N := 11) ok 3 i dX0_sumOfSquares_33 rfl rfl (by omega) (by decide) ?_
      refine V_aload_n ok dX0_sumOfSquares_34 rfl 2 rfl ?_
      refine V_get (v := .ref (a 3)) ok 0 2 tw_X0 twf_X0_17 rfl rfl (by decide) dX0_sumOfSquares_35 rfl rfl ?_
      refine V_iload_n ok dX0_sumOfSquares_38 rfl 0 rfl ?_
      refine V_dald (f := B) (N := 11) ok 3 i dX0_sumOfSquares_39 rfl rfl (by omega) (by decide) ?_
      refine V_dmul ok dX0_sumOfSquares_40 (hk i (by omega)).2.1 ?_
      refine V_dadd ok dX0_sumOfSquares_41 (hk i (by omega)).2.2.1 ?_
      refine V_dadd ok dX0_sumOfSquares_42 (hk i (by omega)).2.2.2 ?_
      refine V_dstore_n (lv2 := [(1, .double (FP.dadd (kept0 F B i) (FP.dadd (FP.dmul (F i) (F i)) (FP.dmul (B i) (B i))))), (3, .int (nI i)), (0, .ref (a 0))]) ok dX0_sumOfSquares_43 rfl (by decide) rfl ?_
      refine V_iinc (q := 1) (v := nI (i + 1)) (lv2 := [(3, .int (nI (i + 1))), (1, .double (FP.dadd (kept0 F B i) (FP.dadd (FP.dmul (F i) (F i)) (FP.dmul (B i) (B i))))), (0, .ref (a 0))]) ok dX0_sumOfSquares_44 rfl (nI_inc i 1) (by decide) rfl ?_
      refine V_goto (tgt := 4) ok dX0_sumOfSquares_47 (by decide) ?_
      refine V_lv [0, 1, 2] rfl ?_
      exact ih (nv v 0 + 1 - (i + 1)) (by omega) (i + 1) (by omega) rfl
  refine V_dconst0 ok dX0_sumOfSquares_0 ?_
  refine V_dstore_n (lv2 := [(1, .double 0), (0, .ref (a 0))]) ok dX0_sumOfSquares_1 rfl (by decide) rfl ?_
  refine V_iconst (v := nI 0) ok dX0_sumOfSquares_2 rfl ?_
  refine V_istore_n (lv2 := [(3, .int (nI 0)), (1, .double 0), (0, .ref (a 0))]) ok dX0_sumOfSquares_3 rfl (by decide) rfl ?_
  refine V_lv [0, 1, 2] rfl ?_
  exact HL (nv v 0 + 1) 0 (Nat.zero_le _) rfl
