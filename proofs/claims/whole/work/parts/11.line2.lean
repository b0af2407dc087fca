set_option maxHeartbeats 4000000 in
set_option maxRecDepth 100000 in
/-- the waves go on -/
theorem c_X0_shift (g : Glob) (a : Nat → Nat) (v : Nat → Int32) (F B G L : Nat → UInt64) (hi lo lev : UInt64) (hv : VG v) : Con g yX0_shift cX0_shift 3 none ({ frames := 0, cells := 0, slots := 0, locals := 0 } : Room) [.ref (a 0)] (lineW g a (v, F, B, G, L, hi, lo, lev)) (Is none (lineW g a (v, shF (nv v 0) 0 F, shB (nv v 0) B, G, L, hi, lo, lev))) := by
  refine con_of_V ypl_X0_shift (Nat.le_of_ble_eq_true rfl) [(0, .ref (a 0))] rfl (fun Γ ok => ?_)
  have hN := hv.n
  have HB : ∀ (n i : Nat), i ≤ nv v 0 → n = nv v 0 - i → V g Γ 3 0 0 35 (lineW g a (v, shF (nv v 0) 0 F, shB i B, G, L, hi, lo, lev)) [(2, .int (nI i)), (1, .int (nI (nv v 0))), (0, .ref (a 0))] [] := by
    intro n
    induction n using Nat.strongRecOn with
    | ind n ih =>
    intro i hi1 hn
    subst hn
    refine V_iload_n ok dX0_shift_35 rfl 0 rfl ?_
    refine V_iload_n ok dX0_shift_36 rfl 1 rfl ?_
    refine V_icmpN_ge (tgt := 60) ok dX0_shift_37 (by decide) (by omega) (by omega) (fun h37 => ?_) (fun h37 => ?_)
    · exact V_vret ok dX0_shift_60 (Nat.zero_le _) (Nat.zero_le _) ⟨rfl, by rw [show i = nv v 0 by omega]⟩
    · refine V_aload_n ok dX0_shift_40 rfl 2 rfl ?_
      refine V_get (v := .ref (a 3)) ok 0 2 tw_X0 twf_X0_17 rfl rfl (by decide) dX0_shift_41 rfl rfl ?_
      refine V_iload_n ok dX0_shift_44 rfl 0 rfl ?_
      refine V_aload_n ok dX0_shift_45 rfl 2 rfl ?_
      refine V_get (v := .ref (a 3)) ok 0 2 tw_X0 twf_X0_17 rfl rfl (by decide) dX0_shift_46 rfl rfl ?_
      refine V_iload_n ok dX0_shift_49 rfl 0 rfl ?_
      refine V_iconst (v := nI 1) ok dX0_shift_50 rfl ?_
      refine V_iaddN (a := i) (b := 1) (c := i + 1) ok dX0_shift_51 (by first | rfl | omega) ?_
      refine V_dald (f := shB i B) (N := 11) ok 3 (i + 1) dX0_shift_52 rfl rfl (by omega) (by decide) ?_
      refine V_dast (f := shB i B) (N := 11) (w2 := lineW g a (v, shF (nv v 0) 0 F, shB (i + 1) B, G, L, hi, lo, lev)) ok 3 i dX0_shift_53 rfl rfl (by omega) (by decide) (congrArg (fun zz => lineW g a (v, shF (nv v 0) 0 F, zz, G, L, hi, lo, lev)) (shB_s i B)) ?_
      refine V_iinc (q := 0) (v := nI (i + 1)) (lv2 := [(2, .int (nI (i + 1))), (1, .int (nI (nv v 0))), (0, .ref (a 0))]) ok dX0_shift_54 rfl (nI_inc i 1) (by decide) rfl ?_
      refine V_goto (tgt := 35) ok dX0_shift_57 (by decide) ?_
      refine V_lv [0, 1, 2] rfl ?_
      exact ih (nv v 0 - (i + 1)) (by omega) (i + 1) (by omega) rfl
  have HA : ∀ i : Nat, i ≤ nv v 0 → V g Γ 3 0 0 9 (lineW g a (v, shF (nv v 0) i F, B, G, L, hi, lo, lev)) [(2, .int (nI i)), (1, .int (nI (nv v 0))), (0, .ref (a 0))] [] := by
    intro i
    induction i with
    | zero =>
      intro hi1
      refine V_iload_n ok dX0_shift_9 rfl 0 rfl ?_
      refine V_ifN_le (tgt := 33) ok dX0_shift_10 (by decide) (by omega) (fun h10 => ?_) (fun h10 => absurd rfl h10)
      refine V_iconst (v := nI 0) ok dX0_shift_33 rfl ?_
      refine V_istore_n (lv2 := [(2, .int (nI 0)), (1, .int (nI (nv v 0))), (0, .ref (a 0))]) ok dX0_shift_34 rfl (by decide) rfl ?_
      refine V_lv [0, 1, 2] rfl ?_
      refine V_ws (w2 := lineW g a (v, shF (nv v 0) 0 F, shB 0 B, G, L, hi, lo, lev)) (by rw [shB_0]) ?_
      exact HB (nv v 0) 0 (Nat.zero_le _) rfl
    | succ i ih =>
      intro hi1
      refine V_iload_n ok dX0_shift_9 rfl 0 rfl ?_
      refine V_ifN_le (tgt := 33) ok dX0_shift_10 (by decide) (by omega) (fun h10 => absurd h10 (by omega)) (fun h10 => ?_)
      refine V_aload_n ok dX0_shift_13 rfl 2 rfl ?_
      refine V_get (v := .ref (a 2)) ok 0 1 tw_X0 twf_X0_13 rfl rfl (by decide) dX0_shift_14 rfl rfl ?_
      refine V_iload_n ok dX0_shift_17 rfl 0 rfl ?_
      refine V_aload_n ok dX0_shift_18 rfl 2 rfl ?_
      refine V_get (v := .ref (a 2)) ok 0 1 tw_X0 twf_X0_13 rfl rfl (by decide) dX0_shift_19 rfl rfl ?_
      refine V_iload_n ok dX0_shift_22 rfl 0 rfl ?_
      refine V_iconst (v := nI 1) ok dX0_shift_23 rfl ?_
      refine V_isubN (a := i + 1) (b := 1) (c := i) ok dX0_shift_24 (by omega) (by omega) ?_
      refine V_dald (f := shF (nv v 0) (i + 1) F) (N := 11) ok 2 i dX0_shift_25 rfl rfl (by omega) (by decide) ?_
      refine V_dast (f := shF (nv v 0) (i + 1) F) (N := 11) (w2 := lineW g a (v, shF (nv v 0) i F, B, G, L, hi, lo, lev)) ok 2 (i + 1) dX0_shift_26 rfl rfl (by omega) (by decide) (congrArg (fun zz => lineW g a (v, zz, B, G, L, hi, lo, lev)) (shF_s F hi1)) ?_
      refine V_iinc (q := 0) (v := nI i) (lv2 := [(2, .int (nI i)), (1, .int (nI (nv v 0))), (0, .ref (a 0))]) ok dX0_shift_27 rfl (nI_dec i) (by decide) rfl ?_
      refine V_goto (tgt := 9) ok dX0_shift_30 (by decide) ?_
      refine V_lv [0, 1, 2] rfl ?_
      exact ih (by omega)
  refine V_aload_n ok dX0_shift_0 rfl 0 rfl ?_
  refine V_get (v := .ref (a 1)) ok 0 0 tw_X0 twf_X0_7 rfl rfl (by decide) dX0_shift_1 rfl rfl ?_
  refine V_iconst (v := nI 0) ok dX0_shift_4 rfl ?_
  refine V_iald (f := v) (N := 9) ok 1 0 dX0_shift_5 rfl rfl (by decide) (by decide) ?_
  refine V_top_int (b := nI (nv v 0)) (hv.n.1) ?_
  refine V_istore_n (lv2 := [(1, .int (nI (nv v 0))), (0, .ref (a 0))]) ok dX0_shift_6 rfl (by decide) rfl ?_
  refine V_iload_n ok dX0_shift_7 rfl 0 rfl ?_
  refine V_istore_n (lv2 := [(2, .int (nI (nv v 0))), (1, .int (nI (nv v 0))), (0, .ref (a 0))]) ok dX0_shift_8 rfl (by decide) rfl ?_
  refine V_ws (w2 := lineW g a (v, shF (nv v 0) (nv v 0) F, B, G, L, hi, lo, lev)) (by rw [shF_N]) ?_
  refine V_lv [0, 1, 2] rfl ?_
  exact HA (nv v 0) (Nat.le_refl _)
set_option maxHeartbeats 4000000 in
set_option maxRecDepth 100000 in
theorem c_X0_turnLeft (g : Glob) (a : Nat → Nat) (v : Nat → Int32) (F B G L : Nat → UInt64) (hi lo lev : UInt64) (hn : vf_n64 (FP.dsub (FP.i2d (v 1)) (B 0))) : Con g yX0_turnLeft cX0_turnLeft 3 none ({ frames := 0, cells := 0, slots := 0, locals := 0 } : Room) [.ref (a 0)] (lineW g a (v, F, B, G, L, hi, lo, lev)) (Is none (lineW g a (v, vf_upd F 0 (leftF v (B 0)), B, G, L, hi, lo, lev))) := by
  refine con_of_V ypl_X0_turnLeft (Nat.le_of_ble_eq_true rfl) [(0, .ref (a 0))] rfl (fun Γ ok => ?_)
  refine V_aload_n ok dX0_turnLeft_0 rfl 0 rfl ?_
  refine V_get (v := .ref (a 1)) ok 0 0 tw_X0 twf_X0_7 rfl rfl (by decide) dX0_turnLeft_1 rfl rfl ?_
  refine V_iconst (v := nI 1) ok dX0_turnLeft_4 rfl ?_
  refine V_iald (f := v) (N := 9) ok 1 1 dX0_turnLeft_5 rfl rfl (by decide) (by decide) ?_
  refine V_i2d ok dX0_turnLeft_6 ?_
  refine V_dstore_n (lv2 := [(1, .double (FP.i2d (v 1))), (0, .ref (a 0))]) ok dX0_turnLeft_7 rfl (by decide) rfl ?_
  refine V_aload_n ok dX0_turnLeft_8 rfl 1 rfl ?_
  refine V_get (v := .ref (a 2)) ok 0 1 tw_X0 twf_X0_13 rfl rfl (by decide) dX0_turnLeft_9 rfl rfl ?_
  refine V_iconst (v := nI 0) ok dX0_turnLeft_12 rfl ?_
  refine V_aload_n ok dX0_turnLeft_13 rfl 1 rfl ?_
  refine V_get (v := .ref (a 1)) ok 0 0 tw_X0 twf_X0_7 rfl rfl (by decide) dX0_turnLeft_14 rfl rfl ?_
  refine V_iconst (v := nI 4) ok dX0_turnLeft_17 rfl ?_
  refine V_iald (f := v) (N := 9) ok 1 4 dX0_turnLeft_18 rfl rfl (by decide) (by decide) ?_
  have J19 : V g Γ 3 0 0 39 (lineW g a (v, F, B, G, L, hi, lo, lev)) [(1, .double (FP.i2d (v 1))), (0, .ref (a 0))] [.double (if (v 4) = 0 then FP.dsub (FP.i2d (v 1)) (B 0) else B 0), .int (nI 0), .ref (a 2)] := by
    refine V_dast (f := F) (N := 11) (w2 := lineW g a (v, vf_upd F 0 (if (v 4) = 0 then FP.dsub (FP.i2d (v 1)) (B 0) else B 0), B, G, L, hi, lo, lev)) ok 2 0 dX0_turnLeft_39 rfl rfl (by decide) (by decide) rfl ?_
    exact V_vret ok dX0_turnLeft_40 (Nat.zero_le _) (Nat.zero_le _) ⟨rfl, rfl⟩
  refine V_if_ne (tgt := 33) ok dX0_turnLeft_19 (by decide) (fun h19 => ?_) (fun h19 => ?_)
  · refine V_aload_n ok dX0_turnLeft_33 rfl 1 rfl ?_
    refine V_get (v := .ref (a 3)) ok 0 2 tw_X0 twf_X0_17 rfl rfl (by decide) dX0_turnLeft_34 rfl rfl ?_
    refine V_iconst (v := nI 0) ok dX0_turnLeft_37 rfl ?_
    refine V_dald (f := B) (N := 11) ok 3 0 dX0_turnLeft_38 rfl rfl (by decide) (by decide) ?_
    simp only [if_neg h19] at J19
    exact J19
  · refine V_dload_n ok dX0_turnLeft_22 rfl 0 rfl ?_
    refine V_aload_n ok dX0_turnLeft_23 rfl 1 rfl ?_
    refine V_get (v := .ref (a 3)) ok 0 2 tw_X0 twf_X0_17 rfl rfl (by decide) dX0_turnLeft_24 rfl rfl ?_
    refine V_iconst (v := nI 0) ok dX0_turnLeft_27 rfl ?_
    refine V_dald (f := B) (N := 11) ok 3 0 dX0_turnLeft_28 rfl rfl (by decide) (by decide) ?_
    refine V_dsub ok dX0_turnLeft_29 hn ?_
    refine V_goto (tgt := 39) ok dX0_turnLeft_30 (by decide) ?_
    simp only [if_pos h19] at J19
    exact J19
set_option maxHeartbeats 4000000 in
set_option maxRecDepth 100000 in
theorem c_X0_turnRight (g : Glob) (a : Nat → Nat) (v : Nat → Int32) (F B G L : Nat → UInt64) (hi lo lev : UInt64) (hv : VG v) (hn0 : vf_n64 (FP.dsub (F (nv v 0)) (letF (nv v 6) (nv v 7) (nv v 8) (v 2)))) (hn1 : vf_n64 (FP.dsub (FP.i2d (v 1)) (F (nv v 0)))) (hn2 : vf_n64 (FP.dsub lev (F (nv v 0)))) (hn3 : vf_n64 (FP.dsub (F (nv v 0)) (FP.dsub lev (F (nv v 0))))) (hf1 : vf_n64 (FP.ddiv (FP.dsub (F (nv v 0)) (FP.dsub lev (F (nv v 0)))) (FP.i2d (v 3)))) (hf2 : vf_n64 (FP.dadd lev (FP.ddiv (FP.dsub (F (nv v 0)) (FP.dsub lev (F (nv v 0)))) (FP.i2d (v 3))))) (hf3 : nn (FP.dadd lev (FP.ddiv (FP.dsub (F (nv v 0)) (FP.dsub lev (F (nv v 0)))) (FP.i2d (v 3))))) : Con g yX0_turnRight cX0_turnRight 4 none ({ frames := 1, cells := 0, slots := 0, locals := 30 } : Room) [.ref (a 0)] (lineW g a (v, F, B, G, L, hi, lo, lev)) (Is none (lineW g a (v, F, vf_upd B (nv v 0) (rightB v (F (nv v 0)) lev), G, L, hi, lo, rightLev v (F (nv v 0)) lev))) := by
  refine con_of_V ypl_X0_turnRight (Nat.le_of_ble_eq_true rfl) [(0, .ref (a 0))] rfl (fun Γ ok => ?_)
  have hN := hv.n
  refine V_aload_n ok dX0_turnRight_0 rfl 0 rfl ?_
  refine V_get (v := .ref (a 1)) ok 0 0 tw_X0 twf_X0_7 rfl rfl (by decide) dX0_turnRight_1 rfl rfl ?_
  refine V_iconst (v := nI 0) ok dX0_turnRight_4 rfl ?_
  refine V_iald (f := v) (N := 9) ok 1 0 dX0_turnRight_5 rfl rfl (by decide) (by decide) ?_
  refine V_top_int (b := nI (nv v 0)) (hv.n.1) ?_
  refine V_istore_n (lv2 := [(1, .int (nI (nv v 0))), (0, .ref (a 0))]) ok dX0_turnRight_6 rfl (by decide) rfl ?_
  refine V_aload_n ok dX0_turnRight_7 rfl 1 rfl ?_
  refine V_get (v := .ref (a 1)) ok 0 0 tw_X0 twf_X0_7 rfl rfl (by decide) dX0_turnRight_8 rfl rfl ?_
  refine V_iconst (v := nI 1) ok dX0_turnRight_11 rfl ?_
  refine V_iald (f := v) (N := 9) ok 1 1 dX0_turnRight_12 rfl rfl (by decide) (by decide) ?_
  refine V_i2d ok dX0_turnRight_13 ?_
  refine V_dstore_n (lv2 := [(2, .double (FP.i2d (v 1))), (1, .int (nI (nv v 0))), (0, .ref (a 0))]) ok dX0_turnRight_14 rfl (by decide) rfl ?_
  refine V_aload_n ok dX0_turnRight_15 rfl 2 rfl ?_
  refine V_get (v := .ref (a 1)) ok 0 0 tw_X0 twf_X0_7 rfl rfl (by decide) dX0_turnRight_16 rfl rfl ?_
  refine V_iconst (v := nI 5) ok dX0_turnRight_19 rfl ?_
  refine V_iald (f := v) (N := 9) ok 1 5 dX0_turnRight_20 rfl rfl (by decide) (by decide) ?_
  refine V_top_int (b := nI (nv v 5)) (hv.rt.1) ?_
  rcases (show nv v 5 = 0 ∨ nv v 5 = 1 ∨ nv v 5 = 2 ∨ nv v 5 = 3 by have := hv.rt; omega) with hr | hr | hr | hr
  · refine V_top_int (b := nI 0) (by rw [hr]) ?_
    refine V_tabIn (off := 27) (tgt := 48) ok dX0_turnRight_21 (by decide) (by decide) rfl (by decide) ?_
    refine V_aload_n ok dX0_turnRight_48 rfl 2 rfl ?_
    refine V_get (v := .ref (a 3)) ok 0 2 tw_X0 twf_X0_17 rfl rfl (by decide) dX0_turnRight_49 rfl rfl ?_
    refine V_iload_n ok dX0_turnRight_52 rfl 1 rfl ?_
    refine V_aload_n ok dX0_turnRight_53 rfl 2 rfl ?_
    refine V_get (v := .ref (a 2)) ok 0 1 tw_X0 twf_X0_13 rfl rfl (by decide) dX0_turnRight_54 rfl rfl ?_
    refine V_iload_n ok dX0_turnRight_57 rfl 1 rfl ?_
    refine V_dald (f := F) (N := 11) ok 2 (nv v 0) dX0_turnRight_58 rfl rfl (by omega) (by decide) ?_
    refine V_aload_n ok dX0_turnRight_59 rfl 2 rfl ?_
    refine V_get (v := .ref (a 1)) ok 0 0 tw_X0 twf_X0_7 rfl rfl (by decide) dX0_turnRight_60 rfl rfl ?_
    refine V_bipush (v := nI 6) ok dX0_turnRight_63 rfl ?_
    refine V_iald (f := v) (N := 9) ok 1 6 dX0_turnRight_65 rfl rfl (by decide) (by decide) ?_
    refine V_top_int (b := nI (nv v 6)) (hv.k.1) ?_
    refine V_aload_n ok dX0_turnRight_66 rfl 2 rfl ?_
    refine V_get (v := .ref (a 1)) ok 0 0 tw_X0 twf_X0_7 rfl rfl (by decide) dX0_turnRight_67 rfl rfl ?_
    refine V_iconst (v := nI 2) ok dX0_turnRight_70 rfl ?_
    refine V_iald (f := v) (N := 9) ok 1 2 dX0_turnRight_71 rfl rfl (by decide) (by decide) ?_
    refine V_aload_n ok dX0_turnRight_72 rfl 2 rfl ?_
    refine V_get (v := .ref (a 1)) ok 0 0 tw_X0 twf_X0_7 rfl rfl (by decide) dX0_turnRight_73 rfl rfl ?_
    refine V_bipush (v := nI 7) ok dX0_turnRight_76 rfl ?_
    refine V_iald (f := v) (N := 9) ok 1 7 dX0_turnRight_78 rfl rfl (by decide) (by decide) ?_
    refine V_top_int (b := nI (nv v 7)) (hv.t.1) ?_
    refine V_aload_n ok dX0_turnRight_79 rfl 2 rfl ?_
    refine V_get (v := .ref (a 1)) ok 0 0 tw_X0 twf_X0_7 rfl rfl (by decide) dX0_turnRight_80 rfl rfl ?_
    refine V_bipush (v := nI 8) ok dX0_turnRight_83 rfl ?_
    refine V_iald (f := v) (N := 9) ok 1 8 dX0_turnRight_85 rfl rfl (by decide) (by decide) ?_
    refine V_top_int (b := nI (nv v 8)) (hv.tm.1) ?_
    refine V_cS (v2 := some (.double (letF (nv v 6) (nv v 7) (nv v 8) (v 2)))) (wn := lineW g a (v, F, B, G, L, hi, lo, lev)) (rest := [.double (F (nv v 0)), .int (nI (nv v 0)), .ref (a 3)]) ok (c_X0_letBy g (nv v 6) (v 2) (nv v 7) (nv v 8) hv.k.2 hv.bq hv.t.2.1 hv.t.2.2 (by have := hv.tm; omega)) 4 twm_X0_77 tws_yX0_letBy twin_X0 twc_yX0_letBy yok_X0_letBy (by decide) ⟨rfl, rfl⟩ dX0_turnRight_86 rfl rfl (Nat.le_of_ble_eq_true rfl) ⟨Nat.zero_le _, Nat.zero_le _⟩ [] rfl rfl (Nat.le_of_ble_eq_true rfl) rfl ?_
    refine V_dsub ok dX0_turnRight_89 hn0 ?_
    refine V_dast (f := B) (N := 11) (w2 := lineW g a (v, F, vf_upd B (nv v 0) (FP.dsub (F (nv v 0)) (letF (nv v 6) (nv v 7) (nv v 8) (v 2))), G, L, hi, lo, lev)) ok 3 (nv v 0) dX0_turnRight_90 rfl rfl (by omega) (by decide) rfl ?_
    refine V_goto (tgt := 160) ok dX0_turnRight_91 (by decide) ?_
    exact V_vret ok dX0_turnRight_160 (Nat.zero_le _) (Nat.zero_le _) ⟨rfl, by simp [rightB, rightLev, hr]⟩
  · refine V_top_int (b := nI 1) (by rw [hr]) ?_
    refine V_tabIn (off := 73) (tgt := 94) ok dX0_turnRight_21 (by decide) (by decide) rfl (by decide) ?_
    refine V_aload_n ok dX0_turnRight_94 rfl 2 rfl ?_
    refine V_get (v := .ref (a 3)) ok 0 2 tw_X0 twf_X0_17 rfl rfl (by decide) dX0_turnRight_95 rfl rfl ?_
    refine V_iload_n ok dX0_turnRight_98 rfl 1 rfl ?_
    refine V_dload_n ok dX0_turnRight_99 rfl 0 rfl ?_
    refine V_aload_n ok dX0_turnRight_100 rfl 2 rfl ?_
    refine V_get (v := .ref (a 2)) ok 0 1 tw_X0 twf_X0_13 rfl rfl (by decide) dX0_turnRight_101 rfl rfl ?_
    refine V_iload_n ok dX0_turnRight_104 rfl 1 rfl ?_
    refine V_dald (f := F) (N := 11) ok 2 (nv v 0) dX0_turnRight_105 rfl rfl (by omega) (by decide) ?_
    refine V_dsub ok dX0_turnRight_106 hn1 ?_
    refine V_dast (f := B) (N := 11) (w2 := lineW g a (v, F, vf_upd B (nv v 0) (FP.dsub (FP.i2d (v 1)) (F (nv v 0))), G, L, hi, lo, lev)) ok 3 (nv v 0) dX0_turnRight_107 rfl rfl (by omega) (by decide) rfl ?_
    refine V_goto (tgt := 160) ok dX0_turnRight_108 (by decide) ?_
    exact V_vret ok dX0_turnRight_160 (Nat.zero_le _) (Nat.zero_le _) ⟨rfl, by simp [rightB, rightLev, hr]⟩
  · refine V_top_int (b := nI 2) (by rw [hr]) ?_
    refine V_tabIn (off := 90) (tgt := 111) ok dX0_turnRight_21 (by decide) (by decide) rfl (by decide) ?_
    refine V_aload_n ok dX0_turnRight_111 rfl 2 rfl ?_
    refine V_get (v := .ref (a 3)) ok 0 2 tw_X0 twf_X0_17 rfl rfl (by decide) dX0_turnRight_112 rfl rfl ?_
    refine V_iload_n ok dX0_turnRight_115 rfl 1 rfl ?_
    refine V_aload_n ok dX0_turnRight_116 rfl 2 rfl ?_
    refine V_get (v := .ref (a 2)) ok 0 1 tw_X0 twf_X0_13 rfl rfl (by decide) dX0_turnRight_117 rfl rfl ?_
    refine V_iload_n ok dX0_turnRight_120 rfl 1 rfl ?_
    refine V_dald (f := F) (N := 11) ok 2 (nv v 0) dX0_turnRight_121 rfl rfl (by omega) (by decide) ?_
    refine V_dast (f := B) (N := 11) (w2 := lineW g a (v, F, vf_upd B (nv v 0) (F (nv v 0)), G, L, hi, lo, lev)) ok 3 (nv v 0) dX0_turnRight_122 rfl rfl (by omega) (by decide) rfl ?_
    refine V_goto (tgt := 160) ok dX0_turnRight_123 (by decide) ?_
    exact V_vret ok dX0_turnRight_160 (Nat.zero_le _) (Nat.zero_le _) ⟨rfl, by simp [rightB, rightLev, hr]⟩
  · refine V_top_int (b := nI 3) (by rw [hr]) ?_
    refine V_tabOut (tgt := 126) ok dX0_turnRight_21 (by decide) (by decide) ?_
    refine V_aload_n ok dX0_turnRight_126 rfl 2 rfl ?_
    refine V_get (v := .ref (a 3)) ok 0 2 tw_X0 twf_X0_17 rfl rfl (by decide) dX0_turnRight_127 rfl rfl ?_
    refine V_iload_n ok dX0_turnRight_130 rfl 1 rfl ?_
    refine V_aload_n ok dX0_turnRight_131 rfl 2 rfl ?_
    refine V_get (v := .double lev) ok 0 7 tw_X0 twf_X0_58 rfl rfl (by decide) dX0_turnRight_132 rfl rfl ?_
    refine V_aload_n ok dX0_turnRight_135 rfl 2 rfl ?_
    refine V_get (v := .ref (a 2)) ok 0 1 tw_X0 twf_X0_13 rfl rfl (by decide) dX0_turnRight_136 rfl rfl ?_
    refine V_iload_n ok dX0_turnRight_139 rfl 1 rfl ?_
    refine V_dald (f := F) (N := 11) ok 2 (nv v 0) dX0_turnRight_140 rfl rfl (by omega) (by decide) ?_
    refine V_dsub ok dX0_turnRight_141 hn2 ?_
    refine V_dast (f := B) (N := 11) (w2 := lineW g a (v, F, vf_upd B (nv v 0) (FP.dsub lev (F (nv v 0))), G, L, hi, lo, lev)) ok 3 (nv v 0) dX0_turnRight_142 rfl rfl (by omega) (by decide) rfl ?_
    refine V_aload_n ok dX0_turnRight_143 rfl 2 rfl ?_
    refine V_aload_n ok dX0_turnRight_144 rfl 2 rfl ?_
    refine V_get (v := .ref (a 2)) ok 0 1 tw_X0 twf_X0_13 rfl rfl (by decide) dX0_turnRight_145 rfl rfl ?_
    refine V_iload_n ok dX0_turnRight_148 rfl 1 rfl ?_
    refine V_dald (f := F) (N := 11) ok 2 (nv v 0) dX0_turnRight_149 rfl rfl (by omega) (by decide) ?_
    refine V_aload_n ok dX0_turnRight_150 rfl 2 rfl ?_
    refine V_get (v := .ref (a 3)) ok 0 2 tw_X0 twf_X0_17 rfl rfl (by decide) dX0_turnRight_151 rfl rfl ?_
    refine V_iload_n ok dX0_turnRight_154 rfl 1 rfl ?_
    refine V_dald (f := vf_upd B (nv v 0) (FP.dsub lev (F (nv v 0)))) (N := 11) ok 3 (nv v 0) dX0_turnRight_155 rfl rfl (by omega) (by decide) ?_
    refine V_top_double (b := FP.dsub lev (F (nv v 0))) (by simp [vf_upd]) ?_
    refine V_dsub ok dX0_turnRight_156 hn3 ?_
    refine V_cV (v2 := none) (wn := lineW g a (v, F, vf_upd B (nv v 0) (FP.dsub lev (F (nv v 0))), G, L, hi, lo, clampF (risen lev (FP.dsub (F (nv v 0)) (FP.dsub lev (F (nv v 0)))) (v 3)))) (rest := []) ok 0 0 (c_X0_fillTank g a v F (vf_upd B (nv v 0) (FP.dsub lev (F (nv v 0)))) G L hi lo lev (FP.dsub (F (nv v 0)) (FP.dsub lev (F (nv v 0)))) hf1 hf2 hf3) 1 twm_X0_81 twi_yX0_fillTank twv_yX0_fillTank twin_X0 twc_yX0_fillTank yok_X0_fillTank (by decide) ⟨rfl, rfl⟩ dX0_turnRight_157 rfl rfl rfl rfl (Nat.le_of_ble_eq_true rfl) ⟨Nat.zero_le _, Nat.zero_le _⟩ [0, 1, 2, 3, 4, 5] rfl rfl (Nat.le_of_ble_eq_true rfl) rfl ?_
    exact V_vret ok dX0_turnRight_160 (Nat.zero_le _) (Nat.zero_le _) ⟨rfl, by simp [rightB, rightLev, hr]⟩
theorem st_a {v : Nat → Int32} (hv : VG v) : Bd 1100 (FP.dadd (FP.i2d (v 1)) (FP.i2d (v 2))) := bdA hv.bh hv.bq (by decide) (by decide)
theorem st_s {v : Nat → Int32} (hv : VG v) : Bd 1100 (FP.dsub (FP.i2d (v 1)) (FP.i2d (v 2))) := bdS hv.bh hv.bq (by decide) (by decide)
theorem st_F {v : Nat → Int32} (hv : VG v) : Bd 1100 (stF v) := bdQ (st_a hv) two_fin two_one (by decide)
theorem st_B {v : Nat → Int32} (hv : VG v) : Bd 1100 (stB v) := bdQ (st_s hv) two_fin two_one (by decide)
theorem st_P {v : Nat → Int32} (hv : VG v) : Bd 2200 (stP v) := bdA (st_F hv) (st_B hv) (by decide) (by decide)
set_option maxHeartbeats 4000000 in
set_option maxRecDepth 100000 in
/-- steady -/
theorem c_X0_settle (g : Glob) (a : Nat → Nat) (v : Nat → Int32) (F B G L : Nat → UInt64) (hi lo lev : UInt64) (hv : VG v) : Con g yX0_settle cX0_settle 6 none ({ frames := 1, cells := 0, slots := 0, locals := 21 } : Room) [.ref (a 0)] (lineW g a (v, F, B, G, L, hi, lo, lev)) (Is none (lineW g a (upd v 8 (nI 0), fil F (nv v 0 + 1) (stF v), fil B (nv v 0 + 1) (stB v), fil G (nv v 0 + 1) (stP v), fil L (nv v 0 + 1) (stP v), stP v, stP v, FP.i2d (v 1)))) := by
  refine con_of_V ypl_X0_settle (Nat.le_of_ble_eq_true rfl) [(0, .ref (a 0))] rfl (fun Γ ok => ?_)
  have hN := hv.n
  have HT : V g Γ 6 0 0 103 (lineW g a (upd v 8 (nI 0), fil F (nv v 0 + 1) (stF v), fil B (nv v 0 + 1) (stB v), fil G (nv v 0 + 1) (stP v), fil L (nv v 0 + 1) (stP v), hi, lo, FP.i2d (v 1))) [(5, .int (nI (nv v 0 + 1))), (3, .double (FP.i2d (v 2))), (1, .double (FP.i2d (v 1))), (0, .ref (a 0))] [] := by
    refine V_aload_n ok dX0_settle_103 rfl 3 rfl ?_
    refine V_aload_n ok dX0_settle_104 rfl 3 rfl ?_
    refine V_iconst (v := nI 0) ok dX0_settle_105 rfl ?_
    refine V_cV (v2 := some (.double (FP.dadd ((fil F (nv v 0 + 1) (stF v)) 0) ((fil B (nv v 0 + 1) (stB v)) 0)))) (wn := lineW g a (upd v 8 (nI 0), fil F (nv v 0 + 1) (stF v), fil B (nv v 0 + 1) (stB v), fil G (nv v 0 + 1) (stP v), fil L (nv v 0 + 1) (stP v), hi, lo, FP.i2d (v 1))) (rest := [.ref (a 0)]) ok 0 0 (c_X0_pressure g a (upd v 8 (nI 0)) (fil F (nv v 0 + 1) (stF v)) (fil B (nv v 0 + 1) (stB v)) (fil G (nv v 0 + 1) (stP v)) (fil L (nv v 0 + 1) (stP v)) hi lo (FP.i2d (v 1)) 0 (by omega) (by rw [fil_at F (stF v) (Nat.succ_pos _), fil_at B (stB v) (Nat.succ_pos _)]; exact (st_P hv).n64)) 1 twm_X0_61 twi_yX0_pressure twv_yX0_pressure twin_X0 twc_yX0_pressure yok_X0_pressure (by decide) ⟨rfl, rfl⟩ dX0_settle_106 rfl rfl rfl rfl (Nat.le_of_ble_eq_true rfl) ⟨Nat.zero_le _, Nat.zero_le _⟩ [0, 1, 2, 3, 4, 5] rfl rfl (Nat.le_of_ble_eq_true rfl) rfl ?_
    refine V_top_double (b := stP v) (by rw [fil_at F (stF v) (Nat.succ_pos _), fil_at B (stB v) (Nat.succ_pos _)]; rfl) ?_
    refine V_put (w2 := lineW g a (upd v 8 (nI 0), fil F (nv v 0 + 1) (stF v), fil B (nv v 0 + 1) (stB v), fil G (nv v 0 + 1) (stP v), fil L (nv v 0 + 1) (stP v), stP v, lo, FP.i2d (v 1))) ok 0 5 tw_X0 tyX0 tyX0_ok nmX0 twf_X0_51 rfl rfl (by decide) rfl rfl dX0_settle_109 rfl rfl rfl (Nat.lt_of_lt_of_eq (m := 8) (by decide) rfl) rfl ?_
    refine V_aload_n ok dX0_settle_112 rfl 3 rfl ?_
    refine V_aload_n ok dX0_settle_113 rfl 3 rfl ?_
    refine V_iconst (v := nI 0) ok dX0_settle_114 rfl ?_
    refine V_cV (v2 := some (.double (FP.dadd ((fil F (nv v 0 + 1) (stF v)) 0) ((fil B (nv v 0 + 1) (stB v)) 0)))) (wn := lineW g a (upd v 8 (nI 0), fil F (nv v 0 + 1) (stF v), fil B (nv v 0 + 1) (stB v), fil G (nv v 0 + 1) (stP v), fil L (nv v 0 + 1) (stP v), stP v, lo, FP.i2d (v 1))) (rest := [.ref (a 0)]) ok 0 0 (c_X0_pressure g a (upd v 8 (nI 0)) (fil F (nv v 0 + 1) (stF v)) (fil B (nv v 0 + 1) (stB v)) (fil G (nv v 0 + 1) (stP v)) (fil L (nv v 0 + 1) (stP v)) (stP v) lo (FP.i2d (v 1)) 0 (by omega) (by rw [fil_at F (stF v) (Nat.succ_pos _), fil_at B (stB v) (Nat.succ_pos _)]; exact (st_P hv).n64)) 1 twm_X0_61 twi_yX0_pressure twv_yX0_pressure twin_X0 twc_yX0_pressure yok_X0_pressure (by decide) ⟨rfl, rfl⟩ dX0_settle_115 rfl rfl rfl rfl (Nat.le_of_ble_eq_true rfl) ⟨Nat.zero_le _, Nat.zero_le _⟩ [0, 1, 2, 3, 4, 5] rfl rfl (Nat.le_of_ble_eq_true rfl) rfl ?_
    refine V_top_double (b := stP v) (by rw [fil_at F (stF v) (Nat.succ_pos _), fil_at B (stB v) (Nat.succ_pos _)]; rfl) ?_
    refine V_put (w2 := lineW g a (upd v 8 (nI 0), fil F (nv v 0 + 1) (stF v), fil B (nv v 0 + 1) (stB v), fil G (nv v 0 + 1) (stP v), fil L (nv v 0 + 1) (stP v), stP v, stP v, FP.i2d (v 1))) ok 0 6 tw_X0 tyX0 tyX0_ok nmX0 twf_X0_55 rfl rfl (by decide) rfl rfl dX0_settle_118 rfl rfl rfl (Nat.lt_of_lt_of_eq (m := 8) (by decide) rfl) rfl ?_
    exact V_vret ok dX0_settle_121 (Nat.zero_le _) (Nat.zero_le _) ⟨rfl, rfl⟩
  have HL : ∀ (n i : Nat), i ≤ nv v 0 + 1 → n = nv v 0 + 1 - i → V g Γ 6 0 0 32 (lineW g a (upd v 8 (nI 0), fil F i (stF v), fil B i (stB v), fil G i (stP v), fil L i (stP v), hi, lo, FP.i2d (v 1))) [(5, .int (nI i)), (3, .double (FP.i2d (v 2))), (1, .double (FP.i2d (v 1))), (0, .ref (a 0))] [] := by
    intro n
    induction n using Nat.strongRecOn with
    | ind n ih =>
    intro i hi1 hn
    subst hn
    refine V_iload ok dX0_settle_32 0 rfl ?_
    refine V_aload_n ok dX0_settle_34 rfl 3 rfl ?_
    refine V_get (v := .ref (a 1)) ok 0 0 tw_X0 twf_X0_7 rfl rfl (by decide) dX0_settle_35 rfl rfl ?_
    refine V_iconst (v := nI 0) ok dX0_settle_38 rfl ?_
    refine V_iald (f := upd v 8 (nI 0)) (N := 9) ok 1 0 dX0_settle_39 rfl rfl (by decide) (by decide) ?_
    refine V_top_int (b := nI (nv v 0)) ((show upd v 8 (nI 0) 0 = nI (nv v 0) from hv.n.1)) ?_
    refine V_icmpN_gt (tgt := 103) ok dX0_settle_40 (by decide) (by omega) (by omega) (fun h40 => ?_) (fun h40 => ?_)
    · have hiN : i = nv v 0 + 1 := by omega
      subst hiN
      exact HT
    · refine V_aload_n ok dX0_settle_43 rfl 3 rfl ?_
      refine V_get (v := .ref (a 2)) ok 0 1 tw_X0 twf_X0_13 rfl rfl (by decide) dX0_settle_44 rfl rfl ?_
      refine V_iload ok dX0_settle_47 0 rfl ?_
      refine V_dload_n ok dX0_settle_49 rfl 2 rfl ?_
      refine V_dload_n ok dX0_settle_50 rfl 1 rfl ?_
      refine V_dadd ok dX0_settle_51 (st_a hv).n64 ?_
      refine V_ldc2d ok twd_X0_39 dX0_settle_52 ?_
      refine V_ddiv ok dX0_settle_55 (st_F hv).n64 ?_
      refine V_dast (f := fil F i (stF v)) (N := 11) (w2 := lineW g a (upd v 8 (nI 0), fil F (i + 1) (stF v), fil B i (stB v), fil G i (stP v), fil L i (stP v), hi, lo, FP.i2d (v 1))) ok 2 i dX0_settle_56 rfl rfl (by omega) (by decide) (congrArg (fun zz => lineW g a (upd v 8 (nI 0), zz, fil B i (stB v), fil G i (stP v), fil L i (stP v), hi, lo, FP.i2d (v 1))) (fil_s F i (stF v))) ?_
      refine V_aload_n ok dX0_settle_57 rfl 3 rfl ?_
      refine V_get (v := .ref (a 3)) ok 0 2 tw_X0 twf_X0_17 rfl rfl (by decide) dX0_settle_58 rfl rfl ?_
      refine V_iload ok dX0_settle_61 0 rfl ?_
      refine V_dload_n ok dX0_settle_63 rfl 2 rfl ?_
      refine V_dload_n ok dX0_settle_64 rfl 1 rfl ?_
      refine V_dsub ok dX0_settle_65 (st_s hv).n64 ?_
      refine V_ldc2d ok twd_X0_39 dX0_settle_66 ?_
      refine V_ddiv ok dX0_settle_69 (st_B hv).n64 ?_
      refine V_dast (f := fil B i (stB v)) (N := 11) (w2 := lineW g a (upd v 8 (nI 0), fil F (i + 1) (stF v), fil B (i + 1) (stB v), fil G i (stP v), fil L i (stP v), hi, lo, FP.i2d (v 1))) ok 3 i dX0_settle_70 rfl rfl (by omega) (by decide) (congrArg (fun zz => lineW g a (upd v 8 (nI 0), fil F (i + 1) (stF v), zz, fil G i (stP v), fil L i (stP v), hi, lo, FP.i2d (v 1))) (fil_s B i (stB v))) ?_
      refine V_aload_n ok dX0_settle_71 rfl 3 rfl ?_
      refine V_get (v := .ref (a 4)) ok 0 3 tw_X0 twf_X0_20 rfl rfl (by decide) dX0_settle_72 rfl rfl ?_
      refine V_iload ok dX0_settle_75 0 rfl ?_
      refine V_aload_n ok dX0_settle_77 rfl 3 rfl ?_
      refine V_iload ok dX0_settle_78 0 rfl ?_
      refine V_cV (v2 := some (.double (FP.dadd ((fil F (i + 1) (stF v)) i) ((fil B (i + 1) (stB v)) i)))) (wn := lineW g a (upd v 8 (nI 0), fil F (i + 1) (stF v), fil B (i + 1) (stB v), fil G i (stP v), fil L i (stP v), hi, lo, FP.i2d (v 1))) (rest := [.int (nI i), .ref (a 4)]) ok 0 0 (c_X0_pressure g a (upd v 8 (nI 0)) (fil F (i + 1) (stF v)) (fil B (i + 1) (stB v)) (fil G i (stP v)) (fil L i (stP v)) hi lo (FP.i2d (v 1)) i (by omega) (by rw [fil_at F (stF v) (Nat.lt_succ_self i), fil_at B (stB v) (Nat.lt_succ_self i)]; exact (st_P hv).n64)) 1 twm_X0_61 twi_yX0_pressure twv_yX0_pressure twin_X0 twc_yX0_pressure yok_X0_pressure (by decide) ⟨rfl, rfl⟩ dX0_settle_80 rfl rfl rfl rfl (Nat.le_of_ble_eq_true rfl) ⟨Nat.zero_le _, Nat.zero_le _⟩ [0, 1, 2, 3, 4, 5] rfl rfl (Nat.le_of_ble_eq_true rfl) rfl ?_
      refine V_top_double (b := stP v) (by rw [fil_at F (stF v) (Nat.lt_succ_self i), fil_at B (stB v) (Nat.lt_succ_self i)]; rfl) ?_
      refine V_dast (f := fil G i (stP v)) (N := 11) (w2 := lineW g a (upd v 8 (nI 0), fil F (i + 1) (stF v), fil B (i + 1) (stB v), fil G (i + 1) (stP v), fil L i (stP v), hi, lo, FP.i2d (v 1))) ok 4 i dX0_settle_83 rfl rfl (by omega) (by decide) (congrArg (fun zz => lineW g a (upd v 8 (nI 0), fil F (i + 1) (stF v), fil B (i + 1) (stB v), zz, fil L i (stP v), hi, lo, FP.i2d (v 1))) (fil_s G i (stP v))) ?_
      refine V_aload_n ok dX0_settle_84 rfl 3 rfl ?_
      refine V_get (v := .ref (a 5)) ok 0 4 tw_X0 twf_X0_23 rfl rfl (by decide) dX0_settle_85 rfl rfl ?_
      refine V_iload ok dX0_settle_88 0 rfl ?_
      refine V_aload_n ok dX0_settle_90 rfl 3 rfl ?_
      refine V_iload ok dX0_settle_91 0 rfl ?_
      refine V_cV (v2 := some (.double (FP.dadd ((fil F (i + 1) (stF v)) i) ((fil B (i + 1) (stB v)) i)))) (wn := lineW g a (upd v 8 (nI 0), fil F (i + 1) (stF v), fil B (i + 1) (stB v), fil G (i + 1) (stP v), fil L i (stP v), hi, lo, FP.i2d (v 1))) (rest := [.int (nI i), .ref (a 5)]) ok 0 0 (c_X0_pressure g a (upd v 8 (nI 0)) (fil F (i + 1) (stF v)) (fil B (i + 1) (stB v)) (fil G (i + 1) (stP v)) (fil L i (stP v)) hi lo (FP.i2d (v 1)) i (by omega) (by rw [fil_at F (stF v) (Nat.lt_succ_self i), fil_at B (stB v) (Nat.lt_succ_self i)]; exact (st_P hv).n64)) 1 twm_X0_61 twi_yX0_pressure twv_yX0_pressure twin_X0 twc_yX0_pressure yok_X0_pressure (by decide) ⟨rfl, rfl⟩ dX0_settle_93 rfl rfl rfl rfl (Nat.le_of_ble_eq_true rfl) ⟨Nat.zero_le _, Nat.zero_le _⟩ [0, 1, 2, 3, 4, 5] rfl rfl (Nat.le_of_ble_eq_true rfl) rfl ?_
      refine V_top_double (b := stP v) (by rw [fil_at F (stF v) (Nat.lt_succ_self i), fil_at B (stB v) (Nat.lt_succ_self i)]; rfl) ?_
      refine V_dast (f := fil L i (stP v)) (N := 11) (w2 := lineW g a (upd v 8 (nI 0), fil F (i + 1) (stF v), fil B (i + 1) (stB v), fil G (i + 1) (stP v), fil L (i + 1) (stP v), hi, lo, FP.i2d (v 1))) ok 5 i dX0_settle_96 rfl rfl (by omega) (by decide) (congrArg (fun zz => lineW g a (upd v 8 (nI 0), fil F (i + 1) (stF v), fil B (i + 1) (stB v), fil G (i + 1) (stP v), zz, hi, lo, FP.i2d (v 1))) (fil_s L i (stP v))) ?_
      refine V_iinc (q := 0) (v := nI (i + 1)) (lv2 := [(5, .int (nI (i + 1))), (3, .double (FP.i2d (v 2))), (1, .double (FP.i2d (v 1))), (0, .ref (a 0))]) ok dX0_settle_97 rfl (nI_inc i 1) (by decide) rfl ?_
      refine V_goto (tgt := 32) ok dX0_settle_100 (by decide) ?_
      refine V_lv [0, 1, 2, 3] rfl ?_
      exact ih (nv v 0 + 1 - (i + 1)) (by omega) (i + 1) (by omega) rfl
  refine V_aload_n ok dX0_settle_0 rfl 0 rfl ?_
  refine V_get (v := .ref (a 1)) ok 0 0 tw_X0 twf_X0_7 rfl rfl (by decide) dX0_settle_1 rfl rfl ?_
  refine V_iconst (v := nI 1) ok dX0_settle_4 rfl ?_
  refine V_iald (f := v) (N := 9) ok 1 1 dX0_settle_5 rfl rfl (by decide) (by decide) ?_
  refine V_i2d ok dX0_settle_6 ?_
  refine V_dstore_n (lv2 := [(1, .double (FP.i2d (v 1))), (0, .ref (a 0))]) ok dX0_settle_7 rfl (by decide) rfl ?_
  refine V_aload_n ok dX0_settle_8 rfl 1 rfl ?_
  refine V_get (v := .ref (a 1)) ok 0 0 tw_X0 twf_X0_7 rfl rfl (by decide) dX0_settle_9 rfl rfl ?_
  refine V_iconst (v := nI 2) ok dX0_settle_12 rfl ?_
  refine V_iald (f := v) (N := 9) ok 1 2 dX0_settle_13 rfl rfl (by decide) (by decide) ?_
  refine V_i2d ok dX0_settle_14 ?_
  refine V_dstore_n (lv2 := [(3, .double (FP.i2d (v 2))), (1, .double (FP.i2d (v 1))), (0, .ref (a 0))]) ok dX0_settle_15 rfl (by decide) rfl ?_
  refine V_aload_n ok dX0_settle_16 rfl 2 rfl ?_
  refine V_get (v := .ref (a 1)) ok 0 0 tw_X0 twf_X0_7 rfl rfl (by decide) dX0_settle_17 rfl rfl ?_
  refine V_bipush (v := nI 8) ok dX0_settle_20 rfl ?_
  refine V_iconst (v := nI 0) ok dX0_settle_22 rfl ?_
  refine V_iast (f := v) (N := 9) (w2 := lineW g a (upd v 8 (nI 0), F, B, G, L, hi, lo, lev)) ok 1 8 dX0_settle_23 rfl rfl (by decide) (by decide) rfl ?_
  refine V_aload_n ok dX0_settle_24 rfl 2 rfl ?_
  refine V_dload_n ok dX0_settle_25 rfl 1 rfl ?_
  refine V_put (w2 := lineW g a (upd v 8 (nI 0), F, B, G, L, hi, lo, FP.i2d (v 1))) ok 0 7 tw_X0 tyX0 tyX0_ok nmX0 twf_X0_58 rfl rfl (by decide) rfl rfl dX0_settle_26 rfl rfl rfl (Nat.lt_of_lt_of_eq (m := 8) (by decide) rfl) rfl ?_
  refine V_iconst (v := nI 0) ok dX0_settle_29 rfl ?_
  refine V_istore (lv2 := [(5, .int (nI 0)), (3, .double (FP.i2d (v 2))), (1, .double (FP.i2d (v 1))), (0, .ref (a 0))]) ok dX0_settle_30 (by decide) rfl ?_
  refine V_ws (w2 := lineW g a (upd v 8 (nI 0), fil F 0 (stF v), fil B 0 (stB v), fil G 0 (stP v), fil L 0 (stP v), hi, lo, FP.i2d (v 1))) (by simp only [fil_0]) ?_
  refine V_lv [0, 1, 2, 3] rfl ?_
  exact HL (nv v 0 + 1) 0 (Nat.zero_le _) rfl
