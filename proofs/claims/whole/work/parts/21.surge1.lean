theorem k_X0_hasNode (g : Glob) (a : Nat → Nat) (x : LineSt) (i : Int32) : Con g yX0_hasNode cX0_hasNode 2 (some .boolean) ({ frames := 0, cells := 0, slots := 0, locals := 0 } : Room) [.ref (a 0), .int i] (lineW g a x) (Is (some (.int (bI (nodeB x.1 i)))) (lineW g a x)) := c_X0_hasNode g a x.1 x.2.1 x.2.2.1 x.2.2.2.1 x.2.2.2.2.1 x.2.2.2.2.2.1 x.2.2.2.2.2.2.1 x.2.2.2.2.2.2.2 i
theorem k_X0_pressure (g : Glob) (a : Nat → Nat) (x : LineSt) (i : Nat) (hi10 : i ≤ 10) (hp : vf_n64 (FP.dadd (x.2.1 i) (x.2.2.1 i))) : Con g yX0_pressure cX0_pressure 2 (some .double) ({ frames := 0, cells := 0, slots := 0, locals := 0 } : Room) [.ref (a 0), .int (nI i)] (lineW g a x) (Is (some (.double (FP.dadd (x.2.1 i) (x.2.2.1 i)))) (lineW g a x)) := c_X0_pressure g a x.1 x.2.1 x.2.2.1 x.2.2.2.1 x.2.2.2.2.1 x.2.2.2.2.2.1 x.2.2.2.2.2.2.1 x.2.2.2.2.2.2.2 i hi10 hp
theorem k_X0_govern (g : Glob) (a : Nat → Nat) (x : LineSt) (k t : Int32) : Con g yX0_govern cX0_govern 3 none ({ frames := 0, cells := 0, slots := 0, locals := 0 } : Room) [.ref (a 0), .int k, .int t] (lineW g a x) (Is none (lineW g a (upd (upd x.1 6 k) 7 t, x.2))) := c_X0_govern g a x.1 x.2.1 x.2.2.1 x.2.2.2.1 x.2.2.2.2.1 x.2.2.2.2.2.1 x.2.2.2.2.2.2.1 x.2.2.2.2.2.2.2 k t
theorem k_X0_settle (g : Glob) (a : Nat → Nat) (x : LineSt) (hv : VG x.1) : Con g yX0_settle cX0_settle 6 none ({ frames := 1, cells := 0, slots := 0, locals := 21 } : Room) [.ref (a 0)] (lineW g a x) (Is none (lineW g a (settleL x))) := c_X0_settle g a x.1 x.2.1 x.2.2.1 x.2.2.2.1 x.2.2.2.2.1 x.2.2.2.2.2.1 x.2.2.2.2.2.2.1 x.2.2.2.2.2.2.2 hv
theorem k_X0_put (g : Glob) (a : Nat → Nat) (x : LineSt) (w : Nat) (u : Int32) (hw : w < 9) (hv : VG (upd x.1 w u)) : Con g yX0_put cX0_put 3 none ({ frames := 2, cells := 0, slots := 0, locals := 46 } : Room) [.ref (a 0), .int (nI w), .int u] (lineW g a x) (Is none (lineW g a (settleL (upd x.1 w u, x.2)))) := c_X0_put g a x.1 x.2.1 x.2.2.1 x.2.2.2.1 x.2.2.2.2.1 x.2.2.2.2.2.1 x.2.2.2.2.2.2.1 x.2.2.2.2.2.2.2 w u hw hv
theorem k_X0_sumOfSquares (g : Glob) (a : Nat → Nat) (x : LineSt) (hv : VG x.1) (hk : ∀ i, i ≤ nv x.1 0 → vf_n64 (FP.dmul (x.2.1 i) (x.2.1 i)) ∧ vf_n64 (FP.dmul (x.2.2.1 i) (x.2.2.1 i)) ∧ vf_n64 (FP.dadd (FP.dmul (x.2.1 i) (x.2.1 i)) (FP.dmul (x.2.2.1 i) (x.2.2.1 i))) ∧ vf_n64 (kept0 x.2.1 x.2.2.1 (i + 1))) : Con g yX0_sumOfSquares cX0_sumOfSquares 4 (some .double) ({ frames := 0, cells := 0, slots := 0, locals := 0 } : Room) [.ref (a 0)] (lineW g a x) (Is (some (.double (kept0 x.2.1 x.2.2.1 (nv x.1 0 + 1)))) (lineW g a x)) := c_X0_sumOfSquares g a x.1 x.2.1 x.2.2.1 x.2.2.2.1 x.2.2.2.2.1 x.2.2.2.2.2.1 x.2.2.2.2.2.2.1 x.2.2.2.2.2.2.2 hv hk
set_option maxHeartbeats 4000000 in
set_option maxRecDepth 100000 in
theorem c_X2_isStepCount (g : Glob) (n : Int32) : Con g yX2_isStepCount cX2_isStepCount 1 (some .boolean) ({ frames := 0, cells := 0, slots := 0, locals := 0 } : Room) [.int n] ([]) (Is (some (.int (bI (stepB n)))) []) := by
  refine con_of_V ypl_X2_isStepCount (Nat.le_of_ble_eq_true rfl) [(0, .int n)] rfl (fun Γ ok => ?_)
  refine V_iload_n ok dX2_isStepCount_0 rfl 0 rfl ?_
  refine V_iconst (v := nI 1) ok dX2_isStepCount_1 rfl ?_
  refine V_icmp_lt (tgt := 15) ok dX2_isStepCount_2 (by decide) (fun h2 => ?_) (fun h2 => ?_)
  · refine V_iconst (v := nI 0) ok dX2_isStepCount_15 rfl ?_
    exact V_zret ok dX2_isStepCount_16 (Nat.zero_le _) (Nat.zero_le _) rfl ⟨bI_f (by unfold stepB; rw [if_pos h2]), rfl⟩
  · refine V_iload_n ok dX2_isStepCount_5 rfl 0 rfl ?_
    refine V_bipush (v := nI 100) ok dX2_isStepCount_6 rfl ?_
    refine V_icmp_gt (tgt := 15) ok dX2_isStepCount_8 (by decide) (fun h8 => ?_) (fun h8 => ?_)
    · refine V_iconst (v := nI 0) ok dX2_isStepCount_15 rfl ?_
      exact V_zret ok dX2_isStepCount_16 (Nat.zero_le _) (Nat.zero_le _) rfl ⟨bI_f (by unfold stepB; rw [if_neg h2, if_pos h8]), rfl⟩
    · refine V_iconst (v := nI 1) ok dX2_isStepCount_11 rfl ?_
      refine V_goto (tgt := 16) ok dX2_isStepCount_12 (by decide) ?_
      exact V_zret ok dX2_isStepCount_16 (Nat.zero_le _) (Nat.zero_le _) rfl ⟨bI_t (by unfold stepB; rw [if_neg h2, if_neg h8]), rfl⟩
set_option maxHeartbeats 4000000 in
set_option maxRecDepth 100000 in
theorem c_X2_isTrialLength (g : Glob) (n : Int32) : Con g yX2_isTrialLength cX2_isTrialLength 1 (some .boolean) ({ frames := 0, cells := 0, slots := 0, locals := 0 } : Room) [.int n] ([]) (Is (some (.int (bI (trialB n)))) []) := by
  refine con_of_V ypl_X2_isTrialLength (Nat.le_of_ble_eq_true rfl) [(0, .int n)] rfl (fun Γ ok => ?_)
  refine V_iload_n ok dX2_isTrialLength_0 rfl 0 rfl ?_
  refine V_if_lt (tgt := 14) ok dX2_isTrialLength_1 (by decide) (fun h1 => ?_) (fun h1 => ?_)
  · refine V_iconst (v := nI 0) ok dX2_isTrialLength_14 rfl ?_
    exact V_zret ok dX2_isTrialLength_15 (Nat.zero_le _) (Nat.zero_le _) rfl ⟨bI_f (by unfold trialB; rw [if_pos h1]), rfl⟩
  · refine V_iload_n ok dX2_isTrialLength_4 rfl 0 rfl ?_
    refine V_bipush (v := nI 100) ok dX2_isTrialLength_5 rfl ?_
    refine V_icmp_gt (tgt := 14) ok dX2_isTrialLength_7 (by decide) (fun h7 => ?_) (fun h7 => ?_)
    · refine V_iconst (v := nI 0) ok dX2_isTrialLength_14 rfl ?_
      exact V_zret ok dX2_isTrialLength_15 (Nat.zero_le _) (Nat.zero_le _) rfl ⟨bI_f (by unfold trialB; rw [if_neg h1, if_pos h7]), rfl⟩
    · refine V_iconst (v := nI 1) ok dX2_isTrialLength_10 rfl ?_
      refine V_goto (tgt := 15) ok dX2_isTrialLength_11 (by decide) ?_
      exact V_zret ok dX2_isTrialLength_15 (Nat.zero_le _) (Nat.zero_le _) rfl ⟨bI_t (by unfold trialB; rw [if_neg h1, if_neg h7]), rfl⟩
set_option maxHeartbeats 4000000 in
set_option maxRecDepth 100000 in
theorem c_X2_isBound (g : Glob) (n : Int32) : Con g yX2_isBound cX2_isBound 1 (some .boolean) ({ frames := 0, cells := 0, slots := 0, locals := 0 } : Room) [.int n] ([]) (Is (some (.int (bI (boundB n)))) []) := by
  refine con_of_V ypl_X2_isBound (Nat.le_of_ble_eq_true rfl) [(0, .int n)] rfl (fun Γ ok => ?_)
  refine V_iload_n ok dX2_isBound_0 rfl 0 rfl ?_
  refine V_sipush (v := (-9999)) ok dX2_isBound_1 rfl ?_
  refine V_icmp_lt (tgt := 18) ok dX2_isBound_4 (by decide) (fun h4 => ?_) (fun h4 => ?_)
  · refine V_iconst (v := nI 0) ok dX2_isBound_18 rfl ?_
    exact V_zret ok dX2_isBound_19 (Nat.zero_le _) (Nat.zero_le _) rfl ⟨bI_f (by unfold boundB; rw [if_pos h4]), rfl⟩
  · refine V_iload_n ok dX2_isBound_7 rfl 0 rfl ?_
    refine V_sipush (v := nI 9999) ok dX2_isBound_8 rfl ?_
    refine V_icmp_gt (tgt := 18) ok dX2_isBound_11 (by decide) (fun h11 => ?_) (fun h11 => ?_)
    · refine V_iconst (v := nI 0) ok dX2_isBound_18 rfl ?_
      exact V_zret ok dX2_isBound_19 (Nat.zero_le _) (Nat.zero_le _) rfl ⟨bI_f (by unfold boundB; rw [if_neg h4, if_pos h11]), rfl⟩
    · refine V_iconst (v := nI 1) ok dX2_isBound_14 rfl ?_
      refine V_goto (tgt := 19) ok dX2_isBound_15 (by decide) ?_
      exact V_zret ok dX2_isBound_19 (Nat.zero_le _) (Nat.zero_le _) rfl ⟨bI_t (by unfold boundB; rw [if_neg h4, if_neg h11]), rfl⟩
set_option maxHeartbeats 4000000 in
set_option maxRecDepth 100000 in
theorem c_X2_thousandfold (g : Glob) (x : UInt64) (hx : FP.Core.DFin x) : Con g yX2_thousandfold cX2_thousandfold 2 (some .long) ({ frames := 0, cells := 0, slots := 0, locals := 0 } : Room) [.double x] ([]) (Is (some (.long (tf x))) []) := by
  refine con_of_V ypl_X2_thousandfold (Nat.le_of_ble_eq_true rfl) [(0, .double x)] rfl (fun Γ ok => ?_)
  refine V_ldc2d ok twd_X2_210 dX2_thousandfold_0 ?_
  refine V_dload_n ok dX2_thousandfold_3 rfl 0 rfl ?_
  refine V_dmul ok dX2_thousandfold_4 (tf_n64 hx) ?_
  refine V_d2l ok dX2_thousandfold_5 ?_
  exact V_lret ok dX2_thousandfold_6 (Nat.zero_le _) (Nat.zero_le _) ⟨rfl, rfl⟩
set_option maxHeartbeats 4000000 in
set_option maxRecDepth 100000 in
theorem c_X2_refuse_m2 (g : Glob) (a : Nat → Nat) (now spare : LineSt) (K : Nat → LineSt) (nw sts : Nat) (rf : Nat → Int32) (pg : PageSt)  : Con g yX2_refuse cX2_refuse 2 (some .int) ({ frames := 0, cells := 0, slots := 0, locals := 0 } : Room) [.ref (a 0), .int (-2)] (surgeW g a now spare K nw sts rf pg) (Is (some (.int (-2))) (surgeW g a now spare K nw sts (rfU rf (-2)) pg)) := by
  refine con_of_V ypl_X2_refuse (Nat.le_of_ble_eq_true rfl) [(0, .ref (a 0)), (1, .int (-2))] rfl (fun Γ ok => ?_)
  refine V_aload_n ok dX2_refuse_0 rfl 0 rfl ?_
  refine V_get (v := .ref (a 38)) ok 0 5 tw_X2 twf_X2_30 rfl rfl (by decide) dX2_refuse_1 sg_at0 rfl ?_
  refine V_iload_n ok dX2_refuse_4 rfl 1 rfl ?_
  refine V_bipush (v := (-2)) ok dX2_refuse_5 rfl ?_
  refine V_icmp_ne (tgt := 14) ok dX2_refuse_7 (by decide) (fun h7 => absurd rfl h7) (fun h7 => ?_)
  refine V_iconst (v := nI 0) ok dX2_refuse_10 rfl ?_
  refine V_goto (tgt := 25) ok dX2_refuse_11 (by decide) ?_
  refine V_dup2_11 ok dX2_refuse_25 rfl rfl ?_
  refine V_iald (f := rf) (N := 3) ok 38 0 dX2_refuse_26 sg_at38 rfl (by decide) (by decide) ?_
  refine V_iconst (v := nI 1) ok dX2_refuse_27 rfl ?_
  refine V_iadd ok dX2_refuse_28 ?_
  refine V_iast (f := rf) (N := 3) (w2 := surgeW g a now spare K nw sts (upd rf 0 ((rf 0) + (nI 1))) pg) ok 38 0 dX2_refuse_29 sg_at38 rfl (by decide) (by decide) sg_set_rf ?_
  refine V_iload_n ok dX2_refuse_30 rfl 1 rfl ?_
  exact V_iret ok dX2_refuse_31 (Nat.zero_le _) (Nat.zero_le _) ⟨rfl, rfl⟩
set_option maxHeartbeats 4000000 in
set_option maxRecDepth 100000 in
theorem c_X2_refuse_m3 (g : Glob) (a : Nat → Nat) (now spare : LineSt) (K : Nat → LineSt) (nw sts : Nat) (rf : Nat → Int32) (pg : PageSt)  : Con g yX2_refuse cX2_refuse 2 (some .int) ({ frames := 0, cells := 0, slots := 0, locals := 0 } : Room) [.ref (a 0), .int (-3)] (surgeW g a now spare K nw sts rf pg) (Is (some (.int (-3))) (surgeW g a now spare K nw sts (rfU rf (-3)) pg)) := by
  refine con_of_V ypl_X2_refuse (Nat.le_of_ble_eq_true rfl) [(0, .ref (a 0)), (1, .int (-3))] rfl (fun Γ ok => ?_)
  refine V_aload_n ok dX2_refuse_0 rfl 0 rfl ?_
  refine V_get (v := .ref (a 38)) ok 0 5 tw_X2 twf_X2_30 rfl rfl (by decide) dX2_refuse_1 sg_at0 rfl ?_
  refine V_iload_n ok dX2_refuse_4 rfl 1 rfl ?_
  refine V_bipush (v := (-2)) ok dX2_refuse_5 rfl ?_
  refine V_icmp_ne (tgt := 14) ok dX2_refuse_7 (by decide) (fun h7 => ?_) (fun h7 => absurd h7 (by decide))
  refine V_iload_n ok dX2_refuse_14 rfl 1 rfl ?_
  refine V_bipush (v := (-3)) ok dX2_refuse_15 rfl ?_
  refine V_icmp_ne (tgt := 24) ok dX2_refuse_17 (by decide) (fun h17 => absurd rfl h17) (fun h17 => ?_)
  refine V_iconst (v := nI 1) ok dX2_refuse_20 rfl ?_
  refine V_goto (tgt := 25) ok dX2_refuse_21 (by decide) ?_
  refine V_dup2_11 ok dX2_refuse_25 rfl rfl ?_
  refine V_iald (f := rf) (N := 3) ok 38 1 dX2_refuse_26 sg_at38 rfl (by decide) (by decide) ?_
  refine V_iconst (v := nI 1) ok dX2_refuse_27 rfl ?_
  refine V_iadd ok dX2_refuse_28 ?_
  refine V_iast (f := rf) (N := 3) (w2 := surgeW g a now spare K nw sts (upd rf 1 ((rf 1) + (nI 1))) pg) ok 38 1 dX2_refuse_29 sg_at38 rfl (by decide) (by decide) sg_set_rf ?_
  refine V_iload_n ok dX2_refuse_30 rfl 1 rfl ?_
  exact V_iret ok dX2_refuse_31 (Nat.zero_le _) (Nat.zero_le _) ⟨rfl, rfl⟩
set_option maxHeartbeats 4000000 in
set_option maxRecDepth 100000 in
theorem c_X2_refuse_m4 (g : Glob) (a : Nat → Nat) (now spare : LineSt) (K : Nat → LineSt) (nw sts : Nat) (rf : Nat → Int32) (pg : PageSt)  : Con g yX2_refuse cX2_refuse 2 (some .int) ({ frames := 0, cells := 0, slots := 0, locals := 0 } : Room) [.ref (a 0), .int (-4)] (surgeW g a now spare K nw sts rf pg) (Is (some (.int (-4))) (surgeW g a now spare K nw sts (rfU rf (-4)) pg)) := by
  refine con_of_V ypl_X2_refuse (Nat.le_of_ble_eq_true rfl) [(0, .ref (a 0)), (1, .int (-4))] rfl (fun Γ ok => ?_)
  refine V_aload_n ok dX2_refuse_0 rfl 0 rfl ?_
  refine V_get (v := .ref (a 38)) ok 0 5 tw_X2 twf_X2_30 rfl rfl (by decide) dX2_refuse_1 sg_at0 rfl ?_
  refine V_iload_n ok dX2_refuse_4 rfl 1 rfl ?_
  refine V_bipush (v := (-2)) ok dX2_refuse_5 rfl ?_
  refine V_icmp_ne (tgt := 14) ok dX2_refuse_7 (by decide) (fun h7 => ?_) (fun h7 => absurd h7 (by decide))
  refine V_iload_n ok dX2_refuse_14 rfl 1 rfl ?_
  refine V_bipush (v := (-3)) ok dX2_refuse_15 rfl ?_
  refine V_icmp_ne (tgt := 24) ok dX2_refuse_17 (by decide) (fun h17 => ?_) (fun h17 => absurd h17 (by decide))
  refine V_iconst (v := nI 2) ok dX2_refuse_24 rfl ?_
  refine V_dup2_11 ok dX2_refuse_25 rfl rfl ?_
  refine V_iald (f := rf) (N := 3) ok 38 2 dX2_refuse_26 sg_at38 rfl (by decide) (by decide) ?_
  refine V_iconst (v := nI 1) ok dX2_refuse_27 rfl ?_
  refine V_iadd ok dX2_refuse_28 ?_
  refine V_iast (f := rf) (N := 3) (w2 := surgeW g a now spare K nw sts (upd rf 2 ((rf 2) + (nI 1))) pg) ok 38 2 dX2_refuse_29 sg_at38 rfl (by decide) (by decide) sg_set_rf ?_
  refine V_iload_n ok dX2_refuse_30 rfl 1 rfl ?_
  exact V_iret ok dX2_refuse_31 (Nat.zero_le _) (Nat.zero_le _) ⟨rfl, rfl⟩
set_option maxHeartbeats 4000000 in
set_option maxRecDepth 100000 in
theorem c_X2_refuseLong (g : Glob) (a : Nat → Nat) (now spare : LineSt) (K : Nat → LineSt) (nw sts : Nat) (rf : Nat → Int32) (pg : PageSt)  : Con g yX2_refuseLong cX2_refuseLong 1 (some .long) ({ frames := 1, cells := 0, slots := 0, locals := 21 } : Room) [.ref (a 0)] (surgeW g a now spare K nw sts rf pg) (Is (some (.long (-9000000000000000))) (surgeW g a now spare K nw sts (rfU rf (-2)) pg)) := by
  refine con_of_V ypl_X2_refuseLong (Nat.le_of_ble_eq_true rfl) [(0, .ref (a 0))] rfl (fun Γ ok => ?_)
  refine V_aload_n ok dX2_refuseLong_0 rfl 0 rfl ?_
  refine V_bipush (v := (-2)) ok dX2_refuseLong_1 rfl ?_
  refine V_cW (v2 := some (.int (-2))) (w2 := surgeW g a now spare K nw sts (rfU rf (-2)) pg) (rest := []) ok 0 2 (c_X2_refuse_m2 g a now spare K nw sts rf pg) 1 twm_X2_45 twi_yX2_refuse twv_yX2_refuse twin_X2 twc_yX2_refuse yok_X2_refuse (by decide) ⟨rfl, rfl⟩ dX2_refuseLong_3 rfl sg_at0 rfl rfl (Nat.le_of_ble_eq_true rfl) ⟨Nat.zero_le _, Nat.zero_le _⟩ ?_
  refine V_pop ok dX2_refuseLong_6 rfl ?_
  refine V_ldc2l ok twl_X2_202 dX2_refuseLong_7 ?_
  exact V_lret ok dX2_refuseLong_10 (Nat.zero_le _) (Nat.zero_le _) ⟨rfl, rfl⟩
set_option maxHeartbeats 4000000 in
set_option maxRecDepth 100000 in
theorem c_X2_hasTimeFor (g : Glob) (a : Nat → Nat) (now spare : LineSt) (K : Nat → LineSt) (nw sts : Nat) (rf : Nat → Int32) (pg : PageSt) (n : Int32) : Con g yX2_hasTimeFor cX2_hasTimeFor 2 (some .boolean) ({ frames := 0, cells := 0, slots := 0, locals := 0 } : Room) [.ref (a 0), .int n] (surgeW g a now spare K nw sts rf pg) (Is (some (.int (bI (timeB now.1 n)))) (surgeW g a now spare K nw sts rf pg)) := by
  refine con_of_V ypl_X2_hasTimeFor (Nat.le_of_ble_eq_true rfl) [(0, .ref (a 0)), (1, .int n)] rfl (fun Γ ok => ?_)
  refine V_aload_n ok dX2_hasTimeFor_0 rfl 0 rfl ?_
  refine V_get (v := .ref (a 1)) ok 0 0 tw_X2 twf_X2_10 rfl rfl (by decide) dX2_hasTimeFor_1 sg_at0 rfl ?_
  refine V_get (v := .ref (a 2)) ok 1 0 tw_X0 twf_X2_57 rfl rfl (by decide) dX2_hasTimeFor_4 sg_at1 rfl ?_
  refine V_bipush (v := nI 8) ok dX2_hasTimeFor_7 rfl ?_
  refine V_iald (f := now.1) (N := 9) ok 2 8 dX2_hasTimeFor_9 sg_at2 rfl (by decide) (by decide) ?_
  refine V_iload_n ok dX2_hasTimeFor_10 rfl 1 rfl ?_
  refine V_iadd ok dX2_hasTimeFor_11 ?_
  refine V_sipush (v := nI 999) ok dX2_hasTimeFor_12 rfl ?_
  refine V_icmp_gt (tgt := 22) ok dX2_hasTimeFor_15 (by decide) (fun h15 => ?_) (fun h15 => ?_)
  · refine V_iconst (v := nI 0) ok dX2_hasTimeFor_22 rfl ?_
    exact V_zret ok dX2_hasTimeFor_23 (Nat.zero_le _) (Nat.zero_le _) rfl ⟨bI_f (by unfold timeB; rw [if_pos h15]), rfl⟩
  · refine V_iconst (v := nI 1) ok dX2_hasTimeFor_18 rfl ?_
    refine V_goto (tgt := 23) ok dX2_hasTimeFor_19 (by decide) ?_
    exact V_zret ok dX2_hasTimeFor_23 (Nat.zero_le _) (Nat.zero_le _) rfl ⟨bI_t (by unfold timeB; rw [if_neg h15]), rfl⟩
set_option maxHeartbeats 4000000 in
set_option maxRecDepth 100000 in
theorem c_X2_keep_now (g : Glob) (a : Nat → Nat) (now spare : LineSt) (K : Nat → LineSt) (nw sts : Nat) (rf : Nat → Int32) (pg : PageSt) (hnw : nw < 4) (hst : sts ≤ 4) : Con g yX2_keep cX2_keep 2 none ({ frames := 2, cells := 0, slots := 0, locals := 51 } : Room) [.ref (a 0), .ref (a 1)] (surgeW g a now spare K nw sts rf pg) (Is none (surgeW g a now spare (ringU K nw now) ((nw + 1) % 4) (stsU sts) rf pg)) := by
  refine con_of_V ypl_X2_keep (Nat.le_of_ble_eq_true rfl) [(0, .ref (a 0)), (1, .ref (a 1))] rfl (fun Γ ok => ?_)
  rcases (show nw = 0 ∨ nw = 1 ∨ nw = 2 ∨ nw = 3 by omega) with rfl | rfl | rfl | rfl
  · refine V_aload_n ok dX2_keep_0 rfl 0 rfl ?_
    refine V_aload_n ok dX2_keep_1 rfl 0 rfl ?_
    refine V_get (v := .int (nI 0)) ok 0 3 tw_X2 twf_X2_23 rfl rfl (by decide) dX2_keep_2 sg_at0 rfl ?_
    refine V_iconst (v := nI 1) ok dX2_keep_5 rfl ?_
    refine V_iaddN (a := 0) (b := 1) (c := 1) ok dX2_keep_6 (by first | rfl | omega) ?_
    refine V_iconst (v := nI 4) ok dX2_keep_7 rfl ?_
    refine V_irem ok dX2_keep_8 (by decide) ?_
    refine V_top_int (b := nI 1) (rfl) ?_
    refine V_put (w2 := surgeW g a now spare K 1 sts rf pg) ok 0 3 tw_X2 tyX2 tyX2_ok nmX2 twf_X2_23 rfl rfl (by decide) rfl rfl dX2_keep_9 sg_at0 rfl rfl (Nat.lt_of_lt_of_eq (m := 7) (by decide) rfl) sg_set_nw ?_
    refine V_aload_n ok dX2_keep_12 rfl 0 rfl ?_
    refine V_get (v := .ref (a 13)) ok 0 2 tw_X2 twf_X2_19 rfl rfl (by decide) dX2_keep_13 sg_at0 rfl ?_
    refine V_aload_n ok dX2_keep_16 rfl 0 rfl ?_
    refine V_get (v := .int (nI 1)) ok 0 3 tw_X2 twf_X2_23 rfl rfl (by decide) dX2_keep_17 sg_at0 rfl ?_
    refine V_aald (f := (fun j => some (a (14 + 6 * j)))) (N := 4) (z := a 20) ok 13 1 dX2_keep_20 sg_at13 rfl (by decide) (by decide) rfl ?_
    refine V_aload_n ok dX2_keep_21 rfl 1 rfl ?_
    refine V_cV (v2 := none) (wn := surgeW g a now spare (vf_upd K 1 now) 1 sts rf pg) (rest := []) ok 20 0 (c_X0_copyFrom g (fun i => a (20 + i)) (fun i => a (1 + i)) (K 1) now) 1 twm_X2_154 twi_yX0_copyFrom twv_yX0_copyFrom twin_X0 twc_yX0_copyFrom yok_X0_copyFrom (by decide) ⟨rfl, rfl⟩ dX2_keep_22 rfl sg_at20 rfl rfl (Nat.le_of_ble_eq_true rfl) ⟨Nat.zero_le _, Nat.zero_le _⟩ (slN 20 ++ slN 1) rfl (sub_app sg_sub_20 sg_sub_1) (Nat.le_of_ble_eq_true rfl) (rep_app rfl rfl sg_rep_20 sg_rep_1) ?_
    refine V_aload_n ok dX2_keep_25 rfl 0 rfl ?_
    refine V_get (v := .int (nI sts)) ok 0 4 tw_X2 twf_X2_27 rfl rfl (by decide) dX2_keep_26 sg_at0 rfl ?_
    refine V_iconst (v := nI 4) ok dX2_keep_29 rfl ?_
    have J30 : V g Γ 2 0 0 43 (surgeW g a now spare (vf_upd K 1 now) 1 (if 4 ≤ sts then sts else sts + 1) rf pg) [(0, .ref (a 0)), (1, .ref (a 1))] [] := by
      exact V_vret ok dX2_keep_43 (Nat.zero_le _) (Nat.zero_le _) ⟨rfl, rfl⟩
    refine V_icmpN_ge (tgt := 43) ok dX2_keep_30 (by decide) (by omega) (by omega) (fun h30 => ?_) (fun h30 => ?_)
    · simp only [if_pos h30] at J30
      exact J30
    · refine V_aload_n ok dX2_keep_33 rfl 0 rfl ?_
      refine V_dup ok dX2_keep_34 rfl ?_
      refine V_get (v := .int (nI sts)) ok 0 4 tw_X2 twf_X2_27 rfl rfl (by decide) dX2_keep_35 sg_at0 rfl ?_
      refine V_iconst (v := nI 1) ok dX2_keep_38 rfl ?_
      refine V_iaddN (a := sts) (b := 1) (c := sts + 1) ok dX2_keep_39 (by first | rfl | omega) ?_
      refine V_put (w2 := surgeW g a now spare (vf_upd K 1 now) 1 (sts + 1) rf pg) ok 0 4 tw_X2 tyX2 tyX2_ok nmX2 twf_X2_27 rfl rfl (by decide) rfl rfl dX2_keep_40 sg_at0 rfl rfl (Nat.lt_of_lt_of_eq (m := 7) (by decide) rfl) sg_set_sts ?_
      simp only [if_neg h30] at J30
      exact J30
  · refine V_aload_n ok dX2_keep_0 rfl 0 rfl ?_
    refine V_aload_n ok dX2_keep_1 rfl 0 rfl ?_
    refine V_get (v := .int (nI 1)) ok 0 3 tw_X2 twf_X2_23 rfl rfl (by decide) dX2_keep_2 sg_at0 rfl ?_
    refine V_iconst (v := nI 1) ok dX2_keep_5 rfl ?_
    refine V_iaddN (a := 1) (b := 1) (c := 2) ok dX2_keep_6 (by first | rfl | omega) ?_
    refine V_iconst (v := nI 4) ok dX2_keep_7 rfl ?_
    refine V_irem ok dX2_keep_8 (by decide) ?_
    refine V_top_int (b := nI 2) (rfl) ?_
    refine V_put (w2 := surgeW g a now spare K 2 sts rf pg) ok 0 3 tw_X2 tyX2 tyX2_ok nmX2 twf_X2_23 rfl rfl (by decide) rfl rfl dX2_keep_9 sg_at0 rfl rfl (Nat.lt_of_lt_of_eq (m := 7) (by decide) rfl) sg_set_nw ?_
    refine V_aload_n ok dX2_keep_12 rfl 0 rfl ?_
    refine V_get (v := .ref (a 13)) ok 0 2 tw_X2 twf_X2_19 rfl rfl (by decide) dX2_keep_13 sg_at0 rfl ?_
    refine V_aload_n ok dX2_keep_16 rfl 0 rfl ?_
    refine V_get (v := .int (nI 2)) ok 0 3 tw_X2 twf_X2_23 rfl rfl (by decide) dX2_keep_17 sg_at0 rfl ?_
    refine V_aald (f := (fun j => some (a (14 + 6 * j)))) (N := 4) (z := a 26) ok 13 2 dX2_keep_20 sg_at13 rfl (by decide) (by decide) rfl ?_
    refine V_aload_n ok dX2_keep_21 rfl 1 rfl ?_
    refine V_cV (v2 := none) (wn := surgeW g a now spare (vf_upd K 2 now) 2 sts rf pg) (rest := []) ok 26 0 (c_X0_copyFrom g (fun i => a (26 + i)) (fun i => a (1 + i)) (K 2) now) 1 twm_X2_154 twi_yX0_copyFrom twv_yX0_copyFrom twin_X0 twc_yX0_copyFrom yok_X0_copyFrom (by decide) ⟨rfl, rfl⟩ dX2_keep_22 rfl sg_at26 rfl rfl (Nat.le_of_ble_eq_true rfl) ⟨Nat.zero_le _, Nat.zero_le _⟩ (slN 26 ++ slN 1) rfl (sub_app sg_sub_26 sg_sub_1) (Nat.le_of_ble_eq_true rfl) (rep_app rfl rfl sg_rep_26 sg_rep_1) ?_
    refine V_aload_n ok dX2_keep_25 rfl 0 rfl ?_
    refine V_get (v := .int (nI sts)) ok 0 4 tw_X2 twf_X2_27 rfl rfl (by decide) dX2_keep_26 sg_at0 rfl ?_
    refine V_iconst (v := nI 4) ok dX2_keep_29 rfl ?_
    have J30 : V g Γ 2 0 0 43 (surgeW g a now spare (vf_upd K 2 now) 2 (if 4 ≤ sts then sts else sts + 1) rf pg) [(0, .ref (a 0)), (1, .ref (a 1))] [] := by
      exact V_vret ok dX2_keep_43 (Nat.zero_le _) (Nat.zero_le _) ⟨rfl, rfl⟩
    refine V_icmpN_ge (tgt := 43) ok dX2_keep_30 (by decide) (by omega) (by omega) (fun h30 => ?_) (fun h30 => ?_)
    · simp only [if_pos h30] at J30
      exact J30
    · refine V_aload_n ok dX2_keep_33 rfl 0 rfl ?_
      refine V_dup ok dX2_keep_34 rfl ?_
      refine V_get (v := .int (nI sts)) ok 0 4 tw_X2 twf_X2_27 rfl rfl (by decide) dX2_keep_35 sg_at0 rfl ?_
      refine V_iconst (v := nI 1) ok dX2_keep_38 rfl ?_
      refine V_iaddN (a := sts) (b := 1) (c := sts + 1) ok dX2_keep_39 (by first | rfl | omega) ?_
      refine V_put (w2 := surgeW g a now spare (vf_upd K 2 now) 2 (sts + 1) rf pg) ok 0 4 tw_X2 tyX2 tyX2_ok nmX2 twf_X2_27 rfl rfl (by decide) rfl rfl dX2_keep_40 sg_at0 rfl rfl (Nat.lt_of_lt_of_eq (m := 7) (by decide) rfl) sg_set_sts ?_
      simp only [if_neg h30] at J30
      exact J30
  · refine V_aload_n ok dX2_keep_0 rfl 0 rfl ?_
    refine V_aload_n ok dX2_keep_1 rfl 0 rfl ?_
    refine V_get (v := .int (nI 2)) ok 0 3 tw_X2 twf_X2_23 rfl rfl (by decide) dX2_keep_2 sg_at0 rfl ?_
    refine V_iconst (v := nI 1) ok dX2_keep_5 rfl ?_
    refine V_iaddN (a := 2) (b := 1) (c := 3) ok dX2_keep_6 (by first | rfl | omega) ?_
    refine V_iconst (v := nI 4) ok dX2_keep_7 rfl ?_
    refine V_irem ok dX2_keep_8 (by decide) ?_
    refine V_top_int (b := nI 3) (rfl) ?_
    refine V_put (w2 := surgeW g a now spare K 3 sts rf pg) ok 0 3 tw_X2 tyX2 tyX2_ok nmX2 twf_X2_23 rfl rfl (by decide) rfl rfl dX2_keep_9 sg_at0 rfl rfl (Nat.lt_of_lt_of_eq (m := 7) (by decide) rfl) sg_set_nw ?_
    refine V_aload_n ok dX2_keep_12 rfl 0 rfl ?_
    refine V_get (v := .ref (a 13)) ok 0 2 tw_X2 twf_X2_19 rfl rfl (by decide) dX2_keep_13 sg_at0 rfl ?_
    refine V_aload_n ok dX2_keep_16 rfl 0 rfl ?_
    refine V_get (v := .int (nI 3)) ok 0 3 tw_X2 twf_X2_23 rfl rfl (by decide) dX2_keep_17 sg_at0 rfl ?_
    refine V_aald (f := (fun j => some (a (14 + 6 * j)))) (N := 4) (z := a 32) ok 13 3 dX2_keep_20 sg_at13 rfl (by decide) (by decide) rfl ?_
    refine V_aload_n ok dX2_keep_21 rfl 1 rfl ?_
    refine V_cV (v2 := none) (wn := surgeW g a now spare (vf_upd K 3 now) 3 sts rf pg) (rest := []) ok 32 0 (c_X0_copyFrom g (fun i => a (32 + i)) (fun i => a (1 + i)) (K 3) now) 1 twm_X2_154 twi_yX0_copyFrom twv_yX0_copyFrom twin_X0 twc_yX0_copyFrom yok_X0_copyFrom (by decide) ⟨rfl, rfl⟩ dX2_keep_22 rfl sg_at32 rfl rfl (Nat.le_of_ble_eq_true rfl) ⟨Nat.zero_le _, Nat.zero_le _⟩ (slN 32 ++ slN 1) rfl (sub_app sg_sub_32 sg_sub_1) (Nat.le_of_ble_eq_true rfl) (rep_app rfl rfl sg_rep_32 sg_rep_1) ?_
    refine V_aload_n ok dX2_keep_25 rfl 0 rfl ?_
    refine V_get (v := .int (nI sts)) ok 0 4 tw_X2 twf_X2_27 rfl rfl (by decide) dX2_keep_26 sg_at0 rfl ?_
    refine V_iconst (v := nI 4) ok dX2_keep_29 rfl ?_
    have J30 : V g Γ 2 0 0 43 (surgeW g a now spare (vf_upd K 3 now) 3 (if 4 ≤ sts then sts else sts + 1) rf pg) [(0, .ref (a 0)), (1, .ref (a 1))] [] := by
      exact V_vret ok dX2_keep_43 (Nat.zero_le _) (Nat.zero_le _) ⟨rfl, rfl⟩
    refine V_icmpN_ge (tgt := 43) ok dX2_keep_30 (by decide) (by omega) (by omega) (fun h30 => ?_) (fun h30 => ?_)
    · simp only [if_pos h30] at J30
      exact J30
    · refine V_aload_n ok dX2_keep_33 rfl 0 rfl ?_
      refine V_dup ok dX2_keep_34 rfl ?_
      refine V_get (v := .int (nI sts)) ok 0 4 tw_X2 twf_X2_27 rfl rfl (by decide) dX2_keep_35 sg_at0 rfl ?_
      refine V_iconst (v := nI 1) ok dX2_keep_38 rfl ?_
      refine V_iaddN (a := sts) (b := 1) (c := sts + 1) ok dX2_keep_39 (by first | rfl | omega) ?_
      refine V_put (w2 := surgeW g a now spare (vf_upd K 3 now) 3 (sts + 1) rf pg) ok 0 4 tw_X2 tyX2 tyX2_ok nmX2 twf_X2_27 rfl rfl (by decide) rfl rfl dX2_keep_40 sg_at0 rfl rfl (Nat.lt_of_lt_of_eq (m := 7) (by decide) rfl) sg_set_sts ?_
      simp only [if_neg h30] at J30
      exact J30
  · refine V_aload_n ok dX2_keep_0 rfl 0 rfl ?_
    refine V_aload_n ok dX2_keep_1 rfl 0 rfl ?_
    refine V_get (v := .int (nI 3)) ok 0 3 tw_X2 twf_X2_23 rfl rfl (by decide) dX2_keep_2 sg_at0 rfl ?_
    refine V_iconst (v := nI 1) ok dX2_keep_5 rfl ?_
    refine V_iaddN (a := 3) (b := 1) (c := 4) ok dX2_keep_6 (by first | rfl | omega) ?_
    refine V_iconst (v := nI 4) ok dX2_keep_7 rfl ?_
    refine V_irem ok dX2_keep_8 (by decide) ?_
    refine V_top_int (b := nI 0) (rfl) ?_
    refine V_put (w2 := surgeW g a now spare K 0 sts rf pg) ok 0 3 tw_X2 tyX2 tyX2_ok nmX2 twf_X2_23 rfl rfl (by decide) rfl rfl dX2_keep_9 sg_at0 rfl rfl (Nat.lt_of_lt_of_eq (m := 7) (by decide) rfl) sg_set_nw ?_
    refine V_aload_n ok dX2_keep_12 rfl 0 rfl ?_
    refine V_get (v := .ref (a 13)) ok 0 2 tw_X2 twf_X2_19 rfl rfl (by decide) dX2_keep_13 sg_at0 rfl ?_
    refine V_aload_n ok dX2_keep_16 rfl 0 rfl ?_
    refine V_get (v := .int (nI 0)) ok 0 3 tw_X2 twf_X2_23 rfl rfl (by decide) dX2_keep_17 sg_at0 rfl ?_
    refine V_aald (f := (fun j => some (a (14 + 6 * j)))) (N := 4) (z := a 14) ok 13 0 dX2_keep_20 sg_at13 rfl (by decide) (by decide) rfl ?_
    refine V_aload_n ok dX2_keep_21 rfl 1 rfl ?_
    refine V_cV (v2 := none) (wn := surgeW g a now spare (vf_upd K 0 now) 0 sts rf pg) (rest := []) ok 14 0 (c_X0_copyFrom g (fun i => a (14 + i)) (fun i => a (1 + i)) (K 0) now) 1 twm_X2_154 twi_yX0_copyFrom twv_yX0_copyFrom twin_X0 twc_yX0_copyFrom yok_X0_copyFrom (by decide) ⟨rfl, rfl⟩ dX2_keep_22 rfl sg_at14 rfl rfl (Nat.le_of_ble_eq_true rfl) ⟨Nat.zero_le _, Nat.zero_le _⟩ (slN 14 ++ slN 1) rfl (sub_app sg_sub_14 sg_sub_1) (Nat.le_of_ble_eq_true rfl) (rep_app rfl rfl sg_rep_14 sg_rep_1) ?_
    refine V_aload_n ok dX2_keep_25 rfl 0 rfl ?_
    refine V_get (v := .int (nI sts)) ok 0 4 tw_X2 twf_X2_27 rfl rfl (by decide) dX2_keep_26 sg_at0 rfl ?_
    refine V_iconst (v := nI 4) ok dX2_keep_29 rfl ?_
    have J30 : V g Γ 2 0 0 43 (surgeW g a now spare (vf_upd K 0 now) 0 (if 4 ≤ sts then sts else sts + 1) rf pg) [(0, .ref (a 0)), (1, .ref (a 1))] [] := by
      exact V_vret ok dX2_keep_43 (Nat.zero_le _) (Nat.zero_le _) ⟨rfl, rfl⟩
    refine V_icmpN_ge (tgt := 43) ok dX2_keep_30 (by decide) (by omega) (by omega) (fun h30 => ?_) (fun h30 => ?_)
    · simp only [if_pos h30] at J30
      exact J30
    · refine V_aload_n ok dX2_keep_33 rfl 0 rfl ?_
      refine V_dup ok dX2_keep_34 rfl ?_
      refine V_get (v := .int (nI sts)) ok 0 4 tw_X2 twf_X2_27 rfl rfl (by decide) dX2_keep_35 sg_at0 rfl ?_
      refine V_iconst (v := nI 1) ok dX2_keep_38 rfl ?_
      refine V_iaddN (a := sts) (b := 1) (c := sts + 1) ok dX2_keep_39 (by first | rfl | omega) ?_
      refine V_put (w2 := surgeW g a now spare (vf_upd K 0 now) 0 (sts + 1) rf pg) ok 0 4 tw_X2 tyX2 tyX2_ok nmX2 twf_X2_27 rfl rfl (by decide) rfl rfl dX2_keep_40 sg_at0 rfl rfl (Nat.lt_of_lt_of_eq (m := 7) (by decide) rfl) sg_set_sts ?_
      simp only [if_neg h30] at J30
      exact J30
set_option maxHeartbeats 4000000 in
set_option maxRecDepth 100000 in
theorem c_X2_keep_spare (g : Glob) (a : Nat → Nat) (now spare : LineSt) (K : Nat → LineSt) (nw sts : Nat) (rf : Nat → Int32) (pg : PageSt) (hnw : nw < 4) (hst : sts ≤ 4) : Con g yX2_keep cX2_keep 2 none ({ frames := 2, cells := 0, slots := 0, locals := 51 } : Room) [.ref (a 0), .ref (a 7)] (surgeW g a now spare K nw sts rf pg) (Is none (surgeW g a now spare (ringU K nw spare) ((nw + 1) % 4) (stsU sts) rf pg)) := by
  refine con_of_V ypl_X2_keep (Nat.le_of_ble_eq_true rfl) [(0, .ref (a 0)), (1, .ref (a 7))] rfl (fun Γ ok => ?_)
  rcases (show nw = 0 ∨ nw = 1 ∨ nw = 2 ∨ nw = 3 by omega) with rfl | rfl | rfl | rfl
  · refine V_aload_n ok dX2_keep_0 rfl 0 rfl ?_
    refine V_aload_n ok dX2_keep_1 rfl 0 rfl ?_
    refine V_get (v := .int (nI 0)) ok 0 3 tw_X2 twf_X2_23 rfl rfl (by decide) dX2_keep_2 sg_at0 rfl ?_
    refine V_iconst (v := nI 1) ok dX2_keep_5 rfl ?_
    refine V_iaddN (a := 0) (b := 1) (c := 1) ok dX2_keep_6 (by first | rfl | omega) ?_
    refine V_iconst (v := nI 4) ok dX2_keep_7 rfl ?_
    refine V_irem ok dX2_keep_8 (by decide) ?_
    refine V_top_int (b := nI 1) (rfl) ?_
    refine V_put (w2 := surgeW g a now spare K 1 sts rf pg) ok 0 3 tw_X2 tyX2 tyX2_ok nmX2 twf_X2_23 rfl rfl (by decide) rfl rfl dX2_keep_9 sg_at0 rfl rfl (Nat.lt_of_lt_of_eq (m := 7) (by decide) rfl) sg_set_nw ?_
    refine V_aload_n ok dX2_keep_12 rfl 0 rfl ?_
    refine V_get (v := .ref (a 13)) ok 0 2 tw_X2 twf_X2_19 rfl rfl (by decide) dX2_keep_13 sg_at0 rfl ?_
    refine V_aload_n ok dX2_keep_16 rfl 0 rfl ?_
    refine V_get (v := .int (nI 1)) ok 0 3 tw_X2 twf_X2_23 rfl rfl (by decide) dX2_keep_17 sg_at0 rfl ?_
    refine V_aald (f := (fun j => some (a (14 + 6 * j)))) (N := 4) (z := a 20) ok 13 1 dX2_keep_20 sg_at13 rfl (by decide) (by decide) rfl ?_
    refine V_aload_n ok dX2_keep_21 rfl 1 rfl ?_
    refine V_cV (v2 := none) (wn := surgeW g a now spare (vf_upd K 1 spare) 1 sts rf pg) (rest := []) ok 20 0 (c_X0_copyFrom g (fun i => a (20 + i)) (fun i => a (7 + i)) (K 1) spare) 1 twm_X2_154 twi_yX0_copyFrom twv_yX0_copyFrom twin_X0 twc_yX0_copyFrom yok_X0_copyFrom (by decide) ⟨rfl, rfl⟩ dX2_keep_22 rfl sg_at20 rfl rfl (Nat.le_of_ble_eq_true rfl) ⟨Nat.zero_le _, Nat.zero_le _⟩ (slN 20 ++ slN 7) rfl (sub_app sg_sub_20 sg_sub_7) (Nat.le_of_ble_eq_true rfl) (rep_app rfl rfl sg_rep_20 sg_rep_7) ?_
    refine V_aload_n ok dX2_keep_25 rfl 0 rfl ?_
    refine V_get (v := .int (nI sts)) ok 0 4 tw_X2 twf_X2_27 rfl rfl (by decide) dX2_keep_26 sg_at0 rfl ?_
    refine V_iconst (v := nI 4) ok dX2_keep_29 rfl ?_
    have J30 : V g Γ 2 0 0 43 (surgeW g a now spare (vf_upd K 1 spare) 1 (if 4 ≤ sts then sts else sts + 1) rf pg) [(0, .ref (a 0)), (1, .ref (a 7))] [] := by
      exact V_vret ok dX2_keep_43 (Nat.zero_le _) (Nat.zero_le _) ⟨rfl, rfl⟩
    refine V_icmpN_ge (tgt := 43) ok dX2_keep_30 (by decide) (by omega) (by omega) (fun h30 => ?_) (fun h30 => ?_)
    · simp only [if_pos h30] at J30
      exact J30
    · refine V_aload_n ok dX2_keep_33 rfl 0 rfl ?_
      refine V_dup ok dX2_keep_34 rfl ?_
      refine V_get (v := .int (nI sts)) ok 0 4 tw_X2 twf_X2_27 rfl rfl (by decide) dX2_keep_35 sg_at0 rfl ?_
      refine V_iconst (v := nI 1) ok dX2_keep_38 rfl ?_
      refine V_iaddN (a := sts) (b := 1) (c := sts + 1) ok dX2_keep_39 (by first | rfl | omega) ?_
      refine V_put (w2 := surgeW g a now spare (vf_upd K 1 spare) 1 (sts + 1) rf pg) ok 0 4 tw_X2 tyX2 tyX2_ok nmX2 twf_X2_27 rfl rfl (by decide) rfl rfl dX2_keep_40 sg_at0 rfl rfl (Nat.lt_of_lt_of_eq (m := 7) (by decide) rfl) sg_set_sts ?_
      simp only [if_neg h30] at J30
      exact J30
  · refine V_aload_n ok dX2_keep_0 rfl 0 rfl ?_
    refine V_aload_n ok dX2_keep_1 rfl 0 rfl ?_
    refine V_get (v := .int (nI 1)) ok 0 3 tw_X2 twf_X2_23 rfl rfl (by decide) dX2_keep_2 sg_at0 rfl ?_
    refine V_iconst (v := nI 1) ok dX2_keep_5 rfl ?_
    refine V_iaddN (a := 1) (b := 1) (c := 2) ok dX2_keep_6 (by first | rfl | omega) ?_
    refine V_iconst (v := nI 4) ok dX2_keep_7 rfl ?_
    refine V_irem ok dX2_keep_8 (by decide) ?_
    refine V_top_int (b := nI 2) (rfl) ?_
    refine V_put (w2 := surgeW g a now spare K 2 sts rf pg) ok 0 3 tw_X2 tyX2 tyX2_ok nmX2 twf_X2_23 rfl rfl (by decide) rfl rfl dX2_keep_9 sg_at0 rfl rfl (Nat.lt_of_lt_of_eq (m := 7) (by decide) rfl) sg_set_nw ?_
    refine V_aload_n ok dX2_keep_12 rfl 0 rfl ?_
    refine V_get (v := .ref (a 13)) ok 0 2 tw_X2 twf_X2_19 rfl rfl (by decide) dX2_keep_13 sg_at0 rfl ?_
    refine V_aload_n ok dX2_keep_16 rfl 0 rfl ?_
    refine V_get (v := .int (nI 2)) ok 0 3 tw_X2 twf_X2_23 rfl rfl (by decide) dX2_keep_17 sg_at0 rfl ?_
    refine V_aald (f := (fun j => some (a (14 + 6 * j)))) (N := 4) (z := a 26) ok 13 2 dX2_keep_20 sg_at13 rfl (by decide) (by decide) rfl ?_
    refine V_aload_n ok dX2_keep_21 rfl 1 rfl ?_
    refine V_cV (v2 := none) (wn := surgeW g a now spare (vf_upd K 2 spare) 2 sts rf pg) (rest := []) ok 26 0 (c_X0_copyFrom g (fun i => a (26 + i)) (fun i => a (7 + i)) (K 2) spare) 1 twm_X2_154 twi_yX0_copyFrom twv_yX0_copyFrom twin_X0 twc_yX0_copyFrom yok_X0_copyFrom (by decide) ⟨rfl, rfl⟩ dX2_keep_22 rfl sg_at26 rfl rfl (Nat.le_of_ble_eq_true rfl) ⟨Nat.zero_le _, Nat.zero_le _⟩ (slN 26 ++ slN 7) rfl (sub_app sg_sub_26 sg_sub_7) (Nat.le_of_ble_eq_true rfl) (rep_app rfl rfl sg_rep_26 sg_rep_7) ?_
    refine V_aload_n ok dX2_keep_25 rfl 0 rfl ?_
    refine V_get (v := .int (nI sts)) ok 0 4 tw_X2 twf_X2_27 rfl rfl (by decide) dX2_keep_26 sg_at0 rfl ?_
    refine V_iconst (v := nI 4) ok dX2_keep_29 rfl ?_
    have J30 : V g Γ 2 0 0 43 (surgeW g a now spare (vf_upd K 2 spare) 2 (if 4 ≤ sts then sts else sts + 1) rf pg) [(0, .ref (a 0)), (1, .ref (a 7))] [] := by
      exact V_vret ok dX2_keep_43 (Nat.zero_le _) (Nat.zero_le _) ⟨rfl, rfl⟩
    refine V_icmpN_ge (tgt := 43) ok dX2_keep_30 (by decide) (by omega) (by omega) (fun h30 => ?_) (fun h30 => ?_)
    · simp only [if_pos h30] at J30
      exact J30
    · refine V_aload_n ok dX2_keep_33 rfl 0 rfl ?_
      refine V_dup ok dX2_keep_34 rfl ?_
      refine V_get (v := .int (nI sts)) ok 0 4 tw_X2 twf_X2_27 rfl rfl (by decide) dX2_keep_35 sg_at0 rfl ?_
      refine V_iconst (v := nI 1) ok dX2_keep_38 rfl ?_
      refine V_iaddN (a := sts) (b := 1) (c := sts + 1) ok dX2_keep_39 (by first | rfl | omega) ?_
      refine V_put (w2 := surgeW g a now spare (vf_upd K 2 spare) 2 (sts + 1) rf pg) ok 0 4 tw_X2 tyX2 tyX2_ok nmX2 twf_X2_27 rfl rfl (by decide) rfl rfl dX2_keep_40 sg_at0 rfl rfl (Nat.lt_of_lt_of_eq (m := 7) (by decide) rfl) sg_set_sts ?_
      simp only [if_neg h30] at J30
      exact J30
  · refine V_aload_n ok dX2_keep_0 rfl 0 rfl ?_
    refine V_aload_n ok dX2_keep_1 rfl 0 rfl ?_
    refine V_get (v := .int (nI 2)) ok 0 3 tw_X2 twf_X2_23 rfl rfl (by decide) dX2_keep_2 sg_at0 rfl ?_
    refine V_iconst (v := nI 1) ok dX2_keep_5 rfl ?_
    refine V_iaddN (a := 2) (b := 1) (c := 3) ok dX2_keep_6 (by first | rfl | omega) ?_
    refine V_iconst (v := nI 4) ok dX2_keep_7 rfl ?_
    refine V_irem ok dX2_keep_8 (by decide) ?_
    refine V_top_int (b := nI 3) (rfl) ?_
    refine V_put (w2 := surgeW g a now spare K 3 sts rf pg) ok 0 3 tw_X2 tyX2 tyX2_ok nmX2 twf_X2_23 rfl rfl (by decide) rfl rfl dX2_keep_9 sg_at0 rfl rfl (Nat.lt_of_lt_of_eq (m := 7) (by decide) rfl) sg_set_nw ?_
    refine V_aload_n ok dX2_keep_12 rfl 0 rfl ?_
    refine V_get (v := .ref (a 13)) ok 0 2 tw_X2 twf_X2_19 rfl rfl (by decide) dX2_keep_13 sg_at0 rfl ?_
    refine V_aload_n ok dX2_keep_16 rfl 0 rfl ?_
    refine V_get (v := .int (nI 3)) ok 0 3 tw_X2 twf_X2_23 rfl rfl (by decide) dX2_keep_17 sg_at0 rfl ?_
    refine V_aald (f := (fun j => some (a (14 + 6 * j)))) (N := 4) (z := a 32) ok 13 3 dX2_keep_20 sg_at13 rfl (by decide) (by decide) rfl ?_
    refine V_aload_n ok dX2_keep_21 rfl 1 rfl ?_
    refine V_cV (v2 := none) (wn := surgeW g a now spare (vf_upd K 3 spare) 3 sts rf pg) (rest := []) ok 32 0 (c_X0_copyFrom g (fun i => a (32 + i)) (fun i => a (7 + i)) (K 3) spare) 1 twm_X2_154 twi_yX0_copyFrom twv_yX0_copyFrom twin_X0 twc_yX0_copyFrom yok_X0_copyFrom (by decide) ⟨rfl, rfl⟩ dX2_keep_22 rfl sg_at32 rfl rfl (Nat.le_of_ble_eq_true rfl) ⟨Nat.zero_le _, Nat.zero_le _⟩ (slN 32 ++ slN 7) rfl (sub_app sg_sub_32 sg_sub_7) (Nat.le_of_ble_eq_true rfl) (rep_app rfl rfl sg_rep_32 sg_rep_7) ?_
    refine V_aload_n ok dX2_keep_25 rfl 0 rfl ?_
    refine V_get (v := .int (nI sts)) ok 0 4 tw_X2 twf_X2_27 rfl rfl (by decide) dX2_keep_26 sg_at0 rfl ?_
    refine V_iconst (v := nI 4) ok dX2_keep_29 rfl ?_
    have J30 : V g Γ 2 0 0 43 (surgeW g a now spare (vf_upd K 3 spare) 3 (if 4 ≤ sts then sts else sts + 1) rf pg) [(0, .ref (a 0)), (1, .ref (a 7))] [] := by
      exact V_vret ok dX2_keep_43 (Nat.zero_le _) (Nat.zero_le _) ⟨rfl, rfl⟩
    refine V_icmpN_ge (tgt := 43) ok dX2_keep_30 (by decide) (by omega) (by omega) (fun h30 => ?_) (fun h30 => ?_)
    · simp only [if_pos h30] at J30
      exact J30
    · refine V_aload_n ok dX2_keep_33 rfl 0 rfl ?_
      refine V_dup ok dX2_keep_34 rfl ?_
      refine V_get (v := .int (nI sts)) ok 0 4 tw_X2 twf_X2_27 rfl rfl (by decide) dX2_keep_35 sg_at0 rfl ?_
      refine V_iconst (v := nI 1) ok dX2_keep_38 rfl ?_
      refine V_iaddN (a := sts) (b := 1) (c := sts + 1) ok dX2_keep_39 (by first | rfl | omega) ?_
      refine V_put (w2 := surgeW g a now spare (vf_upd K 3 spare) 3 (sts + 1) rf pg) ok 0 4 tw_X2 tyX2 tyX2_ok nmX2 twf_X2_27 rfl rfl (by decide) rfl rfl dX2_keep_40 sg_at0 rfl rfl (Nat.lt_of_lt_of_eq (m := 7) (by decide) rfl) sg_set_sts ?_
      simp only [if_neg h30] at J30
      exact J30
  · refine V_aload_n ok dX2_keep_0 rfl 0 rfl ?_
    refine V_aload_n ok dX2_keep_1 rfl 0 rfl ?_
    refine V_get (v := .int (nI 3)) ok 0 3 tw_X2 twf_X2_23 rfl rfl (by decide) dX2_keep_2 sg_at0 rfl ?_
    refine V_iconst (v := nI 1) ok dX2_keep_5 rfl ?_
    refine V_iaddN (a := 3) (b := 1) (c := 4) ok dX2_keep_6 (by first | rfl | omega) ?_
    refine V_iconst (v := nI 4) ok dX2_keep_7 rfl ?_
    refine V_irem ok dX2_keep_8 (by decide) ?_
    refine V_top_int (b := nI 0) (rfl) ?_
    refine V_put (w2 := surgeW g a now spare K 0 sts rf pg) ok 0 3 tw_X2 tyX2 tyX2_ok nmX2 twf_X2_23 rfl rfl (by decide) rfl rfl dX2_keep_9 sg_at0 rfl rfl (Nat.lt_of_lt_of_eq (m := 7) (by decide) rfl) sg_set_nw ?_
    refine V_aload_n ok dX2_keep_12 rfl 0 rfl ?_
    refine V_get (v := .ref (a 13)) ok 0 2 tw_X2 twf_X2_19 rfl rfl (by decide) dX2_keep_13 sg_at0 rfl ?_
    refine V_aload_n ok dX2_keep_16 rfl 0 rfl ?_
    refine V_get (v := .int (nI 0)) ok 0 3 tw_X2 twf_X2_23 rfl rfl (by decide) dX2_keep_17 sg_at0 rfl ?_
    refine V_aald (f := (fun j => some (a (14 + 6 * j)))) (N := 4) (z := a 14) ok 13 0 dX2_keep_20 sg_at13 rfl (by decide) (by decide) rfl ?_
    refine V_aload_n ok dX2_keep_21 rfl 1 rfl ?_
    refine V_cV (v2 := none) (wn := surgeW g a now spare (vf_upd K 0 spare) 0 sts rf pg) (rest := []) ok 14 0 (c_X0_copyFrom g (fun i => a (14 + i)) (fun i => a (7 + i)) (K 0) spare) 1 twm_X2_154 twi_yX0_copyFrom twv_yX0_copyFrom twin_X0 twc_yX0_copyFrom yok_X0_copyFrom (by decide) ⟨rfl, rfl⟩ dX2_keep_22 rfl sg_at14 rfl rfl (Nat.le_of_ble_eq_true rfl) ⟨Nat.zero_le _, Nat.zero_le _⟩ (slN 14 ++ slN 7) rfl (sub_app sg_sub_14 sg_sub_7) (Nat.le_of_ble_eq_true rfl) (rep_app rfl rfl sg_rep_14 sg_rep_7) ?_
    refine V_aload_n ok dX2_keep_25 rfl 0 rfl ?_
    refine V_get (v := .int (nI sts)) ok 0 4 tw_X2 twf_X2_27 rfl rfl (by decide) dX2_keep_26 sg_at0 rfl ?_
    refine V_iconst (v := nI 4) ok dX2_keep_29 rfl ?_
    have J30 : V g Γ 2 0 0 43 (surgeW g a now spare (vf_upd K 0 spare) 0 (if 4 ≤ sts then sts else sts + 1) rf pg) [(0, .ref (a 0)), (1, .ref (a 7))] [] := by
      exact V_vret ok dX2_keep_43 (Nat.zero_le _) (Nat.zero_le _) ⟨rfl, rfl⟩
    refine V_icmpN_ge (tgt := 43) ok dX2_keep_30 (by decide) (by omega) (by omega) (fun h30 => ?_) (fun h30 => ?_)
    · simp only [if_pos h30] at J30
      exact J30
    · refine V_aload_n ok dX2_keep_33 rfl 0 rfl ?_
      refine V_dup ok dX2_keep_34 rfl ?_
      refine V_get (v := .int (nI sts)) ok 0 4 tw_X2 twf_X2_27 rfl rfl (by decide) dX2_keep_35 sg_at0 rfl ?_
      refine V_iconst (v := nI 1) ok dX2_keep_38 rfl ?_
      refine V_iaddN (a := sts) (b := 1) (c := sts + 1) ok dX2_keep_39 (by first | rfl | omega) ?_
      refine V_put (w2 := surgeW g a now spare (vf_upd K 0 spare) 0 (sts + 1) rf pg) ok 0 4 tw_X2 tyX2 tyX2_ok nmX2 twf_X2_27 rfl rfl (by decide) rfl rfl dX2_keep_40 sg_at0 rfl rfl (Nat.lt_of_lt_of_eq (m := 7) (by decide) rfl) sg_set_sts ?_
      simp only [if_neg h30] at J30
      exact J30
