theorem press_small {x : LineSt} (h : LG x) {i : Nat} (hi : i ≤ nv x.1 0) : (zv (FP.dadd (x.2.1 i) (x.2.2.1 i))).natAbs < 2 ^ 52 * one :=
  Nat.lt_of_le_of_lt (h.press hi).1.2 (Nat.mul_lt_mul_of_pos_right (by decide) FP.Core.one64_pos)
theorem node_t {v : Nat → Int32} (hv : VG v) {i : Nat} (hi : i ≤ nv v 0) : nodeB v (nI i) = true := by
  have hN := hv.n
  unfold nodeB; rw [if_neg (nI_pos (by omega)), hN.1, if_neg (nI_nlt hi (by omega))]
def digT (f : Nat → Int64) : Nat → Int64 → Int64
  | 0, h => h
  | n + 1, h => 31 * digT f n h + f n
def digN (x : LineSt) : Nat → Int64 → Int64
  | 0, h => h
  | n + 1, h => 31 * digT (fun w => tf (nodeV x n w)) 6 (digN x n h) + (FP.dadd (x.2.1 n) (x.2.2.1 n)).toInt64
def dig1 (v rf : Nat → Int32) (len sts : Nat) : Int64 := digT (fun w => (toldV v rf len sts w).toInt64) 14 2549
def dig2 (x : LineSt) (h : Int64) : Int64 := digT (fun w => tf (allV x w)) 4 (digN x (nv x.1 0 + 1) h)
theorem ok_fits {w : Nat} {u : Int32} (hw : w = 6 ∨ w = 7) (h : okI w u) : fitsB (nI w) u = true := by
  rcases hw with rfl | rfl
  · have h : u = nI u.toNatClampNeg ∧ u.toNatClampNeg ≤ 5 := h
    generalize u.toNatClampNeg = j at h
    obtain ⟨rfl, h2⟩ := h
    exact (fitsB_iff (by decide)).mpr ⟨nI_pos (by omega), nI_nlt h2 (by decide)⟩
  · have h : u = nI u.toNatClampNeg ∧ 1 ≤ u.toNatClampNeg ∧ u.toNatClampNeg ≤ 60 := h
    generalize u.toNatClampNeg = j at h
    obtain ⟨rfl, h1, h2⟩ := h
    exact (fitsB_iff (by decide)).mpr ⟨nI_nlt h1 (by omega), nI_nlt h2 (by decide)⟩
theorem ok_law {k t : Int32} (hk : okI 6 k) (ht : okI 7 t) : isLawB k t = true := by
  unfold isLawB; rw [if_pos (ok_fits (Or.inl rfl) hk), if_pos (ok_fits (Or.inr rfl) ht)]
set_option maxHeartbeats 4000000 in
set_option maxRecDepth 100000 in
theorem c_X2_bits_ok (g : Glob) (a : Nat → Nat) (now spare : LineSt) (K : Nat → LineSt) (nw sts : Nat) (rf : Nat → Int32) (pg : PageSt) (i : Nat) (hx : LG now) (hi : i ≤ nv now.1 0) : Con g yX2_bits cX2_bits 2 (some .long) ({ frames := 2, cells := 0, slots := 0, locals := 41 } : Room) [.ref (a 0), .int (nI i)] (surgeW g a now spare K nw sts rf pg) (Is (some (.long (FP.dadd (now.2.1 i) (now.2.2.1 i)).toInt64)) (surgeW g a now spare K nw sts rf pg)) := by
  refine con_of_V ypl_X2_bits (Nat.le_of_ble_eq_true rfl) [(0, .ref (a 0)), (1, .int (nI i))] rfl (fun Γ ok => ?_)
  have hN := hx.1.n
  refine V_aload_n ok dX2_bits_0 rfl 0 rfl ?_
  refine V_get (v := .ref (a 1)) ok 0 0 tw_X2 twf_X2_10 rfl rfl (by decide) dX2_bits_1 sg_at0 rfl ?_
  refine V_iload_n ok dX2_bits_4 rfl 1 rfl ?_
  refine V_cV (v2 := some (.int (bI (nodeB now.1 (nI i))))) (wn := surgeW g a now spare K nw sts rf pg) (rest := []) ok 1 0 (k_X0_hasNode g (fun i => a (1 + i)) now (nI i)) 1 twm_X2_78 twi_yX0_hasNode twv_yX0_hasNode twin_X0 twc_yX0_hasNode yok_X0_hasNode (by decide) ⟨rfl, rfl⟩ dX2_bits_5 rfl sg_at1 rfl rfl (Nat.le_of_ble_eq_true rfl) ⟨Nat.zero_le _, Nat.zero_le _⟩ (slN 1) rfl sg_sub_1 (Nat.le_of_ble_eq_true rfl) sg_rep_1 ?_
  refine V_ifB_ne (tgt := 16) ok dX2_bits_8 (by decide) (fun h8 => ?_) (fun h8 => absurd (node_t hx.1 hi) h8)
  refine V_aload_n ok dX2_bits_16 rfl 0 rfl ?_
  refine V_get (v := .ref (a 1)) ok 0 0 tw_X2 twf_X2_10 rfl rfl (by decide) dX2_bits_17 sg_at0 rfl ?_
  refine V_iload_n ok dX2_bits_20 rfl 1 rfl ?_
  refine V_cV (v2 := some (.double (FP.dadd (now.2.1 i) (now.2.2.1 i)))) (wn := surgeW g a now spare K nw sts rf pg) (rest := []) ok 1 0 (k_X0_pressure g (fun i => a (1 + i)) now i (by omega) (hx.press hi).1.n64) 1 twm_X2_85 twi_yX0_pressure twv_yX0_pressure twin_X0 twc_yX0_pressure yok_X0_pressure (by decide) ⟨rfl, rfl⟩ dX2_bits_21 rfl sg_at1 rfl rfl (Nat.le_of_ble_eq_true rfl) ⟨Nat.zero_le _, Nat.zero_le _⟩ (slN 1) rfl sg_sub_1 (Nat.le_of_ble_eq_true rfl) sg_rep_1 ?_
  refine V_cS (v2 := some (.long ((FP.dadd (now.2.1 i) (now.2.2.1 i)).toInt64))) (wn := surgeW g a now spare K nw sts rf pg) (rest := []) ok (c_X2_bitsOf g (FP.dadd (now.2.1 i) (now.2.2.1 i)) (hx.press hi).1.fin (hx.press hi).2 (press_small hx hi)) 1 twm_X2_120 tws_yX2_bitsOf twin_X2 twc_yX2_bitsOf yok_X2_bitsOf (by decide) ⟨rfl, rfl⟩ dX2_bits_24 rfl rfl (Nat.le_of_ble_eq_true rfl) ⟨Nat.zero_le _, Nat.zero_le _⟩ [] rfl rfl (Nat.le_of_ble_eq_true rfl) (rep_nil _) ?_
  exact V_lret ok dX2_bits_27 (Nat.zero_le _) (Nat.zero_le _) ⟨rfl, rfl⟩
set_option maxHeartbeats 4000000 in
set_option maxRecDepth 100000 in
theorem c_X2_bits_bad (g : Glob) (a : Nat → Nat) (now spare : LineSt) (K : Nat → LineSt) (nw sts : Nat) (rf : Nat → Int32) (pg : PageSt) (i : Int32) (ho : ¬ nodeB now.1 i = true) : Con g yX2_bits cX2_bits 2 (some .long) ({ frames := 2, cells := 0, slots := 0, locals := 41 } : Room) [.ref (a 0), .int i] (surgeW g a now spare K nw sts rf pg) (Is (some (.long (-9000000000000000))) (surgeW g a now spare K nw sts (rfU rf (-2)) pg)) := by
  refine con_of_V ypl_X2_bits (Nat.le_of_ble_eq_true rfl) [(0, .ref (a 0)), (1, .int i)] rfl (fun Γ ok => ?_)
  refine V_aload_n ok dX2_bits_0 rfl 0 rfl ?_
  refine V_get (v := .ref (a 1)) ok 0 0 tw_X2 twf_X2_10 rfl rfl (by decide) dX2_bits_1 sg_at0 rfl ?_
  refine V_iload_n ok dX2_bits_4 rfl 1 rfl ?_
  refine V_cV (v2 := some (.int (bI (nodeB now.1 i)))) (wn := surgeW g a now spare K nw sts rf pg) (rest := []) ok 1 0 (k_X0_hasNode g (fun i => a (1 + i)) now i) 1 twm_X2_78 twi_yX0_hasNode twv_yX0_hasNode twin_X0 twc_yX0_hasNode yok_X0_hasNode (by decide) ⟨rfl, rfl⟩ dX2_bits_5 rfl sg_at1 rfl rfl (Nat.le_of_ble_eq_true rfl) ⟨Nat.zero_le _, Nat.zero_le _⟩ (slN 1) rfl sg_sub_1 (Nat.le_of_ble_eq_true rfl) sg_rep_1 ?_
  refine V_ifB_ne (tgt := 16) ok dX2_bits_8 (by decide) (fun h8 => absurd h8 ho) (fun h8 => ?_)
  refine V_aload_n ok dX2_bits_11 rfl 0 rfl ?_
  refine V_cW (v2 := some (.long (-9000000000000000))) (w2 := surgeW g a now spare K nw sts (rfU rf (-2)) pg) (rest := []) ok 0 2 (c_X2_refuseLong g a now spare K nw sts rf pg) 0 twm_X2_81 twi_yX2_refuseLong twv_yX2_refuseLong twin_X2 twc_yX2_refuseLong yok_X2_refuseLong (by decide) ⟨rfl, rfl⟩ dX2_bits_12 rfl sg_at0 rfl rfl (Nat.le_of_ble_eq_true rfl) ⟨Nat.zero_le _, Nat.zero_le _⟩ ?_
  exact V_lret ok dX2_bits_15 (Nat.zero_le _) (Nat.zero_le _) ⟨rfl, rfl⟩
set_option maxHeartbeats 4000000 in
set_option maxRecDepth 100000 in
theorem c_X2_digest (g : Glob) (a : Nat → Nat) (now spare : LineSt) (K : Nat → LineSt) (nw sts : Nat) (rf : Nat → Int32) (pg : PageSt) (hx : LG now) : Con g yX2_digest cX2_digest 5 (some .long) ({ frames := 4, cells := 0, slots := 0, locals := 98 } : Room) [.ref (a 0)] (surgeW g a now spare K nw sts rf pg) (Is (some (.long (31 * (dig2 now (dig1 now.1 rf pg.2.1 sts)) + tf (advL 20 (settleL (tryV now.1 (nI 2) (now.1 7), spare.2))).2.2.2.2.2.1))) (surgeW g a now (advL 20 (settleL (tryV now.1 (nI 2) (now.1 7), spare.2))) K nw sts rf pg)) := by
  refine con_of_V ypl_X2_digest (Nat.le_of_ble_eq_true rfl) [(0, .ref (a 0))] rfl (fun Γ ok => ?_)
  have hN := hx.1.n
  have HL : ∀ q : Nat, V g Γ 5 0 0 118 (surgeW g a now spare K nw sts rf pg) [(3, .int (nI q)), (1, .long (dig2 now (dig1 now.1 rf pg.2.1 sts))), (0, .ref (a 0))] [] := by
    intro q
    refine V_ldc2l ok twl_X2_182 dX2_digest_118 ?_
    refine V_lload_n ok dX2_digest_121 rfl 1 rfl ?_
    refine V_lmul ok dX2_digest_122 ?_
    refine V_aload_n ok dX2_digest_123 rfl 2 rfl ?_
    refine V_iconst (v := nI 2) ok dX2_digest_124 rfl ?_
    refine V_aload_n ok dX2_digest_125 rfl 2 rfl ?_
    refine V_get (v := .ref (a 1)) ok 0 0 tw_X2 twf_X2_10 rfl rfl (by decide) dX2_digest_126 sg_at0 rfl ?_
    refine V_get (v := .ref (a 2)) ok 1 0 tw_X0 twf_X2_57 rfl rfl (by decide) dX2_digest_129 sg_at1 rfl ?_
    refine V_bipush (v := nI 7) ok dX2_digest_132 rfl ?_
    refine V_iald (f := now.1) (N := 9) ok 2 7 dX2_digest_134 sg_at2 rfl (by decide) (by decide) ?_
    refine V_bipush (v := nI 20) ok dX2_digest_135 rfl ?_
    refine V_cW (v2 := some (.long (tf (advL 20 (settleL (tryV now.1 (nI 2) (now.1 7), spare.2))).2.2.2.2.2.1))) (w2 := surgeW g a now (advL 20 (settleL (tryV now.1 (nI 2) (now.1 7), spare.2))) K nw sts rf pg) (rest := [.long (31 * (dig2 now (dig1 now.1 rf pg.2.1 sts)))]) ok 0 2 (c_X2_trial_ok g a now spare K nw sts rf pg (nI 2) (now.1 7) 20 (ok_law (okI6 (by decide)) (VG_iff.mp hx.1 7 (by decide))) (by decide) hx) 3 twm_X2_198 twi_yX2_trial twv_yX2_trial twin_X2 twc_yX2_trial yok_X2_trial (by decide) ⟨rfl, rfl⟩ dX2_digest_137 rfl sg_at0 rfl rfl (Nat.le_of_ble_eq_true rfl) ⟨Nat.zero_le _, Nat.zero_le _⟩ ?_
    refine V_ladd ok dX2_digest_140 ?_
    exact V_lret ok dX2_digest_141 (Nat.zero_le _) (Nat.zero_le _) ⟨rfl, rfl⟩
  have HA : ∀ (n w : Nat), w ≤ 4 → n = 4 - w → V g Γ 5 0 0 95 (surgeW g a now spare K nw sts rf pg) [(3, .int (nI w)), (1, .long (digT (fun w => tf (allV now w)) w (digN now (nv now.1 0 + 1) (dig1 now.1 rf pg.2.1 sts)))), (0, .ref (a 0))] [] := by
    intro n
    induction n using Nat.strongRecOn with
    | ind n ih =>
    intro w hw hn
    subst hn
    refine V_iload_n ok dX2_digest_95 rfl 0 rfl ?_
    refine V_iconst (v := nI 3) ok dX2_digest_96 rfl ?_
    refine V_icmpN_gt (tgt := 118) ok dX2_digest_97 (by decide) (by omega) (by omega) (fun h97 => ?_) (fun h97 => ?_)
    · obtain rfl : w = 4 := by omega
      refine V_lv [0, 1, 2] rfl ?_
      exact HL 4
    · refine V_ldc2l ok twl_X2_182 dX2_digest_100 ?_
      refine V_lload_n ok dX2_digest_103 rfl 1 rfl ?_
      refine V_lmul ok dX2_digest_104 ?_
      refine V_aload_n ok dX2_digest_105 rfl 2 rfl ?_
      refine V_iload_n ok dX2_digest_106 rfl 0 rfl ?_
      refine V_cW (v2 := some (.long (tf (allV now w)))) (w2 := surgeW g a now spare K nw sts rf pg) (rest := [.long (31 * (digT (fun w => tf (allV now w)) w (digN now (nv now.1 0 + 1) (dig1 now.1 rf pg.2.1 sts))))]) ok 0 2 (c_X2_all_ok g a now spare K nw sts rf pg w hx (by omega)) 1 twm_X2_195 twi_yX2_all twv_yX2_all twin_X2 twc_yX2_all yok_X2_all (by decide) ⟨rfl, rfl⟩ dX2_digest_107 rfl sg_at0 rfl rfl (Nat.le_of_ble_eq_true rfl) ⟨Nat.zero_le _, Nat.zero_le _⟩ ?_
      refine V_ladd ok dX2_digest_110 ?_
      refine V_lstore_n (lv2 := [(1, .long ((31 * (digT (fun w => tf (allV now w)) w (digN now (nv now.1 0 + 1) (dig1 now.1 rf pg.2.1 sts)))) + (tf (allV now w)))), (3, .int (nI w)), (0, .ref (a 0))]) ok dX2_digest_111 rfl (by decide) rfl ?_
      refine V_iinc (q := 1) (v := nI (w + 1)) (lv2 := [(3, .int (nI (w + 1))), (1, .long ((31 * (digT (fun w => tf (allV now w)) w (digN now (nv now.1 0 + 1) (dig1 now.1 rf pg.2.1 sts)))) + (tf (allV now w)))), (0, .ref (a 0))]) ok dX2_digest_112 rfl (nI_inc w 1) (by decide) rfl ?_
      refine V_goto (tgt := 95) ok dX2_digest_115 (by decide) ?_
      refine V_lv [0, 1, 2] rfl ?_
      exact ih (4 - (w + 1)) (by omega) (w + 1) (by omega) rfl
  have HN : ∀ (n i : Nat), i ≤ nv now.1 0 + 1 → n = nv now.1 0 + 1 - i → V g Γ 5 0 0 33 (surgeW g a now spare K nw sts rf pg) [(3, .int (nI i)), (1, .long (digN now i (dig1 now.1 rf pg.2.1 sts))), (0, .ref (a 0))] [] := by
    intro n
    induction n using Nat.strongRecOn with
    | ind n ih =>
    intro i hi hn
    subst hn
    refine V_iload_n ok dX2_digest_33 rfl 0 rfl ?_
    refine V_aload_n ok dX2_digest_34 rfl 2 rfl ?_
    refine V_get (v := .ref (a 1)) ok 0 0 tw_X2 twf_X2_10 rfl rfl (by decide) dX2_digest_35 sg_at0 rfl ?_
    refine V_get (v := .ref (a 2)) ok 1 0 tw_X0 twf_X2_57 rfl rfl (by decide) dX2_digest_38 sg_at1 rfl ?_
    refine V_iconst (v := nI 0) ok dX2_digest_41 rfl ?_
    refine V_iald (f := now.1) (N := 9) ok 2 0 dX2_digest_42 sg_at2 rfl (by decide) (by decide) ?_
    refine V_top_int (b := nI (nv now.1 0)) (hx.1.n.1) ?_
    refine V_icmpN_gt (tgt := 93) ok dX2_digest_43 (by decide) (by omega) (by omega) (fun h43 => ?_) (fun h43 => ?_)
    · refine V_iconst (v := nI 0) ok dX2_digest_93 rfl ?_
      refine V_istore_n (lv2 := [(3, .int (nI 0)), (1, .long (digN now i (dig1 now.1 rf pg.2.1 sts))), (0, .ref (a 0))]) ok dX2_digest_94 rfl (by decide) rfl ?_
      obtain rfl : i = nv now.1 0 + 1 := by omega
      refine V_lv [0, 1, 2] rfl ?_
      exact HA 4 0 (by decide) rfl
    · have HB : V g Γ 5 0 0 75 (surgeW g a now spare K nw sts rf pg) [(4, .int (nI 6)), (3, .int (nI i)), (1, .long (digT (fun w => tf (nodeV now i w)) 6 (digN now i (dig1 now.1 rf pg.2.1 sts)))), (0, .ref (a 0))] [] := by
        refine V_ldc2l ok twl_X2_182 dX2_digest_75 ?_
        refine V_lload_n ok dX2_digest_78 rfl 2 rfl ?_
        refine V_lmul ok dX2_digest_79 ?_
        refine V_aload_n ok dX2_digest_80 rfl 3 rfl ?_
        refine V_iload_n ok dX2_digest_81 rfl 1 rfl ?_
        refine V_cW (v2 := some (.long ((FP.dadd (now.2.1 i) (now.2.2.1 i)).toInt64))) (w2 := surgeW g a now spare K nw sts rf pg) (rest := [.long (31 * (digT (fun w => tf (nodeV now i w)) 6 (digN now i (dig1 now.1 rf pg.2.1 sts))))]) ok 0 2 (c_X2_bits_ok g a now spare K nw sts rf pg i hx (by omega)) 1 twm_X2_191 twi_yX2_bits twv_yX2_bits twin_X2 twc_yX2_bits yok_X2_bits (by decide) ⟨rfl, rfl⟩ dX2_digest_82 rfl sg_at0 rfl rfl (Nat.le_of_ble_eq_true rfl) ⟨Nat.zero_le _, Nat.zero_le _⟩ ?_
        refine V_ladd ok dX2_digest_85 ?_
        refine V_lstore_n (lv2 := [(1, .long ((31 * (digT (fun w => tf (nodeV now i w)) 6 (digN now i (dig1 now.1 rf pg.2.1 sts)))) + ((FP.dadd (now.2.1 i) (now.2.2.1 i)).toInt64))), (4, .int (nI 6)), (3, .int (nI i)), (0, .ref (a 0))]) ok dX2_digest_86 rfl (by decide) rfl ?_
        refine V_iinc (q := 2) (v := nI (i + 1)) (lv2 := [(3, .int (nI (i + 1))), (1, .long ((31 * (digT (fun w => tf (nodeV now i w)) 6 (digN now i (dig1 now.1 rf pg.2.1 sts)))) + ((FP.dadd (now.2.1 i) (now.2.2.1 i)).toInt64))), (4, .int (nI 6)), (0, .ref (a 0))]) ok dX2_digest_87 rfl (nI_inc i 1) (by decide) rfl ?_
        refine V_goto (tgt := 33) ok dX2_digest_90 (by decide) ?_
        refine V_lv [0, 1, 3] rfl ?_
        exact ih (nv now.1 0 + 1 - (i + 1)) (by omega) (i + 1) (by omega) rfl
      have HW : ∀ (n w : Nat), w ≤ 6 → n = 6 - w → V g Γ 5 0 0 49 (surgeW g a now spare K nw sts rf pg) [(4, .int (nI w)), (3, .int (nI i)), (1, .long (digT (fun w => tf (nodeV now i w)) w (digN now i (dig1 now.1 rf pg.2.1 sts)))), (0, .ref (a 0))] [] := by
        intro n
        induction n using Nat.strongRecOn with
        | ind n ihw =>
        intro w hw hn
        subst hn
        refine V_iload ok dX2_digest_49 0 rfl ?_
        refine V_iconst (v := nI 5) ok dX2_digest_51 rfl ?_
        refine V_icmpN_gt (tgt := 75) ok dX2_digest_52 (by decide) (by omega) (by omega) (fun h52 => ?_) (fun h52 => ?_)
        · obtain rfl : w = 6 := by omega
          exact HB
        · refine V_ldc2l ok twl_X2_182 dX2_digest_55 ?_
          refine V_lload_n ok dX2_digest_58 rfl 2 rfl ?_
          refine V_lmul ok dX2_digest_59 ?_
          refine V_aload_n ok dX2_digest_60 rfl 3 rfl ?_
          refine V_iload_n ok dX2_digest_61 rfl 1 rfl ?_
          refine V_iload ok dX2_digest_62 0 rfl ?_
          refine V_cW (v2 := some (.long (tf (nodeV now i w)))) (w2 := surgeW g a now spare K nw sts rf pg) (rest := [.long (31 * (digT (fun w => tf (nodeV now i w)) w (digN now i (dig1 now.1 rf pg.2.1 sts))))]) ok 0 2 (c_X2_node_ok g a now spare K nw sts rf pg i w hx (by omega) (by omega)) 2 twm_X2_187 twi_yX2_node twv_yX2_node twin_X2 twc_yX2_node yok_X2_node (by decide) ⟨rfl, rfl⟩ dX2_digest_64 rfl sg_at0 rfl rfl (Nat.le_of_ble_eq_true rfl) ⟨Nat.zero_le _, Nat.zero_le _⟩ ?_
          refine V_ladd ok dX2_digest_67 ?_
          refine V_lstore_n (lv2 := [(1, .long ((31 * (digT (fun w => tf (nodeV now i w)) w (digN now i (dig1 now.1 rf pg.2.1 sts)))) + (tf (nodeV now i w)))), (4, .int (nI w)), (3, .int (nI i)), (0, .ref (a 0))]) ok dX2_digest_68 rfl (by decide) rfl ?_
          refine V_iinc (q := 1) (v := nI (w + 1)) (lv2 := [(4, .int (nI (w + 1))), (1, .long ((31 * (digT (fun w => tf (nodeV now i w)) w (digN now i (dig1 now.1 rf pg.2.1 sts)))) + (tf (nodeV now i w)))), (3, .int (nI i)), (0, .ref (a 0))]) ok dX2_digest_69 rfl (nI_inc w 1) (by decide) rfl ?_
          refine V_goto (tgt := 49) ok dX2_digest_72 (by decide) ?_
          refine V_lv [0, 2, 1, 3] rfl ?_
          exact ihw (6 - (w + 1)) (by omega) (w + 1) (by omega) rfl
      refine V_iconst (v := nI 0) ok dX2_digest_46 rfl ?_
      refine V_istore (lv2 := [(4, .int (nI 0)), (3, .int (nI i)), (1, .long (digN now i (dig1 now.1 rf pg.2.1 sts))), (0, .ref (a 0))]) ok dX2_digest_47 (by decide) rfl ?_
      refine V_lv [0, 1, 2, 3] rfl ?_
      exact HW 6 0 (by decide) rfl
  have HT : ∀ (n w : Nat), w ≤ 14 → n = 14 - w → V g Γ 5 0 0 6 (surgeW g a now spare K nw sts rf pg) [(3, .int (nI w)), (1, .long (digT (fun w => (toldV now.1 rf pg.2.1 sts w).toInt64) w 2549)), (0, .ref (a 0))] [] := by
    intro n
    induction n using Nat.strongRecOn with
    | ind n ih =>
    intro w hw hn
    subst hn
    refine V_iload_n ok dX2_digest_6 rfl 0 rfl ?_
    refine V_bipush (v := nI 13) ok dX2_digest_7 rfl ?_
    refine V_icmpN_gt (tgt := 31) ok dX2_digest_9 (by decide) (by omega) (by omega) (fun h9 => ?_) (fun h9 => ?_)
    · refine V_iconst (v := nI 0) ok dX2_digest_31 rfl ?_
      refine V_istore_n (lv2 := [(3, .int (nI 0)), (1, .long (digT (fun w => (toldV now.1 rf pg.2.1 sts w).toInt64) w 2549)), (0, .ref (a 0))]) ok dX2_digest_32 rfl (by decide) rfl ?_
      obtain rfl : w = 14 := by omega
      refine V_lv [0, 1, 2] rfl ?_
      exact HN (nv now.1 0 + 1) 0 (Nat.zero_le _) rfl
    · refine V_ldc2l ok twl_X2_182 dX2_digest_12 ?_
      refine V_lload_n ok dX2_digest_15 rfl 1 rfl ?_
      refine V_lmul ok dX2_digest_16 ?_
      refine V_aload_n ok dX2_digest_17 rfl 2 rfl ?_
      refine V_iload_n ok dX2_digest_18 rfl 0 rfl ?_
      refine V_cW (v2 := some (.int (toldV now.1 rf pg.2.1 sts w))) (w2 := surgeW g a now spare K nw sts rf pg) (rest := [.long (31 * (digT (fun w => (toldV now.1 rf pg.2.1 sts w).toInt64) w 2549))]) ok 0 2 (c_X2_told_ok g a now spare K nw sts rf pg w (by omega)) 1 twm_X2_184 twi_yX2_told twv_yX2_told twin_X2 twc_yX2_told yok_X2_told (by decide) ⟨rfl, rfl⟩ dX2_digest_19 rfl sg_at0 rfl rfl (Nat.le_of_ble_eq_true rfl) ⟨Nat.zero_le _, Nat.zero_le _⟩ ?_
      refine V_i2l ok dX2_digest_22 ?_
      refine V_ladd ok dX2_digest_23 ?_
      refine V_lstore_n (lv2 := [(1, .long ((31 * (digT (fun w => (toldV now.1 rf pg.2.1 sts w).toInt64) w 2549)) + ((toldV now.1 rf pg.2.1 sts w).toInt64))), (3, .int (nI w)), (0, .ref (a 0))]) ok dX2_digest_24 rfl (by decide) rfl ?_
      refine V_iinc (q := 1) (v := nI (w + 1)) (lv2 := [(3, .int (nI (w + 1))), (1, .long ((31 * (digT (fun w => (toldV now.1 rf pg.2.1 sts w).toInt64) w 2549)) + ((toldV now.1 rf pg.2.1 sts w).toInt64))), (0, .ref (a 0))]) ok dX2_digest_25 rfl (nI_inc w 1) (by decide) rfl ?_
      refine V_goto (tgt := 6) ok dX2_digest_28 (by decide) ?_
      refine V_lv [0, 1, 2] rfl ?_
      exact ih (14 - (w + 1)) (by omega) (w + 1) (by omega) rfl
  refine V_ldc2l ok twl_X2_180 dX2_digest_0 ?_
  refine V_lstore_n (lv2 := [(1, .long 2549), (0, .ref (a 0))]) ok dX2_digest_3 rfl (by decide) rfl ?_
  refine V_iconst (v := nI 0) ok dX2_digest_4 rfl ?_
  refine V_istore_n (lv2 := [(3, .int (nI 0)), (1, .long 2549), (0, .ref (a 0))]) ok dX2_digest_5 rfl (by decide) rfl ?_
  refine V_lv [0, 1, 2] rfl ?_
  exact HT 14 0 (by decide) rfl
