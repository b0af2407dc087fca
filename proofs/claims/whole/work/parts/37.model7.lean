set_option maxHeartbeats 4000000 in
set_option maxRecDepth 100000 in
theorem c_X3_digest (g : Glob) (b : Nat → Nat) (x : LineSt) (wv : Nat → UInt64) (ah : Nat → UInt64) (pa : Nat → Int32) (pw : Nat → UInt64) (ai : Nat → Int32) (aw : Nat → UInt64) (sts : Nat) (rf : Nat → Int32) (tx : Nat → Int32) (len : Nat) (pl : Nat) (ord : Nat) (lr : Nat → Int32) (nu : Nat → Int32) (hsh : Int64) (sp : LineSt) (hx : LG x) (hw : WR x wv) : Con g yX3_digest cX3_digest 3 (some .long) ({ frames := 5, cells := 0, slots := 0, locals := 125 } : Room) [.ref (b 0)] (modelW g b x.1 wv ah pa pw ai aw sts rf tx len pl ord lr nu hsh) (fun r_ w_ => r_ = (some (.long (31 * (dig2 x (dig1 x.1 rf len sts)) + tf (advL 20 (settleL (tryV x.1 (nI 2) (x.1 7), sp.2))).2.2.2.2.2.1))) ∧ ∃ ah2 : Nat → UInt64,  w_ = modelW g b x.1 wv ah2 pa pw x.1 wv sts rf tx len pl ord lr nu (31 * (dig2 x (dig1 x.1 rf len sts)) + tf (advL 20 (settleL (tryV x.1 (nI 2) (x.1 7), sp.2))).2.2.2.2.2.1)) := by
  refine con_of_V ypl_X3_digest (Nat.le_of_ble_eq_true rfl) [(0, .ref (b 0))] rfl (fun Γ ok => ?_)
  have hN := hx.1.n
  have hv2 : VG (tryV x.1 (nI 2) (x.1 7)) := hx.1.try (okI6 (by decide)) (VG_iff.mp hx.1 7 (by decide))
  have hg : LG (settleL (tryV x.1 (nI 2) (x.1 7), sp.2)) := LG.settle hv2
  have h8 : nv (settleL (tryV x.1 (nI 2) (x.1 7), sp.2)).1 8 = 0 := hv2.steady.2.1
  have HT : ∀ q : Nat, V g Γ 3 0 0 124 (modelW g b x.1 wv ah pa pw ai aw sts rf tx len pl ord lr nu (dig2 x (dig1 x.1 rf len sts))) [(1, .int (nI q)), (0, .ref (b 0))] [] := by
    intro q
    refine V_aload_n ok dX3_digest_124 rfl 1 rfl ?_
    refine V_aload_n ok dX3_digest_125 rfl 1 rfl ?_
    refine V_iconst (v := nI 2) ok dX3_digest_126 rfl ?_
    refine V_aload_n ok dX3_digest_127 rfl 1 rfl ?_
    refine V_get (v := .ref (b 1)) ok 0 0 tw_X3 twf_X3_7 rfl rfl (by decide) dX3_digest_128 rfl rfl ?_
    refine V_bipush (v := nI 7) ok dX3_digest_131 rfl ?_
    refine V_iald (f := x.1) (N := 9) ok 1 7 dX3_digest_133 rfl rfl (by decide) (by decide) ?_
    refine V_bipush (v := nI 20) ok dX3_digest_134 rfl ?_
    refine V_cX (rest := [.ref (b 0)]) ok 0 3 (c_X3_tried g b x wv ah pa pw ai aw sts rf tx len pl ord lr nu (dig2 x (dig1 x.1 rf len sts)) (nI 2) (x.1 7) 20 sp hv2 (by decide)) 3 twm_X3_145 twi_yX3_tried twv_yX3_tried twin_X3 twc_yX3_tried yok_X3_tried (by decide) ⟨rfl, rfl⟩ dX3_digest_136 rfl rfl rfl rfl (Nat.le_of_ble_eq_true rfl) ⟨Nat.zero_le _, Nat.zero_le _⟩ (fun v_ w_ hh => ?_)
    obtain ⟨rfl, ah136, rfl⟩ := hh
    refine V_cS (v2 := some (.long (tf ((advL 20 (settleL (tryV x.1 (nI 2) (x.1 7), sp.2))).2.2.2.2.2.1)))) (wn := modelW g b x.1 wv ah136 pa pw x.1 wv sts rf tx len pl ord lr nu (dig2 x (dig1 x.1 rf len sts))) (rest := [.ref (b 0)]) ok (c_X3_whole g ((advL 20 (settleL (tryV x.1 (nI 2) (x.1 7), sp.2))).2.2.2.2.2.1) (hg.adv 20 (by omega)).1.hiF) 1 twm_X3_114 tws_yX3_whole twin_X3 twc_yX3_whole yok_X3_whole (by decide) ⟨rfl, rfl⟩ dX3_digest_139 rfl rfl (Nat.le_of_ble_eq_true rfl) ⟨Nat.zero_le _, Nat.zero_le _⟩ [] rfl rfl (Nat.le_of_ble_eq_true rfl) rfl ?_
    refine V_cW (v2 := none) (w2 := modelW g b x.1 wv ah136 pa pw x.1 wv sts rf tx len pl ord lr nu (31 * (dig2 x (dig1 x.1 rf len sts)) + (tf ((advL 20 (settleL (tryV x.1 (nI 2) (x.1 7), sp.2))).2.2.2.2.2.1)))) (rest := []) ok 0 3 (c_X3_mix g b x.1 wv ah136 pa pw x.1 wv sts rf tx len pl ord lr nu (dig2 x (dig1 x.1 rf len sts)) (tf ((advL 20 (settleL (tryV x.1 (nI 2) (x.1 7), sp.2))).2.2.2.2.2.1))) 1 twm_X3_199 twi_yX3_mix twv_yX3_mix twin_X3 twc_yX3_mix yok_X3_mix (by decide) ⟨rfl, rfl⟩ dX3_digest_142 rfl rfl rfl rfl (Nat.le_of_ble_eq_true rfl) ⟨Nat.zero_le _, Nat.zero_le _⟩ ?_
    refine V_aload_n ok dX3_digest_145 rfl 1 rfl ?_
    refine V_get (v := .long (31 * (dig2 x (dig1 x.1 rf len sts)) + (tf ((advL 20 (settleL (tryV x.1 (nI 2) (x.1 7), sp.2))).2.2.2.2.2.1)))) ok 0 15 tw_X3 twf_X3_193 rfl rfl (by decide) dX3_digest_146 rfl rfl ?_
    exact V_lret ok dX3_digest_149 (Nat.zero_le _) (Nat.zero_le _) ⟨rfl, _, rfl⟩
  have HA : ∀ (n w : Nat), w ≤ 4 → n = 4 - w → V g Γ 3 0 0 101 (modelW g b x.1 wv ah pa pw ai aw sts rf tx len pl ord lr nu (digT (fun w => tf (allV x w)) w (digN x (nv x.1 0 + 1) (dig1 x.1 rf len sts)))) [(1, .int (nI w)), (0, .ref (b 0))] [] := by
    intro n
    induction n using Nat.strongRecOn with
    | ind n ih =>
    intro w hi hn
    subst hn
    refine V_iload_n ok dX3_digest_101 rfl 0 rfl ?_
    refine V_iconst (v := nI 4) ok dX3_digest_102 rfl ?_
    refine V_icmpN_ge (tgt := 124) ok dX3_digest_103 (by decide) (by omega) (by omega) (fun h103 => ?_) (fun h103 => ?_)
    · obtain rfl : w = 4 := by omega
      refine V_lv [0, 1] rfl ?_
      exact HT 4
    · refine V_aload_n ok dX3_digest_106 rfl 1 rfl ?_
      refine V_aload_n ok dX3_digest_107 rfl 1 rfl ?_
      refine V_iload_n ok dX3_digest_108 rfl 0 rfl ?_
      refine V_cW (v2 := some (.double (allV x w))) (w2 := modelW g b x.1 wv ah pa pw ai aw sts rf tx len pl ord lr nu (digT (fun w => tf (allV x w)) w (digN x (nv x.1 0 + 1) (dig1 x.1 rf len sts)))) (rest := [.ref (b 0)]) ok 0 3 (c_X3_allIs g b x wv ah pa pw ai aw sts rf tx len pl ord lr nu (digT (fun w => tf (allV x w)) w (digN x (nv x.1 0 + 1) (dig1 x.1 rf len sts))) w hx hw (by omega)) 1 twm_X3_130 twi_yX3_allIs twv_yX3_allIs twin_X3 twc_yX3_allIs yok_X3_allIs (by decide) ⟨rfl, rfl⟩ dX3_digest_109 rfl rfl rfl rfl (Nat.le_of_ble_eq_true rfl) ⟨Nat.zero_le _, Nat.zero_le _⟩ ?_
      refine V_cS (v2 := some (.long (tf (allV x w)))) (wn := modelW g b x.1 wv ah pa pw ai aw sts rf tx len pl ord lr nu (digT (fun w => tf (allV x w)) w (digN x (nv x.1 0 + 1) (dig1 x.1 rf len sts)))) (rest := [.ref (b 0)]) ok (c_X3_whole g (allV x w) hx.allVF) 1 twm_X3_114 tws_yX3_whole twin_X3 twc_yX3_whole yok_X3_whole (by decide) ⟨rfl, rfl⟩ dX3_digest_112 rfl rfl (Nat.le_of_ble_eq_true rfl) ⟨Nat.zero_le _, Nat.zero_le _⟩ [] rfl rfl (Nat.le_of_ble_eq_true rfl) rfl ?_
      refine V_cW (v2 := none) (w2 := modelW g b x.1 wv ah pa pw ai aw sts rf tx len pl ord lr nu (31 * (digT (fun w => tf (allV x w)) w (digN x (nv x.1 0 + 1) (dig1 x.1 rf len sts))) + (tf (allV x w)))) (rest := []) ok 0 3 (c_X3_mix g b x.1 wv ah pa pw ai aw sts rf tx len pl ord lr nu (digT (fun w => tf (allV x w)) w (digN x (nv x.1 0 + 1) (dig1 x.1 rf len sts))) (tf (allV x w))) 1 twm_X3_199 twi_yX3_mix twv_yX3_mix twin_X3 twc_yX3_mix yok_X3_mix (by decide) ⟨rfl, rfl⟩ dX3_digest_115 rfl rfl rfl rfl (Nat.le_of_ble_eq_true rfl) ⟨Nat.zero_le _, Nat.zero_le _⟩ ?_
      refine V_iinc (q := 0) (v := nI (w + 1)) (lv2 := [(1, .int (nI (w + 1))), (0, .ref (b 0))]) ok dX3_digest_118 rfl (nI_inc w 1) (by decide) rfl ?_
      refine V_goto (tgt := 101) ok dX3_digest_121 (by decide) ?_
      refine V_lv [0, 1] rfl ?_
      exact ih (4 - (w + 1)) (by omega) (w + 1) (by omega) rfl
  have HN : ∀ (n i : Nat), i ≤ nv x.1 0 + 1 → n = nv x.1 0 + 1 - i → V g Γ 3 0 0 33 (modelW g b x.1 wv ah pa pw ai aw sts rf tx len pl ord lr nu (digN x i (dig1 x.1 rf len sts))) [(1, .int (nI i)), (0, .ref (b 0))] [] := by
    intro n
    induction n using Nat.strongRecOn with
    | ind n ih =>
    intro i hi hn
    subst hn
    refine V_iload_n ok dX3_digest_33 rfl 0 rfl ?_
    refine V_aload_n ok dX3_digest_34 rfl 1 rfl ?_
    refine V_get (v := .ref (b 1)) ok 0 0 tw_X3 twf_X3_7 rfl rfl (by decide) dX3_digest_35 rfl rfl ?_
    refine V_iconst (v := nI 0) ok dX3_digest_38 rfl ?_
    refine V_iald (f := x.1) (N := 9) ok 1 0 dX3_digest_39 rfl rfl (by decide) (by decide) ?_
    refine V_top_int (b := nI (nv x.1 0)) (hx.1.n.1) ?_
    refine V_icmpN_gt (tgt := 99) ok dX3_digest_40 (by decide) (by omega) (by omega) (fun h40 => ?_) (fun h40 => ?_)
    · refine V_iconst (v := nI 0) ok dX3_digest_99 rfl ?_
      refine V_istore_n (lv2 := [(1, .int (nI 0)), (0, .ref (b 0))]) ok dX3_digest_100 rfl (by decide) rfl ?_
      obtain rfl : i = nv x.1 0 + 1 := by omega
      refine V_lv [0, 1] rfl ?_
      exact HA 4 0 (by decide) rfl
    · have hi2 : i ≤ nv x.1 0 := by omega
      have HB : V g Γ 3 0 0 70 (modelW g b x.1 wv ah pa pw ai aw sts rf tx len pl ord lr nu (digT (fun w => tf (nodeV x i w)) 6 (digN x i (dig1 x.1 rf len sts)))) [(2, .int (nI 6)), (1, .int (nI i)), (0, .ref (b 0))] [] := by
        refine V_aload_n ok dX3_digest_70 rfl 2 rfl ?_
        refine V_aload_n ok dX3_digest_71 rfl 2 rfl ?_
        refine V_get (v := .ref (b 2)) ok 0 1 tw_X3 twf_X3_13 rfl rfl (by decide) dX3_digest_72 rfl rfl ?_
        refine V_iload_n ok dX3_digest_75 rfl 1 rfl ?_
        refine V_dald (f := wv) (N := 45) ok 2 i dX3_digest_76 rfl rfl (by omega) (by decide) ?_
        refine V_top_double (b := x.2.1 i) ((hw.1 i hi2).1) ?_
        refine V_aload_n ok dX3_digest_77 rfl 2 rfl ?_
        refine V_get (v := .ref (b 2)) ok 0 1 tw_X3 twf_X3_13 rfl rfl (by decide) dX3_digest_78 rfl rfl ?_
        refine V_bipush (v := nI 11) ok dX3_digest_81 rfl ?_
        refine V_iload_n ok dX3_digest_83 rfl 1 rfl ?_
        refine V_iaddN (a := 11) (b := i) (c := 11 + i) ok dX3_digest_84 (by first | rfl | omega) ?_
        refine V_dald (f := wv) (N := 45) ok 2 (11 + i) dX3_digest_85 rfl rfl (by omega) (by decide) ?_
        refine V_top_double (b := x.2.2.1 i) ((hw.1 i hi2).2.1) ?_
        refine V_dadd ok dX3_digest_86 (hx.press hi2).1.n64 ?_
        refine V_cS (v2 := some (.long ((FP.dadd (x.2.1 i) (x.2.2.1 i)).toInt64))) (wn := modelW g b x.1 wv ah pa pw ai aw sts rf tx len pl ord lr nu (digT (fun w => tf (nodeV x i w)) 6 (digN x i (dig1 x.1 rf len sts)))) (rest := [.ref (b 0)]) ok (c_Jxe99ae_doubleToLongBits_ccdee g (FP.dadd (x.2.1 i) (x.2.2.1 i)) (hx.press hi2).1.nn) 1 twm_X3_134 tws_yJxe99ae_doubleToLongBits_ccdee twin_Jxe99ae twc_yJxe99ae_doubleToLongBits_ccdee yok_Jxe99ae_doubleToLongBits_ccdee (by decide) ⟨rfl, rfl⟩ dX3_digest_87 rfl rfl (Nat.le_of_ble_eq_true rfl) ⟨Nat.zero_le _, Nat.zero_le _⟩ [] rfl rfl (Nat.le_of_ble_eq_true rfl) rfl ?_
        refine V_cW (v2 := none) (w2 := modelW g b x.1 wv ah pa pw ai aw sts rf tx len pl ord lr nu (31 * (digT (fun w => tf (nodeV x i w)) 6 (digN x i (dig1 x.1 rf len sts))) + ((FP.dadd (x.2.1 i) (x.2.2.1 i)).toInt64))) (rest := []) ok 0 3 (c_X3_mix g b x.1 wv ah pa pw ai aw sts rf tx len pl ord lr nu (digT (fun w => tf (nodeV x i w)) 6 (digN x i (dig1 x.1 rf len sts))) ((FP.dadd (x.2.1 i) (x.2.2.1 i)).toInt64)) 1 twm_X3_199 twi_yX3_mix twv_yX3_mix twin_X3 twc_yX3_mix yok_X3_mix (by decide) ⟨rfl, rfl⟩ dX3_digest_90 rfl rfl rfl rfl (Nat.le_of_ble_eq_true rfl) ⟨Nat.zero_le _, Nat.zero_le _⟩ ?_
        refine V_iinc (q := 1) (v := nI (i + 1)) (lv2 := [(1, .int (nI (i + 1))), (2, .int (nI 6)), (0, .ref (b 0))]) ok dX3_digest_93 rfl (nI_inc i 1) (by decide) rfl ?_
        refine V_goto (tgt := 33) ok dX3_digest_96 (by decide) ?_
        refine V_lv [0, 2] rfl ?_
        exact ih (nv x.1 0 + 1 - (i + 1)) (by omega) (i + 1) (by omega) rfl
      have HW : ∀ (n w : Nat), w ≤ 6 → n = 6 - w → V g Γ 3 0 0 45 (modelW g b x.1 wv ah pa pw ai aw sts rf tx len pl ord lr nu (digT (fun w => tf (nodeV x i w)) w (digN x i (dig1 x.1 rf len sts)))) [(2, .int (nI w)), (1, .int (nI i)), (0, .ref (b 0))] [] := by
        intro n
        induction n using Nat.strongRecOn with
        | ind n ihw =>
        intro w hw6 hn
        subst hn
        refine V_iload_n ok dX3_digest_45 rfl 0 rfl ?_
        refine V_bipush (v := nI 6) ok dX3_digest_46 rfl ?_
        refine V_icmpN_ge (tgt := 70) ok dX3_digest_48 (by decide) (by omega) (by omega) (fun h48 => ?_) (fun h48 => ?_)
        · obtain rfl : w = 6 := by omega
          exact HB
        · refine V_aload_n ok dX3_digest_51 rfl 2 rfl ?_
          refine V_aload_n ok dX3_digest_52 rfl 2 rfl ?_
          refine V_iload_n ok dX3_digest_53 rfl 1 rfl ?_
          refine V_iload_n ok dX3_digest_54 rfl 0 rfl ?_
          refine V_cW (v2 := some (.double (nodeV x i w))) (w2 := modelW g b x.1 wv ah pa pw ai aw sts rf tx len pl ord lr nu (digT (fun w => tf (nodeV x i w)) w (digN x i (dig1 x.1 rf len sts)))) (rest := [.ref (b 0)]) ok 0 3 (c_X3_nodeIs g b x wv ah pa pw ai aw sts rf tx len pl ord lr nu (digT (fun w => tf (nodeV x i w)) w (digN x i (dig1 x.1 rf len sts))) i w hx hw hi2 (by omega)) 2 twm_X3_110 twi_yX3_nodeIs twv_yX3_nodeIs twin_X3 twc_yX3_nodeIs yok_X3_nodeIs (by decide) ⟨rfl, rfl⟩ dX3_digest_55 rfl rfl rfl rfl (Nat.le_of_ble_eq_true rfl) ⟨Nat.zero_le _, Nat.zero_le _⟩ ?_
          refine V_cS (v2 := some (.long (tf (nodeV x i w)))) (wn := modelW g b x.1 wv ah pa pw ai aw sts rf tx len pl ord lr nu (digT (fun w => tf (nodeV x i w)) w (digN x i (dig1 x.1 rf len sts)))) (rest := [.ref (b 0)]) ok (c_X3_whole g (nodeV x i w) (hx.nodeVF hi2)) 1 twm_X3_114 tws_yX3_whole twin_X3 twc_yX3_whole yok_X3_whole (by decide) ⟨rfl, rfl⟩ dX3_digest_58 rfl rfl (Nat.le_of_ble_eq_true rfl) ⟨Nat.zero_le _, Nat.zero_le _⟩ [] rfl rfl (Nat.le_of_ble_eq_true rfl) rfl ?_
          refine V_cW (v2 := none) (w2 := modelW g b x.1 wv ah pa pw ai aw sts rf tx len pl ord lr nu (31 * (digT (fun w => tf (nodeV x i w)) w (digN x i (dig1 x.1 rf len sts))) + (tf (nodeV x i w)))) (rest := []) ok 0 3 (c_X3_mix g b x.1 wv ah pa pw ai aw sts rf tx len pl ord lr nu (digT (fun w => tf (nodeV x i w)) w (digN x i (dig1 x.1 rf len sts))) (tf (nodeV x i w))) 1 twm_X3_199 twi_yX3_mix twv_yX3_mix twin_X3 twc_yX3_mix yok_X3_mix (by decide) ⟨rfl, rfl⟩ dX3_digest_61 rfl rfl rfl rfl (Nat.le_of_ble_eq_true rfl) ⟨Nat.zero_le _, Nat.zero_le _⟩ ?_
          refine V_iinc (q := 0) (v := nI (w + 1)) (lv2 := [(2, .int (nI (w + 1))), (1, .int (nI i)), (0, .ref (b 0))]) ok dX3_digest_64 rfl (nI_inc w 1) (by decide) rfl ?_
          refine V_goto (tgt := 45) ok dX3_digest_67 (by decide) ?_
          refine V_lv [0, 1, 2] rfl ?_
          exact ihw (6 - (w + 1)) (by omega) (w + 1) (by omega) rfl
      refine V_iconst (v := nI 0) ok dX3_digest_43 rfl ?_
      refine V_istore_n (lv2 := [(2, .int (nI 0)), (1, .int (nI i)), (0, .ref (b 0))]) ok dX3_digest_44 rfl (by decide) rfl ?_
      refine V_lv [0, 1, 2] rfl ?_
      exact HW 6 0 (by decide) rfl
  have H0 : ∀ (n w : Nat), w ≤ 14 → n = 14 - w → V g Γ 3 0 0 9 (modelW g b x.1 wv ah pa pw ai aw sts rf tx len pl ord lr nu (digT (fun w => (toldV x.1 rf len sts w).toInt64) w 2549)) [(1, .int (nI w)), (0, .ref (b 0))] [] := by
    intro n
    induction n using Nat.strongRecOn with
    | ind n ih =>
    intro w hi hn
    subst hn
    refine V_iload_n ok dX3_digest_9 rfl 0 rfl ?_
    refine V_bipush (v := nI 14) ok dX3_digest_10 rfl ?_
    refine V_icmpN_ge (tgt := 31) ok dX3_digest_12 (by decide) (by omega) (by omega) (fun h12 => ?_) (fun h12 => ?_)
    · refine V_iconst (v := nI 0) ok dX3_digest_31 rfl ?_
      refine V_istore_n (lv2 := [(1, .int (nI 0)), (0, .ref (b 0))]) ok dX3_digest_32 rfl (by decide) rfl ?_
      obtain rfl : w = 14 := by omega
      refine V_lv [0, 1] rfl ?_
      exact HN (nv x.1 0 + 1) 0 (Nat.zero_le _) rfl
    · refine V_aload_n ok dX3_digest_15 rfl 1 rfl ?_
      refine V_aload_n ok dX3_digest_16 rfl 1 rfl ?_
      refine V_iload_n ok dX3_digest_17 rfl 0 rfl ?_
      refine V_cW (v2 := some (.int (toldV x.1 rf len sts w))) (w2 := modelW g b x.1 wv ah pa pw ai aw sts rf tx len pl ord lr nu (digT (fun w => (toldV x.1 rf len sts w).toInt64) w 2549)) (rest := [.ref (b 0)]) ok 0 3 (c_X3_toldIs g b x.1 wv ah pa pw ai aw sts rf tx len pl ord lr nu (digT (fun w => (toldV x.1 rf len sts w).toInt64) w 2549) w (by omega)) 1 twm_X3_188 twi_yX3_toldIs twv_yX3_toldIs twin_X3 twc_yX3_toldIs yok_X3_toldIs (by decide) ⟨rfl, rfl⟩ dX3_digest_18 rfl rfl rfl rfl (Nat.le_of_ble_eq_true rfl) ⟨Nat.zero_le _, Nat.zero_le _⟩ ?_
      refine V_i2l ok dX3_digest_21 ?_
      refine V_cW (v2 := none) (w2 := modelW g b x.1 wv ah pa pw ai aw sts rf tx len pl ord lr nu (31 * (digT (fun w => (toldV x.1 rf len sts w).toInt64) w 2549) + ((toldV x.1 rf len sts w).toInt64))) (rest := []) ok 0 3 (c_X3_mix g b x.1 wv ah pa pw ai aw sts rf tx len pl ord lr nu (digT (fun w => (toldV x.1 rf len sts w).toInt64) w 2549) ((toldV x.1 rf len sts w).toInt64)) 1 twm_X3_199 twi_yX3_mix twv_yX3_mix twin_X3 twc_yX3_mix yok_X3_mix (by decide) ⟨rfl, rfl⟩ dX3_digest_22 rfl rfl rfl rfl (Nat.le_of_ble_eq_true rfl) ⟨Nat.zero_le _, Nat.zero_le _⟩ ?_
      refine V_iinc (q := 0) (v := nI (w + 1)) (lv2 := [(1, .int (nI (w + 1))), (0, .ref (b 0))]) ok dX3_digest_25 rfl (nI_inc w 1) (by decide) rfl ?_
      refine V_goto (tgt := 9) ok dX3_digest_28 (by decide) ?_
      refine V_lv [0, 1] rfl ?_
      exact ih (14 - (w + 1)) (by omega) (w + 1) (by omega) rfl
  refine V_aload_n ok dX3_digest_0 rfl 0 rfl ?_
  refine V_ldc2l ok twl_X3_197 dX3_digest_1 ?_
  refine V_put (w2 := modelW g b x.1 wv ah pa pw ai aw sts rf tx len pl ord lr nu 2549) ok 0 15 tw_X3 tyX3 tyX3_ok nmX3 twf_X3_193 rfl rfl (by decide) rfl rfl dX3_digest_4 rfl rfl rfl (Nat.lt_of_lt_of_eq (m := 16) (by decide) rfl) rfl ?_
  refine V_iconst (v := nI 0) ok dX3_digest_7 rfl ?_
  refine V_istore_n (lv2 := [(1, .int (nI 0)), (0, .ref (b 0))]) ok dX3_digest_8 rfl (by decide) rfl ?_
  refine V_lv [0, 1] rfl ?_
  exact H0 14 0 (by decide) rfl
