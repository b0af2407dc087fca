theorem wiB_t {i lo hi : Nat} (h1 : lo ≤ i) (h2 : i ≤ hi) (h3 : hi < 2 ^ 31) : wiB (nI i) (nI lo) (nI hi) = true := wiB_iff.mpr ⟨nI_nlt h1 (by omega), nI_nlt h2 h3⟩
theorem LG.nodeVF {x : LineSt} (h : LG x) {i w : Nat} (hi : i ≤ nv x.1 0) : FP.Core.DFin (nodeV x i w) := by
  obtain ⟨a, b, c, d, e⟩ := h.nodeF hi
  unfold nodeV
  split
  · exact (h.press hi).1.fin
  · split
    · exact e.fin
    · split
      · exact a
      · split
        · exact b
        · split
          · exact c
          · exact d
theorem LG.allVF {x : LineSt} (h : LG x) {w : Nat} : FP.Core.DFin (allV x w) := by
  unfold allV
  split
  · exact (kept_ok h _ (Nat.le_refl _)).2.2.2.2.fin
  · split
    · exact h.hiF
    · split
      · exact h.loF
      · exact h.2.2.2.1.1.fin
set_option maxHeartbeats 4000000 in
set_option maxRecDepth 100000 in
theorem c_Jxe99ae_isNaN_b9ae7 (g : Glob) (x : UInt64) (hx : nn x) : Con g yJxe99ae_isNaN_b9ae7 cJxe99ae_isNaN_b9ae7 2 (some .boolean) ({ frames := 0, cells := 0, slots := 0, locals := 0 } : Room) [.double x] ([]) (Is (some (.int (bI false))) []) := by
  refine con_of_V ypl_Jxe99ae_isNaN_b9ae7 (Nat.le_of_ble_eq_true rfl) [(0, .double x)] rfl (fun Γ ok => ?_)
  refine V_dload_n ok dJxe99ae_isNaN_b9ae7_0 rfl 0 rfl ?_
  refine V_dload_n ok dJxe99ae_isNaN_b9ae7_1 rfl 0 rfl ?_
  refine V_deq (tgt := 10) ok dJxe99ae_isNaN_b9ae7_2 dJxe99ae_isNaN_b9ae7_3 (by decide) hx hx (fun h2 => ?_) (fun h2 => absurd rfl h2)
  refine V_iconst (v := nI 0) ok dJxe99ae_isNaN_b9ae7_10 rfl ?_
  exact V_zret ok dJxe99ae_isNaN_b9ae7_11 (Nat.zero_le _) (Nat.zero_le _) rfl ⟨rfl, rfl⟩
set_option maxHeartbeats 4000000 in
set_option maxRecDepth 100000 in
theorem c_Jxe99ae_doubleToLongBits_ccdee (g : Glob) (x : UInt64) (hx : nn x) : Con g yJxe99ae_doubleToLongBits_ccdee cJxe99ae_doubleToLongBits_ccdee 2 (some .long) ({ frames := 1, cells := 0, slots := 0, locals := 21 } : Room) [.double x] ([]) (Is (some (.long x.toInt64)) []) := by
  refine con_of_V ypl_Jxe99ae_doubleToLongBits_ccdee (Nat.le_of_ble_eq_true rfl) [(0, .double x)] rfl (fun Γ ok => ?_)
  refine V_dload_n ok dJxe99ae_doubleToLongBits_ccdee_0 rfl 0 rfl ?_
  refine V_cS (v2 := some (.int (bI false))) (wn := []) (rest := []) ok (c_Jxe99ae_isNaN_b9ae7 g x hx) 1 twm_Jxe99ae_122 tws_yJxe99ae_isNaN_b9ae7 twin_Jxe99ae twc_yJxe99ae_isNaN_b9ae7 yok_Jxe99ae_isNaN_b9ae7 (by decide) ⟨rfl, rfl⟩ dJxe99ae_doubleToLongBits_ccdee_1 rfl rfl (Nat.le_of_ble_eq_true rfl) ⟨Nat.zero_le _, Nat.zero_le _⟩ [] rfl rfl (Nat.le_of_ble_eq_true rfl) rfl ?_
  refine V_ifB_ne (tgt := 12) ok dJxe99ae_doubleToLongBits_ccdee_4 (by decide) (fun h4 => absurd h4 (by decide)) (fun h4 => ?_)
  refine V_dload_n ok dJxe99ae_doubleToLongBits_ccdee_7 rfl 0 rfl ?_
  refine V_rawBits ok twm_Jxe99ae_134 dJxe99ae_doubleToLongBits_ccdee_8 (by decide) (by decide) ?_
  exact V_lret ok dJxe99ae_doubleToLongBits_ccdee_11 (Nat.zero_le _) (Nat.zero_le _) ⟨rfl, rfl⟩
set_option maxHeartbeats 4000000 in
set_option maxRecDepth 100000 in
theorem c_X3_node_ok (g : Glob) (b : Nat → Nat) (x : LineSt) (wv : Nat → UInt64) (ah : Nat → UInt64) (pa : Nat → Int32) (pw : Nat → UInt64) (ai : Nat → Int32) (aw : Nat → UInt64) (sts : Nat) (rf : Nat → Int32) (tx : Nat → Int32) (len : Nat) (pl : Nat) (ord : Nat) (lr : Nat → Int32) (nu : Nat → Int32) (hsh : Int64) (i w : Nat) (hx : LG x) (hw : WR x wv) (hi : i ≤ nv x.1 0) (hw5 : w ≤ 5) : Con g yX3_node cX3_node 3 (some .long) ({ frames := 1, cells := 0, slots := 0, locals := 22 } : Room) [.ref (b 0), .int (nI i), .int (nI w)] (modelW g b x.1 wv ah pa pw ai aw sts rf tx len pl ord lr nu hsh) (Is (some (.long (tf (nodeV x i w)))) (modelW g b x.1 wv ah pa pw ai aw sts rf tx len pl ord lr nu hsh)) := by
  refine con_of_V ypl_X3_node (Nat.le_of_ble_eq_true rfl) [(0, .ref (b 0)), (1, .int (nI i)), (2, .int (nI w))] rfl (fun Γ ok => ?_)
  have hN := hx.1.n
  refine V_iload_n ok dX3_node_0 rfl 1 rfl ?_
  refine V_iconst (v := nI 0) ok dX3_node_1 rfl ?_
  refine V_aload_n ok dX3_node_2 rfl 0 rfl ?_
  refine V_get (v := .ref (b 1)) ok 0 0 tw_X3 twf_X3_7 rfl rfl (by decide) dX3_node_3 rfl rfl ?_
  refine V_iconst (v := nI 0) ok dX3_node_6 rfl ?_
  refine V_iald (f := x.1) (N := 9) ok 1 0 dX3_node_7 rfl rfl (by decide) (by decide) ?_
  refine V_top_int (b := nI (nv x.1 0)) (hx.1.n.1) ?_
  refine V_cS (v2 := some (.int (bI (wiB (nI i) (nI 0) (nI (nv x.1 0)))))) (wn := modelW g b x.1 wv ah pa pw ai aw sts rf tx len pl ord lr nu hsh) (rest := []) ok (c_X3_within g (nI i) (nI 0) (nI (nv x.1 0))) 3 twm_X3_74 tws_yX3_within twin_X3 twc_yX3_within yok_X3_within (by decide) ⟨rfl, rfl⟩ dX3_node_8 rfl rfl (Nat.le_of_ble_eq_true rfl) ⟨Nat.zero_le _, Nat.zero_le _⟩ [] rfl rfl (Nat.le_of_ble_eq_true rfl) rfl ?_
  refine V_ifB_eq (tgt := 35) ok dX3_node_11 (by decide) (fun h11 => absurd (wiB_t (Nat.zero_le _) hi (by omega)) h11) (fun h11 => ?_)
  refine V_iload_n ok dX3_node_14 rfl 2 rfl ?_
  refine V_iconst (v := nI 0) ok dX3_node_15 rfl ?_
  refine V_iconst (v := nI 5) ok dX3_node_16 rfl ?_
  refine V_cS (v2 := some (.int (bI (wiB (nI w) (nI 0) (nI 5))))) (wn := modelW g b x.1 wv ah pa pw ai aw sts rf tx len pl ord lr nu hsh) (rest := []) ok (c_X3_within g (nI w) (nI 0) (nI 5)) 3 twm_X3_74 tws_yX3_within twin_X3 twc_yX3_within yok_X3_within (by decide) ⟨rfl, rfl⟩ dX3_node_17 rfl rfl (Nat.le_of_ble_eq_true rfl) ⟨Nat.zero_le _, Nat.zero_le _⟩ [] rfl rfl (Nat.le_of_ble_eq_true rfl) rfl ?_
  refine V_ifB_eq (tgt := 35) ok dX3_node_20 (by decide) (fun h20 => absurd (wiB_t (Nat.zero_le _) hw5 (by decide)) h20) (fun h20 => ?_)
  refine V_aload_n ok dX3_node_23 rfl 0 rfl ?_
  refine V_iload_n ok dX3_node_24 rfl 1 rfl ?_
  refine V_iload_n ok dX3_node_25 rfl 2 rfl ?_
  refine V_cW (v2 := some (.double (nodeV x i w))) (w2 := modelW g b x.1 wv ah pa pw ai aw sts rf tx len pl ord lr nu hsh) (rest := []) ok 0 3 (c_X3_nodeIs g b x wv ah pa pw ai aw sts rf tx len pl ord lr nu hsh i w hx hw hi hw5) 2 twm_X3_110 twi_yX3_nodeIs twv_yX3_nodeIs twin_X3 twc_yX3_nodeIs yok_X3_nodeIs (by decide) ⟨rfl, rfl⟩ dX3_node_26 rfl rfl rfl rfl (Nat.le_of_ble_eq_true rfl) ⟨Nat.zero_le _, Nat.zero_le _⟩ ?_
  refine V_cS (v2 := some (.long (tf (nodeV x i w)))) (wn := modelW g b x.1 wv ah pa pw ai aw sts rf tx len pl ord lr nu hsh) (rest := []) ok (c_X3_whole g (nodeV x i w) (hx.nodeVF hi)) 1 twm_X3_114 tws_yX3_whole twin_X3 twc_yX3_whole yok_X3_whole (by decide) ⟨rfl, rfl⟩ dX3_node_29 rfl rfl (Nat.le_of_ble_eq_true rfl) ⟨Nat.zero_le _, Nat.zero_le _⟩ [] rfl rfl (Nat.le_of_ble_eq_true rfl) rfl ?_
  refine V_goto (tgt := 39) ok dX3_node_32 (by decide) ?_
  exact V_lret ok dX3_node_39 (Nat.zero_le _) (Nat.zero_le _) ⟨rfl, rfl⟩
set_option maxHeartbeats 4000000 in
set_option maxRecDepth 100000 in
theorem c_X3_node_bad (g : Glob) (b : Nat → Nat) (nw : Nat → Int32) (wv : Nat → UInt64) (ah : Nat → UInt64) (pa : Nat → Int32) (pw : Nat → UInt64) (ai : Nat → Int32) (aw : Nat → UInt64) (sts : Nat) (rf : Nat → Int32) (tx : Nat → Int32) (len : Nat) (pl : Nat) (ord : Nat) (lr : Nat → Int32) (nu : Nat → Int32) (hsh : Int64) (i q : Int32) (ho : ¬ wiB i (nI 0) (nw 0) = true ∨ ¬ wiB q (nI 0) (nI 5) = true) : Con g yX3_node cX3_node 3 (some .long) ({ frames := 1, cells := 0, slots := 0, locals := 22 } : Room) [.ref (b 0), .int i, .int q] (modelW g b nw wv ah pa pw ai aw sts rf tx len pl ord lr nu hsh) (Is (some (.long (-9000000000000000))) (modelW g b nw wv ah pa pw ai aw sts (rfU rf (-2)) tx len pl ord lr nu hsh)) := by
  refine con_of_V ypl_X3_node (Nat.le_of_ble_eq_true rfl) [(0, .ref (b 0)), (1, .int i), (2, .int q)] rfl (fun Γ ok => ?_)
  refine V_iload_n ok dX3_node_0 rfl 1 rfl ?_
  refine V_iconst (v := nI 0) ok dX3_node_1 rfl ?_
  refine V_aload_n ok dX3_node_2 rfl 0 rfl ?_
  refine V_get (v := .ref (b 1)) ok 0 0 tw_X3 twf_X3_7 rfl rfl (by decide) dX3_node_3 rfl rfl ?_
  refine V_iconst (v := nI 0) ok dX3_node_6 rfl ?_
  refine V_iald (f := nw) (N := 9) ok 1 0 dX3_node_7 rfl rfl (by decide) (by decide) ?_
  refine V_cS (v2 := some (.int (bI (wiB i (nI 0) (nw 0))))) (wn := modelW g b nw wv ah pa pw ai aw sts rf tx len pl ord lr nu hsh) (rest := []) ok (c_X3_within g i (nI 0) (nw 0)) 3 twm_X3_74 tws_yX3_within twin_X3 twc_yX3_within yok_X3_within (by decide) ⟨rfl, rfl⟩ dX3_node_8 rfl rfl (Nat.le_of_ble_eq_true rfl) ⟨Nat.zero_le _, Nat.zero_le _⟩ [] rfl rfl (Nat.le_of_ble_eq_true rfl) rfl ?_
  refine V_ifB_eq (tgt := 35) ok dX3_node_11 (by decide) (fun h11 => ?_) (fun h11 => ?_)
  · refine V_aload_n ok dX3_node_35 rfl 0 rfl ?_
    refine V_cW (v2 := some (.long (-9000000000000000))) (w2 := modelW g b nw wv ah pa pw ai aw sts (rfU rf (-2)) tx len pl ord lr nu hsh) (rest := []) ok 0 3 (c_X3_countsLong g b nw wv ah pa pw ai aw sts rf tx len pl ord lr nu hsh) 0 twm_X3_118 twi_yX3_countsLong twv_yX3_countsLong twin_X3 twc_yX3_countsLong yok_X3_countsLong (by decide) ⟨rfl, rfl⟩ dX3_node_36 rfl rfl rfl rfl (Nat.le_of_ble_eq_true rfl) ⟨Nat.zero_le _, Nat.zero_le _⟩ ?_
    exact V_lret ok dX3_node_39 (Nat.zero_le _) (Nat.zero_le _) ⟨rfl, rfl⟩
  · refine V_iload_n ok dX3_node_14 rfl 2 rfl ?_
    refine V_iconst (v := nI 0) ok dX3_node_15 rfl ?_
    refine V_iconst (v := nI 5) ok dX3_node_16 rfl ?_
    refine V_cS (v2 := some (.int (bI (wiB q (nI 0) (nI 5))))) (wn := modelW g b nw wv ah pa pw ai aw sts rf tx len pl ord lr nu hsh) (rest := []) ok (c_X3_within g q (nI 0) (nI 5)) 3 twm_X3_74 tws_yX3_within twin_X3 twc_yX3_within yok_X3_within (by decide) ⟨rfl, rfl⟩ dX3_node_17 rfl rfl (Nat.le_of_ble_eq_true rfl) ⟨Nat.zero_le _, Nat.zero_le _⟩ [] rfl rfl (Nat.le_of_ble_eq_true rfl) rfl ?_
    refine V_ifB_eq (tgt := 35) ok dX3_node_20 (by decide) (fun h20 => ?_) (fun h20 => (ho.elim (fun z => absurd h11 z) (fun z => absurd h20 z)))
    refine V_aload_n ok dX3_node_35 rfl 0 rfl ?_
    refine V_cW (v2 := some (.long (-9000000000000000))) (w2 := modelW g b nw wv ah pa pw ai aw sts (rfU rf (-2)) tx len pl ord lr nu hsh) (rest := []) ok 0 3 (c_X3_countsLong g b nw wv ah pa pw ai aw sts rf tx len pl ord lr nu hsh) 0 twm_X3_118 twi_yX3_countsLong twv_yX3_countsLong twin_X3 twc_yX3_countsLong yok_X3_countsLong (by decide) ⟨rfl, rfl⟩ dX3_node_36 rfl rfl rfl rfl (Nat.le_of_ble_eq_true rfl) ⟨Nat.zero_le _, Nat.zero_le _⟩ ?_
    exact V_lret ok dX3_node_39 (Nat.zero_le _) (Nat.zero_le _) ⟨rfl, rfl⟩
set_option maxHeartbeats 4000000 in
set_option maxRecDepth 100000 in
theorem c_X3_all_ok (g : Glob) (b : Nat → Nat) (x : LineSt) (wv : Nat → UInt64) (ah : Nat → UInt64) (pa : Nat → Int32) (pw : Nat → UInt64) (ai : Nat → Int32) (aw : Nat → UInt64) (sts : Nat) (rf : Nat → Int32) (tx : Nat → Int32) (len : Nat) (pl : Nat) (ord : Nat) (lr : Nat → Int32) (nu : Nat → Int32) (hsh : Int64) (w : Nat) (hx : LG x) (hw : WR x wv) (hw3 : w ≤ 3) : Con g yX3_all cX3_all 2 (some .long) ({ frames := 2, cells := 0, slots := 0, locals := 48 } : Room) [.ref (b 0), .int (nI w)] (modelW g b x.1 wv ah pa pw ai aw sts rf tx len pl ord lr nu hsh) (Is (some (.long (tf (allV x w)))) (modelW g b x.1 wv ah pa pw ai aw sts rf tx len pl ord lr nu hsh)) := by
  refine con_of_V ypl_X3_all (Nat.le_of_ble_eq_true rfl) [(0, .ref (b 0)), (1, .int (nI w))] rfl (fun Γ ok => ?_)
  refine V_iload_n ok dX3_all_0 rfl 1 rfl ?_
  refine V_iconst (v := nI 0) ok dX3_all_1 rfl ?_
  refine V_iconst (v := nI 3) ok dX3_all_2 rfl ?_
  refine V_cS (v2 := some (.int (bI (wiB (nI w) (nI 0) (nI 3))))) (wn := modelW g b x.1 wv ah pa pw ai aw sts rf tx len pl ord lr nu hsh) (rest := []) ok (c_X3_within g (nI w) (nI 0) (nI 3)) 3 twm_X3_74 tws_yX3_within twin_X3 twc_yX3_within yok_X3_within (by decide) ⟨rfl, rfl⟩ dX3_all_3 rfl rfl (Nat.le_of_ble_eq_true rfl) ⟨Nat.zero_le _, Nat.zero_le _⟩ [] rfl rfl (Nat.le_of_ble_eq_true rfl) rfl ?_
  refine V_ifB_eq (tgt := 20) ok dX3_all_6 (by decide) (fun h6 => absurd (wiB_t (Nat.zero_le _) hw3 (by decide)) h6) (fun h6 => ?_)
  refine V_aload_n ok dX3_all_9 rfl 0 rfl ?_
  refine V_iload_n ok dX3_all_10 rfl 1 rfl ?_
  refine V_cW (v2 := some (.double (allV x w))) (w2 := modelW g b x.1 wv ah pa pw ai aw sts rf tx len pl ord lr nu hsh) (rest := []) ok 0 3 (c_X3_allIs g b x wv ah pa pw ai aw sts rf tx len pl ord lr nu hsh w hx hw hw3) 1 twm_X3_130 twi_yX3_allIs twv_yX3_allIs twin_X3 twc_yX3_allIs yok_X3_allIs (by decide) ⟨rfl, rfl⟩ dX3_all_11 rfl rfl rfl rfl (Nat.le_of_ble_eq_true rfl) ⟨Nat.zero_le _, Nat.zero_le _⟩ ?_
  refine V_cS (v2 := some (.long (tf (allV x w)))) (wn := modelW g b x.1 wv ah pa pw ai aw sts rf tx len pl ord lr nu hsh) (rest := []) ok (c_X3_whole g (allV x w) hx.allVF) 1 twm_X3_114 tws_yX3_whole twin_X3 twc_yX3_whole yok_X3_whole (by decide) ⟨rfl, rfl⟩ dX3_all_14 rfl rfl (Nat.le_of_ble_eq_true rfl) ⟨Nat.zero_le _, Nat.zero_le _⟩ [] rfl rfl (Nat.le_of_ble_eq_true rfl) rfl ?_
  refine V_goto (tgt := 24) ok dX3_all_17 (by decide) ?_
  exact V_lret ok dX3_all_24 (Nat.zero_le _) (Nat.zero_le _) ⟨rfl, rfl⟩
set_option maxHeartbeats 4000000 in
set_option maxRecDepth 100000 in
theorem c_X3_all_bad (g : Glob) (b : Nat → Nat) (nw : Nat → Int32) (wv : Nat → UInt64) (ah : Nat → UInt64) (pa : Nat → Int32) (pw : Nat → UInt64) (ai : Nat → Int32) (aw : Nat → UInt64) (sts : Nat) (rf : Nat → Int32) (tx : Nat → Int32) (len : Nat) (pl : Nat) (ord : Nat) (lr : Nat → Int32) (nu : Nat → Int32) (hsh : Int64) (q : Int32) (ho : ¬ wiB q (nI 0) (nI 3) = true) : Con g yX3_all cX3_all 2 (some .long) ({ frames := 2, cells := 0, slots := 0, locals := 48 } : Room) [.ref (b 0), .int q] (modelW g b nw wv ah pa pw ai aw sts rf tx len pl ord lr nu hsh) (Is (some (.long (-9000000000000000))) (modelW g b nw wv ah pa pw ai aw sts (rfU rf (-2)) tx len pl ord lr nu hsh)) := by
  refine con_of_V ypl_X3_all (Nat.le_of_ble_eq_true rfl) [(0, .ref (b 0)), (1, .int q)] rfl (fun Γ ok => ?_)
  refine V_iload_n ok dX3_all_0 rfl 1 rfl ?_
  refine V_iconst (v := nI 0) ok dX3_all_1 rfl ?_
  refine V_iconst (v := nI 3) ok dX3_all_2 rfl ?_
  refine V_cS (v2 := some (.int (bI (wiB q (nI 0) (nI 3))))) (wn := modelW g b nw wv ah pa pw ai aw sts rf tx len pl ord lr nu hsh) (rest := []) ok (c_X3_within g q (nI 0) (nI 3)) 3 twm_X3_74 tws_yX3_within twin_X3 twc_yX3_within yok_X3_within (by decide) ⟨rfl, rfl⟩ dX3_all_3 rfl rfl (Nat.le_of_ble_eq_true rfl) ⟨Nat.zero_le _, Nat.zero_le _⟩ [] rfl rfl (Nat.le_of_ble_eq_true rfl) rfl ?_
  refine V_ifB_eq (tgt := 20) ok dX3_all_6 (by decide) (fun h6 => ?_) (fun h6 => absurd h6 ho)
  refine V_aload_n ok dX3_all_20 rfl 0 rfl ?_
  refine V_cW (v2 := some (.long (-9000000000000000))) (w2 := modelW g b nw wv ah pa pw ai aw sts (rfU rf (-2)) tx len pl ord lr nu hsh) (rest := []) ok 0 3 (c_X3_countsLong g b nw wv ah pa pw ai aw sts rf tx len pl ord lr nu hsh) 0 twm_X3_118 twi_yX3_countsLong twv_yX3_countsLong twin_X3 twc_yX3_countsLong yok_X3_countsLong (by decide) ⟨rfl, rfl⟩ dX3_all_21 rfl rfl rfl rfl (Nat.le_of_ble_eq_true rfl) ⟨Nat.zero_le _, Nat.zero_le _⟩ ?_
  exact V_lret ok dX3_all_24 (Nat.zero_le _) (Nat.zero_le _) ⟨rfl, rfl⟩
set_option maxHeartbeats 4000000 in
set_option maxRecDepth 100000 in
theorem c_X3_bits_ok (g : Glob) (b : Nat → Nat) (x : LineSt) (wv : Nat → UInt64) (ah : Nat → UInt64) (pa : Nat → Int32) (pw : Nat → UInt64) (ai : Nat → Int32) (aw : Nat → UInt64) (sts : Nat) (rf : Nat → Int32) (tx : Nat → Int32) (len : Nat) (pl : Nat) (ord : Nat) (lr : Nat → Int32) (nu : Nat → Int32) (hsh : Int64) (i : Nat) (hx : LG x) (hw : WR x wv) (hi : i ≤ nv x.1 0) : Con g yX3_bits cX3_bits 2 (some .long) ({ frames := 2, cells := 0, slots := 0, locals := 42 } : Room) [.ref (b 0), .int (nI i)] (modelW g b x.1 wv ah pa pw ai aw sts rf tx len pl ord lr nu hsh) (Is (some (.long (FP.dadd (x.2.1 i) (x.2.2.1 i)).toInt64)) (modelW g b x.1 wv ah pa pw ai aw sts rf tx len pl ord lr nu hsh)) := by
  refine con_of_V ypl_X3_bits (Nat.le_of_ble_eq_true rfl) [(0, .ref (b 0)), (1, .int (nI i))] rfl (fun Γ ok => ?_)
  have hN := hx.1.n
  refine V_iload_n ok dX3_bits_0 rfl 1 rfl ?_
  refine V_iconst (v := nI 0) ok dX3_bits_1 rfl ?_
  refine V_aload_n ok dX3_bits_2 rfl 0 rfl ?_
  refine V_get (v := .ref (b 1)) ok 0 0 tw_X3 twf_X3_7 rfl rfl (by decide) dX3_bits_3 rfl rfl ?_
  refine V_iconst (v := nI 0) ok dX3_bits_6 rfl ?_
  refine V_iald (f := x.1) (N := 9) ok 1 0 dX3_bits_7 rfl rfl (by decide) (by decide) ?_
  refine V_top_int (b := nI (nv x.1 0)) (hx.1.n.1) ?_
  refine V_cS (v2 := some (.int (bI (wiB (nI i) (nI 0) (nI (nv x.1 0)))))) (wn := modelW g b x.1 wv ah pa pw ai aw sts rf tx len pl ord lr nu hsh) (rest := []) ok (c_X3_within g (nI i) (nI 0) (nI (nv x.1 0))) 3 twm_X3_74 tws_yX3_within twin_X3 twc_yX3_within yok_X3_within (by decide) ⟨rfl, rfl⟩ dX3_bits_8 rfl rfl (Nat.le_of_ble_eq_true rfl) ⟨Nat.zero_le _, Nat.zero_le _⟩ [] rfl rfl (Nat.le_of_ble_eq_true rfl) rfl ?_
  refine V_ifB_eq (tgt := 36) ok dX3_bits_11 (by decide) (fun h11 => absurd (wiB_t (Nat.zero_le _) hi (by omega)) h11) (fun h11 => ?_)
  refine V_aload_n ok dX3_bits_14 rfl 0 rfl ?_
  refine V_get (v := .ref (b 2)) ok 0 1 tw_X3 twf_X3_13 rfl rfl (by decide) dX3_bits_15 rfl rfl ?_
  refine V_iload_n ok dX3_bits_18 rfl 1 rfl ?_
  refine V_dald (f := wv) (N := 45) ok 2 i dX3_bits_19 rfl rfl (by omega) (by decide) ?_
  refine V_top_double (b := x.2.1 i) ((hw.1 i hi).1) ?_
  refine V_aload_n ok dX3_bits_20 rfl 0 rfl ?_
  refine V_get (v := .ref (b 2)) ok 0 1 tw_X3 twf_X3_13 rfl rfl (by decide) dX3_bits_21 rfl rfl ?_
  refine V_bipush (v := nI 11) ok dX3_bits_24 rfl ?_
  refine V_iload_n ok dX3_bits_26 rfl 1 rfl ?_
  refine V_iaddN (a := 11) (b := i) (c := 11 + i) ok dX3_bits_27 (by first | rfl | omega) ?_
  refine V_dald (f := wv) (N := 45) ok 2 (11 + i) dX3_bits_28 rfl rfl (by omega) (by decide) ?_
  refine V_top_double (b := x.2.2.1 i) ((hw.1 i hi).2.1) ?_
  refine V_dadd ok dX3_bits_29 (hx.press hi).1.n64 ?_
  refine V_cS (v2 := some (.long ((FP.dadd (x.2.1 i) (x.2.2.1 i)).toInt64))) (wn := modelW g b x.1 wv ah pa pw ai aw sts rf tx len pl ord lr nu hsh) (rest := []) ok (c_Jxe99ae_doubleToLongBits_ccdee g (FP.dadd (x.2.1 i) (x.2.2.1 i)) (hx.press hi).1.nn) 1 twm_X3_134 tws_yJxe99ae_doubleToLongBits_ccdee twin_Jxe99ae twc_yJxe99ae_doubleToLongBits_ccdee yok_Jxe99ae_doubleToLongBits_ccdee (by decide) ⟨rfl, rfl⟩ dX3_bits_30 rfl rfl (Nat.le_of_ble_eq_true rfl) ⟨Nat.zero_le _, Nat.zero_le _⟩ [] rfl rfl (Nat.le_of_ble_eq_true rfl) rfl ?_
  refine V_goto (tgt := 40) ok dX3_bits_33 (by decide) ?_
  exact V_lret ok dX3_bits_40 (Nat.zero_le _) (Nat.zero_le _) ⟨rfl, rfl⟩
set_option maxHeartbeats 4000000 in
set_option maxRecDepth 100000 in
theorem c_X3_bits_bad (g : Glob) (b : Nat → Nat) (nw : Nat → Int32) (wv : Nat → UInt64) (ah : Nat → UInt64) (pa : Nat → Int32) (pw : Nat → UInt64) (ai : Nat → Int32) (aw : Nat → UInt64) (sts : Nat) (rf : Nat → Int32) (tx : Nat → Int32) (len : Nat) (pl : Nat) (ord : Nat) (lr : Nat → Int32) (nu : Nat → Int32) (hsh : Int64) (i : Int32) (ho : ¬ wiB i (nI 0) (nw 0) = true) : Con g yX3_bits cX3_bits 2 (some .long) ({ frames := 2, cells := 0, slots := 0, locals := 42 } : Room) [.ref (b 0), .int i] (modelW g b nw wv ah pa pw ai aw sts rf tx len pl ord lr nu hsh) (Is (some (.long (-9000000000000000))) (modelW g b nw wv ah pa pw ai aw sts (rfU rf (-2)) tx len pl ord lr nu hsh)) := by
  refine con_of_V ypl_X3_bits (Nat.le_of_ble_eq_true rfl) [(0, .ref (b 0)), (1, .int i)] rfl (fun Γ ok => ?_)
  refine V_iload_n ok dX3_bits_0 rfl 1 rfl ?_
  refine V_iconst (v := nI 0) ok dX3_bits_1 rfl ?_
  refine V_aload_n ok dX3_bits_2 rfl 0 rfl ?_
  refine V_get (v := .ref (b 1)) ok 0 0 tw_X3 twf_X3_7 rfl rfl (by decide) dX3_bits_3 rfl rfl ?_
  refine V_iconst (v := nI 0) ok dX3_bits_6 rfl ?_
  refine V_iald (f := nw) (N := 9) ok 1 0 dX3_bits_7 rfl rfl (by decide) (by decide) ?_
  refine V_cS (v2 := some (.int (bI (wiB i (nI 0) (nw 0))))) (wn := modelW g b nw wv ah pa pw ai aw sts rf tx len pl ord lr nu hsh) (rest := []) ok (c_X3_within g i (nI 0) (nw 0)) 3 twm_X3_74 tws_yX3_within twin_X3 twc_yX3_within yok_X3_within (by decide) ⟨rfl, rfl⟩ dX3_bits_8 rfl rfl (Nat.le_of_ble_eq_true rfl) ⟨Nat.zero_le _, Nat.zero_le _⟩ [] rfl rfl (Nat.le_of_ble_eq_true rfl) rfl ?_
  refine V_ifB_eq (tgt := 36) ok dX3_bits_11 (by decide) (fun h11 => ?_) (fun h11 => absurd h11 ho)
  refine V_aload_n ok dX3_bits_36 rfl 0 rfl ?_
  refine V_cW (v2 := some (.long (-9000000000000000))) (w2 := modelW g b nw wv ah pa pw ai aw sts (rfU rf (-2)) tx len pl ord lr nu hsh) (rest := []) ok 0 3 (c_X3_countsLong g b nw wv ah pa pw ai aw sts rf tx len pl ord lr nu hsh) 0 twm_X3_118 twi_yX3_countsLong twv_yX3_countsLong twin_X3 twc_yX3_countsLong yok_X3_countsLong (by decide) ⟨rfl, rfl⟩ dX3_bits_37 rfl rfl rfl rfl (Nat.le_of_ble_eq_true rfl) ⟨Nat.zero_le _, Nat.zero_le _⟩ ?_
  exact V_lret ok dX3_bits_40 (Nat.zero_le _) (Nat.zero_le _) ⟨rfl, rfl⟩
set_option maxHeartbeats 4000000 in
set_option maxRecDepth 100000 in
theorem c_X3_lets_ok (g : Glob) (b : Nat → Nat) (nw : Nat → Int32) (wv : Nat → UInt64) (ah : Nat → UInt64) (pa : Nat → Int32) (pw : Nat → UInt64) (ai : Nat → Int32) (aw : Nat → UInt64) (sts : Nat) (rf : Nat → Int32) (tx : Nat → Int32) (len : Nat) (pl : Nat) (ord : Nat) (lr : Nat → Int32) (nu : Nat → Int32) (hsh : Int64) (k T t : Nat) (hl : lawB (nI k) (nI T) = true) (hk : k ≤ 5) (hT1 : 1 ≤ T) (hT2 : T ≤ 60) (ht : t ≤ 9999) (hv : VG nw) : Con g yX3_lets cX3_lets 4 (some .long) ({ frames := 2, cells := 0, slots := 0, locals := 44 } : Room) [.ref (b 0), .int (nI k), .int (nI T), .int (nI t)] (modelW g b nw wv ah pa pw ai aw sts rf tx len pl ord lr nu hsh) (Is (some (.long (tf (letF k T t (nw 2))))) (modelW g b nw wv ah pa pw ai aw sts rf tx len pl ord lr nu hsh)) := by
  refine con_of_V ypl_X3_lets (Nat.le_of_ble_eq_true rfl) [(0, .ref (b 0)), (1, .int (nI k)), (2, .int (nI T)), (3, .int (nI t))] rfl (fun Γ ok => ?_)
  refine V_aload_n ok dX3_lets_0 rfl 0 rfl ?_
  refine V_iload_n ok dX3_lets_1 rfl 1 rfl ?_
  refine V_iload_n ok dX3_lets_2 rfl 2 rfl ?_
  refine V_cW (v2 := some (.int (bI (lawB (nI k) (nI T))))) (w2 := modelW g b nw wv ah pa pw ai aw sts rf tx len pl ord lr nu hsh) (rest := []) ok 0 3 (c_X3_isLaw g b nw wv ah pa pw ai aw sts rf tx len pl ord lr nu hsh (nI k) (nI T)) 2 twm_X3_99 twi_yX3_isLaw twv_yX3_isLaw twin_X3 twc_yX3_isLaw yok_X3_isLaw (by decide) ⟨rfl, rfl⟩ dX3_lets_3 rfl rfl rfl rfl (Nat.le_of_ble_eq_true rfl) ⟨Nat.zero_le _, Nat.zero_le _⟩ ?_
  refine V_ifB_eq (tgt := 33) ok dX3_lets_6 (by decide) (fun h6 => absurd hl h6) (fun h6 => ?_)
  refine V_iload_n ok dX3_lets_9 rfl 3 rfl ?_
  refine V_iconst (v := nI 0) ok dX3_lets_10 rfl ?_
  refine V_sipush (v := nI 9999) ok dX3_lets_11 rfl ?_
  refine V_cS (v2 := some (.int (bI (wiB (nI t) (nI 0) (nI 9999))))) (wn := modelW g b nw wv ah pa pw ai aw sts rf tx len pl ord lr nu hsh) (rest := []) ok (c_X3_within g (nI t) (nI 0) (nI 9999)) 3 twm_X3_74 tws_yX3_within twin_X3 twc_yX3_within yok_X3_within (by decide) ⟨rfl, rfl⟩ dX3_lets_14 rfl rfl (Nat.le_of_ble_eq_true rfl) ⟨Nat.zero_le _, Nat.zero_le _⟩ [] rfl rfl (Nat.le_of_ble_eq_true rfl) rfl ?_
  refine V_ifB_eq (tgt := 33) ok dX3_lets_17 (by decide) (fun h17 => absurd (wiB_t (Nat.zero_le _) ht (by decide)) h17) (fun h17 => ?_)
  refine V_aload_n ok dX3_lets_20 rfl 0 rfl ?_
  refine V_iload_n ok dX3_lets_21 rfl 1 rfl ?_
  refine V_iload_n ok dX3_lets_22 rfl 2 rfl ?_
  refine V_iload_n ok dX3_lets_23 rfl 3 rfl ?_
  refine V_cW (v2 := some (.double (letF k T t (nw 2)))) (w2 := modelW g b nw wv ah pa pw ai aw sts rf tx len pl ord lr nu hsh) (rest := []) ok 0 3 (c_X3_let g b nw wv ah pa pw ai aw sts rf tx len pl ord lr nu hsh k T t hk hv.bq hT1 hT2 ht) 3 twm_X3_63 twi_yX3_let twv_yX3_let twin_X3 twc_yX3_let yok_X3_let (by decide) ⟨rfl, rfl⟩ dX3_lets_24 rfl rfl rfl rfl (Nat.le_of_ble_eq_true rfl) ⟨Nat.zero_le _, Nat.zero_le _⟩ ?_
  refine V_cS (v2 := some (.long (tf (letF k T t (nw 2))))) (wn := modelW g b nw wv ah pa pw ai aw sts rf tx len pl ord lr nu hsh) (rest := []) ok (c_X3_whole g (letF k T t (nw 2)) (letF_bd hv.bq hT2).fin) 1 twm_X3_114 tws_yX3_whole twin_X3 twc_yX3_whole yok_X3_whole (by decide) ⟨rfl, rfl⟩ dX3_lets_27 rfl rfl (Nat.le_of_ble_eq_true rfl) ⟨Nat.zero_le _, Nat.zero_le _⟩ [] rfl rfl (Nat.le_of_ble_eq_true rfl) rfl ?_
  refine V_goto (tgt := 37) ok dX3_lets_30 (by decide) ?_
  exact V_lret ok dX3_lets_37 (Nat.zero_le _) (Nat.zero_le _) ⟨rfl, rfl⟩
set_option maxHeartbeats 4000000 in
set_option maxRecDepth 100000 in
theorem c_X3_lets_bad (g : Glob) (b : Nat → Nat) (nw : Nat → Int32) (wv : Nat → UInt64) (ah : Nat → UInt64) (pa : Nat → Int32) (pw : Nat → UInt64) (ai : Nat → Int32) (aw : Nat → UInt64) (sts : Nat) (rf : Nat → Int32) (tx : Nat → Int32) (len : Nat) (pl : Nat) (ord : Nat) (lr : Nat → Int32) (nu : Nat → Int32) (hsh : Int64) (k T t : Int32) (ho : ¬ lawB k T = true ∨ ¬ wiB t (nI 0) (nI 9999) = true) : Con g yX3_lets cX3_lets 4 (some .long) ({ frames := 2, cells := 0, slots := 0, locals := 44 } : Room) [.ref (b 0), .int k, .int T, .int t] (modelW g b nw wv ah pa pw ai aw sts rf tx len pl ord lr nu hsh) (Is (some (.long (-9000000000000000))) (modelW g b nw wv ah pa pw ai aw sts (rfU rf (-2)) tx len pl ord lr nu hsh)) := by
  refine con_of_V ypl_X3_lets (Nat.le_of_ble_eq_true rfl) [(0, .ref (b 0)), (1, .int k), (2, .int T), (3, .int t)] rfl (fun Γ ok => ?_)
  refine V_aload_n ok dX3_lets_0 rfl 0 rfl ?_
  refine V_iload_n ok dX3_lets_1 rfl 1 rfl ?_
  refine V_iload_n ok dX3_lets_2 rfl 2 rfl ?_
  refine V_cW (v2 := some (.int (bI (lawB k T)))) (w2 := modelW g b nw wv ah pa pw ai aw sts rf tx len pl ord lr nu hsh) (rest := []) ok 0 3 (c_X3_isLaw g b nw wv ah pa pw ai aw sts rf tx len pl ord lr nu hsh k T) 2 twm_X3_99 twi_yX3_isLaw twv_yX3_isLaw twin_X3 twc_yX3_isLaw yok_X3_isLaw (by decide) ⟨rfl, rfl⟩ dX3_lets_3 rfl rfl rfl rfl (Nat.le_of_ble_eq_true rfl) ⟨Nat.zero_le _, Nat.zero_le _⟩ ?_
  refine V_ifB_eq (tgt := 33) ok dX3_lets_6 (by decide) (fun h6 => ?_) (fun h6 => ?_)
  · refine V_aload_n ok dX3_lets_33 rfl 0 rfl ?_
    refine V_cW (v2 := some (.long (-9000000000000000))) (w2 := modelW g b nw wv ah pa pw ai aw sts (rfU rf (-2)) tx len pl ord lr nu hsh) (rest := []) ok 0 3 (c_X3_countsLong g b nw wv ah pa pw ai aw sts rf tx len pl ord lr nu hsh) 0 twm_X3_118 twi_yX3_countsLong twv_yX3_countsLong twin_X3 twc_yX3_countsLong yok_X3_countsLong (by decide) ⟨rfl, rfl⟩ dX3_lets_34 rfl rfl rfl rfl (Nat.le_of_ble_eq_true rfl) ⟨Nat.zero_le _, Nat.zero_le _⟩ ?_
    exact V_lret ok dX3_lets_37 (Nat.zero_le _) (Nat.zero_le _) ⟨rfl, rfl⟩
  · refine V_iload_n ok dX3_lets_9 rfl 3 rfl ?_
    refine V_iconst (v := nI 0) ok dX3_lets_10 rfl ?_
    refine V_sipush (v := nI 9999) ok dX3_lets_11 rfl ?_
    refine V_cS (v2 := some (.int (bI (wiB t (nI 0) (nI 9999))))) (wn := modelW g b nw wv ah pa pw ai aw sts rf tx len pl ord lr nu hsh) (rest := []) ok (c_X3_within g t (nI 0) (nI 9999)) 3 twm_X3_74 tws_yX3_within twin_X3 twc_yX3_within yok_X3_within (by decide) ⟨rfl, rfl⟩ dX3_lets_14 rfl rfl (Nat.le_of_ble_eq_true rfl) ⟨Nat.zero_le _, Nat.zero_le _⟩ [] rfl rfl (Nat.le_of_ble_eq_true rfl) rfl ?_
    refine V_ifB_eq (tgt := 33) ok dX3_lets_17 (by decide) (fun h17 => ?_) (fun h17 => (ho.elim (fun z => absurd h6 z) (fun z => absurd h17 z)))
    refine V_aload_n ok dX3_lets_33 rfl 0 rfl ?_
    refine V_cW (v2 := some (.long (-9000000000000000))) (w2 := modelW g b nw wv ah pa pw ai aw sts (rfU rf (-2)) tx len pl ord lr nu hsh) (rest := []) ok 0 3 (c_X3_countsLong g b nw wv ah pa pw ai aw sts rf tx len pl ord lr nu hsh) 0 twm_X3_118 twi_yX3_countsLong twv_yX3_countsLong twin_X3 twc_yX3_countsLong yok_X3_countsLong (by decide) ⟨rfl, rfl⟩ dX3_lets_34 rfl rfl rfl rfl (Nat.le_of_ble_eq_true rfl) ⟨Nat.zero_le _, Nat.zero_le _⟩ ?_
    exact V_lret ok dX3_lets_37 (Nat.zero_le _) (Nat.zero_le _) ⟨rfl, rfl⟩
set_option maxHeartbeats 4000000 in
set_option maxRecDepth 100000 in
theorem c_X3_trial_ok (g : Glob) (b : Nat → Nat) (x : LineSt) (wv : Nat → UInt64) (ah : Nat → UInt64) (pa : Nat → Int32) (pw : Nat → UInt64) (ai : Nat → Int32) (aw : Nat → UInt64) (sts : Nat) (rf : Nat → Int32) (tx : Nat → Int32) (len : Nat) (pl : Nat) (ord : Nat) (lr : Nat → Int32) (nu : Nat → Int32) (hsh : Int64) (k t : Int32) (m : Nat) (sp : LineSt) (hl : lawB k t = true) (hv : VG (tryV x.1 k t)) (hm : m ≤ 100) : Con g yX3_trial cX3_trial 4 (some .long) ({ frames := 5, cells := 0, slots := 0, locals := 125 } : Room) [.ref (b 0), .int k, .int t, .int (nI m)] (modelW g b x.1 wv ah pa pw ai aw sts rf tx len pl ord lr nu hsh) (fun r_ w_ => r_ = (some (.long (tf (advL m (settleL (tryV x.1 k t, sp.2))).2.2.2.2.2.1))) ∧ ∃ ah2 : Nat → UInt64,  w_ = modelW g b x.1 wv ah2 pa pw x.1 wv sts rf tx len pl ord lr nu hsh) := by
  refine con_of_V ypl_X3_trial (Nat.le_of_ble_eq_true rfl) [(0, .ref (b 0)), (1, .int k), (2, .int t), (3, .int (nI m))] rfl (fun Γ ok => ?_)
  have hg : LG (settleL (tryV x.1 k t, sp.2)) := LG.settle hv
  have h8 : nv (settleL (tryV x.1 k t, sp.2)).1 8 = 0 := hv.steady.2.1
  refine V_aload_n ok dX3_trial_0 rfl 0 rfl ?_
  refine V_iload_n ok dX3_trial_1 rfl 1 rfl ?_
  refine V_iload_n ok dX3_trial_2 rfl 2 rfl ?_
  refine V_cW (v2 := some (.int (bI (lawB k t)))) (w2 := modelW g b x.1 wv ah pa pw ai aw sts rf tx len pl ord lr nu hsh) (rest := []) ok 0 3 (c_X3_isLaw g b x.1 wv ah pa pw ai aw sts rf tx len pl ord lr nu hsh k t) 2 twm_X3_99 twi_yX3_isLaw twv_yX3_isLaw twin_X3 twc_yX3_isLaw yok_X3_isLaw (by decide) ⟨rfl, rfl⟩ dX3_trial_3 rfl rfl rfl rfl (Nat.le_of_ble_eq_true rfl) ⟨Nat.zero_le _, Nat.zero_le _⟩ ?_
  refine V_ifB_eq (tgt := 32) ok dX3_trial_6 (by decide) (fun h6 => absurd hl h6) (fun h6 => ?_)
  refine V_iload_n ok dX3_trial_9 rfl 3 rfl ?_
  refine V_iconst (v := nI 0) ok dX3_trial_10 rfl ?_
  refine V_bipush (v := nI 100) ok dX3_trial_11 rfl ?_
  refine V_cS (v2 := some (.int (bI (wiB (nI m) (nI 0) (nI 100))))) (wn := modelW g b x.1 wv ah pa pw ai aw sts rf tx len pl ord lr nu hsh) (rest := []) ok (c_X3_within g (nI m) (nI 0) (nI 100)) 3 twm_X3_74 tws_yX3_within twin_X3 twc_yX3_within yok_X3_within (by decide) ⟨rfl, rfl⟩ dX3_trial_13 rfl rfl (Nat.le_of_ble_eq_true rfl) ⟨Nat.zero_le _, Nat.zero_le _⟩ [] rfl rfl (Nat.le_of_ble_eq_true rfl) rfl ?_
  refine V_ifB_eq (tgt := 32) ok dX3_trial_16 (by decide) (fun h16 => absurd (wiB_t (Nat.zero_le _) hm (by decide)) h16) (fun h16 => ?_)
  refine V_aload_n ok dX3_trial_19 rfl 0 rfl ?_
  refine V_iload_n ok dX3_trial_20 rfl 1 rfl ?_
  refine V_iload_n ok dX3_trial_21 rfl 2 rfl ?_
  refine V_iload_n ok dX3_trial_22 rfl 3 rfl ?_
  refine V_cX (rest := []) ok 0 3 (c_X3_tried g b x wv ah pa pw ai aw sts rf tx len pl ord lr nu hsh k t m sp hv hm) 3 twm_X3_145 twi_yX3_tried twv_yX3_tried twin_X3 twc_yX3_tried yok_X3_tried (by decide) ⟨rfl, rfl⟩ dX3_trial_23 rfl rfl rfl rfl (Nat.le_of_ble_eq_true rfl) ⟨Nat.zero_le _, Nat.zero_le _⟩ (fun v_ w_ hh => ?_)
  obtain ⟨rfl, ah23, rfl⟩ := hh
  refine V_cS (v2 := some (.long (tf ((advL m (settleL (tryV x.1 k t, sp.2))).2.2.2.2.2.1)))) (wn := modelW g b x.1 wv ah23 pa pw x.1 wv sts rf tx len pl ord lr nu hsh) (rest := []) ok (c_X3_whole g ((advL m (settleL (tryV x.1 k t, sp.2))).2.2.2.2.2.1) (hg.adv m (by omega)).1.hiF) 1 twm_X3_114 tws_yX3_whole twin_X3 twc_yX3_whole yok_X3_whole (by decide) ⟨rfl, rfl⟩ dX3_trial_26 rfl rfl (Nat.le_of_ble_eq_true rfl) ⟨Nat.zero_le _, Nat.zero_le _⟩ [] rfl rfl (Nat.le_of_ble_eq_true rfl) rfl ?_
  refine V_goto (tgt := 36) ok dX3_trial_29 (by decide) ?_
  exact V_lret ok dX3_trial_36 (Nat.zero_le _) (Nat.zero_le _) ⟨rfl, _, rfl⟩
set_option maxHeartbeats 4000000 in
set_option maxRecDepth 100000 in
theorem c_X3_trial_bad (g : Glob) (b : Nat → Nat) (nw : Nat → Int32) (wv : Nat → UInt64) (ah : Nat → UInt64) (pa : Nat → Int32) (pw : Nat → UInt64) (ai : Nat → Int32) (aw : Nat → UInt64) (sts : Nat) (rf : Nat → Int32) (tx : Nat → Int32) (len : Nat) (pl : Nat) (ord : Nat) (lr : Nat → Int32) (nu : Nat → Int32) (hsh : Int64) (k t m : Int32) (ho : ¬ lawB k t = true ∨ ¬ wiB m (nI 0) (nI 100) = true) : Con g yX3_trial cX3_trial 4 (some .long) ({ frames := 5, cells := 0, slots := 0, locals := 125 } : Room) [.ref (b 0), .int k, .int t, .int m] (modelW g b nw wv ah pa pw ai aw sts rf tx len pl ord lr nu hsh) (Is (some (.long (-9000000000000000))) (modelW g b nw wv ah pa pw ai aw sts (rfU rf (-2)) tx len pl ord lr nu hsh)) := by
  refine con_of_V ypl_X3_trial (Nat.le_of_ble_eq_true rfl) [(0, .ref (b 0)), (1, .int k), (2, .int t), (3, .int m)] rfl (fun Γ ok => ?_)
  refine V_aload_n ok dX3_trial_0 rfl 0 rfl ?_
  refine V_iload_n ok dX3_trial_1 rfl 1 rfl ?_
  refine V_iload_n ok dX3_trial_2 rfl 2 rfl ?_
  refine V_cW (v2 := some (.int (bI (lawB k t)))) (w2 := modelW g b nw wv ah pa pw ai aw sts rf tx len pl ord lr nu hsh) (rest := []) ok 0 3 (c_X3_isLaw g b nw wv ah pa pw ai aw sts rf tx len pl ord lr nu hsh k t) 2 twm_X3_99 twi_yX3_isLaw twv_yX3_isLaw twin_X3 twc_yX3_isLaw yok_X3_isLaw (by decide) ⟨rfl, rfl⟩ dX3_trial_3 rfl rfl rfl rfl (Nat.le_of_ble_eq_true rfl) ⟨Nat.zero_le _, Nat.zero_le _⟩ ?_
  refine V_ifB_eq (tgt := 32) ok dX3_trial_6 (by decide) (fun h6 => ?_) (fun h6 => ?_)
  · refine V_aload_n ok dX3_trial_32 rfl 0 rfl ?_
    refine V_cW (v2 := some (.long (-9000000000000000))) (w2 := modelW g b nw wv ah pa pw ai aw sts (rfU rf (-2)) tx len pl ord lr nu hsh) (rest := []) ok 0 3 (c_X3_countsLong g b nw wv ah pa pw ai aw sts rf tx len pl ord lr nu hsh) 0 twm_X3_118 twi_yX3_countsLong twv_yX3_countsLong twin_X3 twc_yX3_countsLong yok_X3_countsLong (by decide) ⟨rfl, rfl⟩ dX3_trial_33 rfl rfl rfl rfl (Nat.le_of_ble_eq_true rfl) ⟨Nat.zero_le _, Nat.zero_le _⟩ ?_
    exact V_lret ok dX3_trial_36 (Nat.zero_le _) (Nat.zero_le _) ⟨rfl, rfl⟩
  · refine V_iload_n ok dX3_trial_9 rfl 3 rfl ?_
    refine V_iconst (v := nI 0) ok dX3_trial_10 rfl ?_
    refine V_bipush (v := nI 100) ok dX3_trial_11 rfl ?_
    refine V_cS (v2 := some (.int (bI (wiB m (nI 0) (nI 100))))) (wn := modelW g b nw wv ah pa pw ai aw sts rf tx len pl ord lr nu hsh) (rest := []) ok (c_X3_within g m (nI 0) (nI 100)) 3 twm_X3_74 tws_yX3_within twin_X3 twc_yX3_within yok_X3_within (by decide) ⟨rfl, rfl⟩ dX3_trial_13 rfl rfl (Nat.le_of_ble_eq_true rfl) ⟨Nat.zero_le _, Nat.zero_le _⟩ [] rfl rfl (Nat.le_of_ble_eq_true rfl) rfl ?_
    refine V_ifB_eq (tgt := 32) ok dX3_trial_16 (by decide) (fun h16 => ?_) (fun h16 => (ho.elim (fun z => absurd h6 z) (fun z => absurd h16 z)))
    refine V_aload_n ok dX3_trial_32 rfl 0 rfl ?_
    refine V_cW (v2 := some (.long (-9000000000000000))) (w2 := modelW g b nw wv ah pa pw ai aw sts (rfU rf (-2)) tx len pl ord lr nu hsh) (rest := []) ok 0 3 (c_X3_countsLong g b nw wv ah pa pw ai aw sts rf tx len pl ord lr nu hsh) 0 twm_X3_118 twi_yX3_countsLong twv_yX3_countsLong twin_X3 twc_yX3_countsLong yok_X3_countsLong (by decide) ⟨rfl, rfl⟩ dX3_trial_33 rfl rfl rfl rfl (Nat.le_of_ble_eq_true rfl) ⟨Nat.zero_le _, Nat.zero_le _⟩ ?_
    exact V_lret ok dX3_trial_36 (Nat.zero_le _) (Nat.zero_le _) ⟨rfl, rfl⟩
set_option maxHeartbeats 4000000 in
set_option maxRecDepth 100000 in
theorem c_X3_soonestOf (g : Glob) (b : Nat → Nat) (x : LineSt) (wv : Nat → UInt64) (ah : Nat → UInt64) (pa : Nat → Int32) (pw : Nat → UInt64) (ai : Nat → Int32) (aw : Nat → UInt64) (sts : Nat) (rf : Nat → Int32) (tx : Nat → Int32) (len : Nat) (pl : Nat) (ord : Nat) (lr : Nat → Int32) (nu : Nat → Int32) (hsh : Int64) (k c : Int32) (m : Nat) (hv : VG x.1) (hk : okI 6 k) (hm : m ≤ 100) : Con g yX3_soonestOf cX3_soonestOf 5 (some .int) ({ frames := 5, cells := 0, slots := 0, locals := 125 } : Room) [.ref (b 0), .int k, .int c, .int (nI m)] (modelW g b x.1 wv ah pa pw ai aw sts rf tx len pl ord lr nu hsh) (fun r_ w_ => r_ = (some (.int (soonM x.1 k c m 60 1))) ∧ ∃ ai2 : Nat → Int32, ∃ aw2 : Nat → UInt64, ∃ ah2 : Nat → UInt64,  w_ = modelW g b x.1 wv ah2 pa pw ai2 aw2 sts rf tx len pl ord lr nu hsh) := by
  refine con_of_V ypl_X3_soonestOf (Nat.le_of_ble_eq_true rfl) [(0, .ref (b 0)), (1, .int k), (2, .int c), (3, .int (nI m))] rfl (fun Γ ok => ?_)
  have HL : ∀ (n i : Nat) (ai1 : Nat → Int32) (aw1 : Nat → UInt64) (ah1 : Nat → UInt64), i ≤ 60 → n = 60 - i → (soonM x.1 k c m (60 - i) (i + 1) = soonM x.1 k c m 60 1) → V g Γ 5 0 0 3 (modelW g b x.1 wv ah1 pa pw ai1 aw1 sts rf tx len pl ord lr nu hsh) [(4, .int (nI (i + 1))), (3, .int (nI m)), (2, .int c), (1, .int k), (0, .ref (b 0))] [] := by
    intro n
    induction n using Nat.strongRecOn with
    | ind n ih =>
    intro i ai1 aw1 ah1 hi hn hI
    subst hn
    refine V_iload ok dX3_soonestOf_3 0 rfl ?_
    refine V_bipush (v := nI 60) ok dX3_soonestOf_5 rfl ?_
    refine V_icmpN_gt (tgt := 33) ok dX3_soonestOf_7 (by decide) (by omega) (by omega) (fun h7 => ?_) (fun h7 => ?_)
    · refine V_iconst (v := (-1)) ok dX3_soonestOf_33 rfl ?_
      exact V_iret ok dX3_soonestOf_34 (Nat.zero_le _) (Nat.zero_le _) ⟨by rw [← hI, show 60 - i = 0 by omega]; rfl, _, _, _, rfl⟩
    · obtain ⟨hg, h8⟩ := tryL_ok hv hk (okI7 (t := i + 1) (by omega) (by omega)) ln0
      refine V_aload_n ok dX3_soonestOf_10 rfl 4 rfl ?_
      refine V_iload_n ok dX3_soonestOf_11 rfl 3 rfl ?_
      refine V_iload ok dX3_soonestOf_12 0 rfl ?_
      refine V_iload_n ok dX3_soonestOf_14 rfl 1 rfl ?_
      refine V_cX (rest := []) ok 0 3 (c_X3_tried g b x wv ah1 pa pw ai1 aw1 sts rf tx len pl ord lr nu hsh k (nI (i + 1)) m ln0 (hv.try hk (okI7 (by omega) (by omega))) hm) 3 twm_X3_145 twi_yX3_tried twv_yX3_tried twin_X3 twc_yX3_tried yok_X3_tried (by decide) ⟨rfl, rfl⟩ dX3_soonestOf_15 rfl rfl rfl rfl (Nat.le_of_ble_eq_true rfl) ⟨Nat.zero_le _, Nat.zero_le _⟩ (fun v_ w_ hh => ?_)
      obtain ⟨rfl, ah15, rfl⟩ := hh
      refine V_iload_n ok dX3_soonestOf_18 rfl 2 rfl ?_
      refine V_i2d ok dX3_soonestOf_19 ?_
      refine V_dgt (tgt := 27) ok dX3_soonestOf_20 dX3_soonestOf_21 (by decide) (hg.adv m (by omega)).1.hiN (i2d_nn c) (fun h20 => ?_) (fun h20 => ?_)
      · refine V_iinc (q := 0) (v := nI (i + 2)) (lv2 := [(4, .int (nI (i + 2))), (3, .int (nI m)), (2, .int c), (1, .int k), (0, .ref (b 0))]) ok dX3_soonestOf_27 rfl (nI_inc (i + 1) 1) (by decide) rfl ?_
        refine V_goto (tgt := 3) ok dX3_soonestOf_30 (by decide) ?_
        refine V_lv [0, 1, 2, 3, 4] rfl ?_
        exact ih (60 - (i + 1)) (by omega) (i + 1) _ _ _ (by omega) rfl (by rw [← hI, show 60 - i = (60 - (i + 1)) + 1 by omega]; exact (if_pos h20).symm)
      · refine V_iload ok dX3_soonestOf_24 0 rfl ?_
        exact V_iret ok dX3_soonestOf_26 (Nat.zero_le _) (Nat.zero_le _) ⟨by rw [← hI, show 60 - i = (60 - (i + 1)) + 1 by omega]; exact congrArg (fun z => some (Value.int z)) (if_neg h20).symm, _, _, _, rfl⟩
  refine V_iconst (v := nI 1) ok dX3_soonestOf_0 rfl ?_
  refine V_istore (lv2 := [(4, .int (nI 1)), (0, .ref (b 0)), (1, .int k), (2, .int c), (3, .int (nI m))]) ok dX3_soonestOf_1 (by decide) rfl ?_
  refine V_lv [0, 4, 3, 2, 1] rfl ?_
  exact HL 60 0 ai aw ah (by decide) rfl rfl
set_option maxHeartbeats 4000000 in
set_option maxRecDepth 100000 in
theorem c_X3_soonest_ok (g : Glob) (b : Nat → Nat) (x : LineSt) (wv : Nat → UInt64) (ah : Nat → UInt64) (pa : Nat → Int32) (pw : Nat → UInt64) (ai : Nat → Int32) (aw : Nat → UInt64) (sts : Nat) (rf : Nat → Int32) (tx : Nat → Int32) (len : Nat) (pl : Nat) (ord : Nat) (lr : Nat → Int32) (nu : Nat → Int32) (hsh : Int64) (k c : Int32) (m : Nat) (hk5 : wiB k (nI 0) (nI 5) = true) (hb : wiB c (-9999) (nI 9999) = true) (hv : VG x.1) (hk : okI 6 k) (hm : m ≤ 100) : Con g yX3_soonest cX3_soonest 4 (some .int) ({ frames := 6, cells := 0, slots := 0, locals := 149 } : Room) [.ref (b 0), .int k, .int c, .int (nI m)] (modelW g b x.1 wv ah pa pw ai aw sts rf tx len pl ord lr nu hsh) (fun r_ w_ => r_ = (some (.int (soonM x.1 k c m 60 1))) ∧ ∃ ai2 : Nat → Int32, ∃ aw2 : Nat → UInt64, ∃ ah2 : Nat → UInt64,  w_ = modelW g b x.1 wv ah2 pa pw ai2 aw2 sts rf tx len pl ord lr nu hsh) := by
  refine con_of_V ypl_X3_soonest (Nat.le_of_ble_eq_true rfl) [(0, .ref (b 0)), (1, .int k), (2, .int c), (3, .int (nI m))] rfl (fun Γ ok => ?_)
  refine V_iload_n ok dX3_soonest_0 rfl 1 rfl ?_
  refine V_iconst (v := nI 0) ok dX3_soonest_1 rfl ?_
  refine V_iconst (v := nI 5) ok dX3_soonest_2 rfl ?_
  refine V_cS (v2 := some (.int (bI (wiB k (nI 0) (nI 5))))) (wn := modelW g b x.1 wv ah pa pw ai aw sts rf tx len pl ord lr nu hsh) (rest := []) ok (c_X3_within g k (nI 0) (nI 5)) 3 twm_X3_74 tws_yX3_within twin_X3 twc_yX3_within yok_X3_within (by decide) ⟨rfl, rfl⟩ dX3_soonest_3 rfl rfl (Nat.le_of_ble_eq_true rfl) ⟨Nat.zero_le _, Nat.zero_le _⟩ [] rfl rfl (Nat.le_of_ble_eq_true rfl) rfl ?_
  refine V_ifB_eq (tgt := 42) ok dX3_soonest_6 (by decide) (fun h6 => absurd hk5 h6) (fun h6 => ?_)
  refine V_iload_n ok dX3_soonest_9 rfl 2 rfl ?_
  refine V_sipush (v := (-9999)) ok dX3_soonest_10 rfl ?_
  refine V_sipush (v := nI 9999) ok dX3_soonest_13 rfl ?_
  refine V_cS (v2 := some (.int (bI (wiB c (-9999) (nI 9999))))) (wn := modelW g b x.1 wv ah pa pw ai aw sts rf tx len pl ord lr nu hsh) (rest := []) ok (c_X3_within g c (-9999) (nI 9999)) 3 twm_X3_74 tws_yX3_within twin_X3 twc_yX3_within yok_X3_within (by decide) ⟨rfl, rfl⟩ dX3_soonest_16 rfl rfl (Nat.le_of_ble_eq_true rfl) ⟨Nat.zero_le _, Nat.zero_le _⟩ [] rfl rfl (Nat.le_of_ble_eq_true rfl) rfl ?_
  refine V_ifB_eq (tgt := 42) ok dX3_soonest_19 (by decide) (fun h19 => absurd hb h19) (fun h19 => ?_)
  refine V_iload_n ok dX3_soonest_22 rfl 3 rfl ?_
  refine V_iconst (v := nI 0) ok dX3_soonest_23 rfl ?_
  refine V_bipush (v := nI 100) ok dX3_soonest_24 rfl ?_
  refine V_cS (v2 := some (.int (bI (wiB (nI m) (nI 0) (nI 100))))) (wn := modelW g b x.1 wv ah pa pw ai aw sts rf tx len pl ord lr nu hsh) (rest := []) ok (c_X3_within g (nI m) (nI 0) (nI 100)) 3 twm_X3_74 tws_yX3_within twin_X3 twc_yX3_within yok_X3_within (by decide) ⟨rfl, rfl⟩ dX3_soonest_26 rfl rfl (Nat.le_of_ble_eq_true rfl) ⟨Nat.zero_le _, Nat.zero_le _⟩ [] rfl rfl (Nat.le_of_ble_eq_true rfl) rfl ?_
  refine V_ifB_eq (tgt := 42) ok dX3_soonest_29 (by decide) (fun h29 => absurd (wiB_t (Nat.zero_le _) hm (by decide)) h29) (fun h29 => ?_)
  refine V_aload_n ok dX3_soonest_32 rfl 0 rfl ?_
  refine V_iload_n ok dX3_soonest_33 rfl 1 rfl ?_
  refine V_iload_n ok dX3_soonest_34 rfl 2 rfl ?_
  refine V_iload_n ok dX3_soonest_35 rfl 3 rfl ?_
  refine V_cX (rest := []) ok 0 3 (c_X3_soonestOf g b x wv ah pa pw ai aw sts rf tx len pl ord lr nu hsh k c m hv hk hm) 3 twm_X3_148 twi_yX3_soonestOf twv_yX3_soonestOf twin_X3 twc_yX3_soonestOf yok_X3_soonestOf (by decide) ⟨rfl, rfl⟩ dX3_soonest_36 rfl rfl rfl rfl (Nat.le_of_ble_eq_true rfl) ⟨Nat.zero_le _, Nat.zero_le _⟩ (fun v_ w_ hh => ?_)
  obtain ⟨rfl, ai36, aw36, ah36, rfl⟩ := hh
  refine V_goto (tgt := 48) ok dX3_soonest_39 (by decide) ?_
  exact V_iret ok dX3_soonest_48 (Nat.zero_le _) (Nat.zero_le _) ⟨rfl, _, _, _, rfl⟩
set_option maxHeartbeats 4000000 in
set_option maxRecDepth 100000 in
theorem c_X3_soonest_bad (g : Glob) (b : Nat → Nat) (nw : Nat → Int32) (wv : Nat → UInt64) (ah : Nat → UInt64) (pa : Nat → Int32) (pw : Nat → UInt64) (ai : Nat → Int32) (aw : Nat → UInt64) (sts : Nat) (rf : Nat → Int32) (tx : Nat → Int32) (len : Nat) (pl : Nat) (ord : Nat) (lr : Nat → Int32) (nu : Nat → Int32) (hsh : Int64) (k c m : Int32) (ho : ¬ wiB k (nI 0) (nI 5) = true ∨ ¬ wiB c (-9999) (nI 9999) = true ∨ ¬ wiB m (nI 0) (nI 100) = true) : Con g yX3_soonest cX3_soonest 4 (some .int) ({ frames := 6, cells := 0, slots := 0, locals := 149 } : Room) [.ref (b 0), .int k, .int c, .int m] (modelW g b nw wv ah pa pw ai aw sts rf tx len pl ord lr nu hsh) (Is (some (.int (-2))) (modelW g b nw wv ah pa pw ai aw sts (rfU rf (-2)) tx len pl ord lr nu hsh)) := by
  refine con_of_V ypl_X3_soonest (Nat.le_of_ble_eq_true rfl) [(0, .ref (b 0)), (1, .int k), (2, .int c), (3, .int m)] rfl (fun Γ ok => ?_)
  refine V_iload_n ok dX3_soonest_0 rfl 1 rfl ?_
  refine V_iconst (v := nI 0) ok dX3_soonest_1 rfl ?_
  refine V_iconst (v := nI 5) ok dX3_soonest_2 rfl ?_
  refine V_cS (v2 := some (.int (bI (wiB k (nI 0) (nI 5))))) (wn := modelW g b nw wv ah pa pw ai aw sts rf tx len pl ord lr nu hsh) (rest := []) ok (c_X3_within g k (nI 0) (nI 5)) 3 twm_X3_74 tws_yX3_within twin_X3 twc_yX3_within yok_X3_within (by decide) ⟨rfl, rfl⟩ dX3_soonest_3 rfl rfl (Nat.le_of_ble_eq_true rfl) ⟨Nat.zero_le _, Nat.zero_le _⟩ [] rfl rfl (Nat.le_of_ble_eq_true rfl) rfl ?_
  refine V_ifB_eq (tgt := 42) ok dX3_soonest_6 (by decide) (fun h6 => ?_) (fun h6 => ?_)
  · refine V_aload_n ok dX3_soonest_42 rfl 0 rfl ?_
    refine V_bipush (v := (-2)) ok dX3_soonest_43 rfl ?_
    refine V_cW (v2 := some (.int (-2))) (w2 := modelW g b nw wv ah pa pw ai aw sts (rfU rf (-2)) tx len pl ord lr nu hsh) (rest := []) ok 0 3 (c_X3_counts_m2 g b nw wv ah pa pw ai aw sts rf tx len pl ord lr nu hsh) 1 twm_X3_53 twi_yX3_counts twv_yX3_counts twin_X3 twc_yX3_counts yok_X3_counts (by decide) ⟨rfl, rfl⟩ dX3_soonest_45 rfl rfl rfl rfl (Nat.le_of_ble_eq_true rfl) ⟨Nat.zero_le _, Nat.zero_le _⟩ ?_
    exact V_iret ok dX3_soonest_48 (Nat.zero_le _) (Nat.zero_le _) ⟨rfl, rfl⟩
  · refine V_iload_n ok dX3_soonest_9 rfl 2 rfl ?_
    refine V_sipush (v := (-9999)) ok dX3_soonest_10 rfl ?_
    refine V_sipush (v := nI 9999) ok dX3_soonest_13 rfl ?_
    refine V_cS (v2 := some (.int (bI (wiB c (-9999) (nI 9999))))) (wn := modelW g b nw wv ah pa pw ai aw sts rf tx len pl ord lr nu hsh) (rest := []) ok (c_X3_within g c (-9999) (nI 9999)) 3 twm_X3_74 tws_yX3_within twin_X3 twc_yX3_within yok_X3_within (by decide) ⟨rfl, rfl⟩ dX3_soonest_16 rfl rfl (Nat.le_of_ble_eq_true rfl) ⟨Nat.zero_le _, Nat.zero_le _⟩ [] rfl rfl (Nat.le_of_ble_eq_true rfl) rfl ?_
    refine V_ifB_eq (tgt := 42) ok dX3_soonest_19 (by decide) (fun h19 => ?_) (fun h19 => ?_)
    · refine V_aload_n ok dX3_soonest_42 rfl 0 rfl ?_
      refine V_bipush (v := (-2)) ok dX3_soonest_43 rfl ?_
      refine V_cW (v2 := some (.int (-2))) (w2 := modelW g b nw wv ah pa pw ai aw sts (rfU rf (-2)) tx len pl ord lr nu hsh) (rest := []) ok 0 3 (c_X3_counts_m2 g b nw wv ah pa pw ai aw sts rf tx len pl ord lr nu hsh) 1 twm_X3_53 twi_yX3_counts twv_yX3_counts twin_X3 twc_yX3_counts yok_X3_counts (by decide) ⟨rfl, rfl⟩ dX3_soonest_45 rfl rfl rfl rfl (Nat.le_of_ble_eq_true rfl) ⟨Nat.zero_le _, Nat.zero_le _⟩ ?_
      exact V_iret ok dX3_soonest_48 (Nat.zero_le _) (Nat.zero_le _) ⟨rfl, rfl⟩
    · refine V_iload_n ok dX3_soonest_22 rfl 3 rfl ?_
      refine V_iconst (v := nI 0) ok dX3_soonest_23 rfl ?_
      refine V_bipush (v := nI 100) ok dX3_soonest_24 rfl ?_
      refine V_cS (v2 := some (.int (bI (wiB m (nI 0) (nI 100))))) (wn := modelW g b nw wv ah pa pw ai aw sts rf tx len pl ord lr nu hsh) (rest := []) ok (c_X3_within g m (nI 0) (nI 100)) 3 twm_X3_74 tws_yX3_within twin_X3 twc_yX3_within yok_X3_within (by decide) ⟨rfl, rfl⟩ dX3_soonest_26 rfl rfl (Nat.le_of_ble_eq_true rfl) ⟨Nat.zero_le _, Nat.zero_le _⟩ [] rfl rfl (Nat.le_of_ble_eq_true rfl) rfl ?_
      refine V_ifB_eq (tgt := 42) ok dX3_soonest_29 (by decide) (fun h29 => ?_) (fun h29 => (ho.elim (fun z => absurd h6 z) (fun z => z.elim (fun z => absurd h19 z) (fun z => absurd h29 z))))
      refine V_aload_n ok dX3_soonest_42 rfl 0 rfl ?_
      refine V_bipush (v := (-2)) ok dX3_soonest_43 rfl ?_
      refine V_cW (v2 := some (.int (-2))) (w2 := modelW g b nw wv ah pa pw ai aw sts (rfU rf (-2)) tx len pl ord lr nu hsh) (rest := []) ok 0 3 (c_X3_counts_m2 g b nw wv ah pa pw ai aw sts rf tx len pl ord lr nu hsh) 1 twm_X3_53 twi_yX3_counts twv_yX3_counts twin_X3 twc_yX3_counts yok_X3_counts (by decide) ⟨rfl, rfl⟩ dX3_soonest_45 rfl rfl rfl rfl (Nat.le_of_ble_eq_true rfl) ⟨Nat.zero_le _, Nat.zero_le _⟩ ?_
      exact V_iret ok dX3_soonest_48 (Nat.zero_le _) (Nat.zero_le _) ⟨rfl, rfl⟩
set_option maxHeartbeats 4000000 in
set_option maxRecDepth 100000 in
theorem c_X3_best_ok (g : Glob) (b : Nat → Nat) (x : LineSt) (wv : Nat → UInt64) (ah : Nat → UInt64) (pa : Nat → Int32) (pw : Nat → UInt64) (ai : Nat → Int32) (aw : Nat → UInt64) (sts : Nat) (rf : Nat → Int32) (tx : Nat → Int32) (len : Nat) (pl : Nat) (ord : Nat) (lr : Nat → Int32) (nu : Nat → Int32) (hsh : Int64) (c : Int32) (m w : Nat) (hb : wiB c (-9999) (nI 9999) = true) (hv : VG x.1) (hm : m ≤ 100) (hw1 : w ≤ 1) : Con g yX3_best cX3_best 8 (some .int) ({ frames := 6, cells := 0, slots := 0, locals := 149 } : Room) [.ref (b 0), .int c, .int (nI m), .int (nI w)] (modelW g b x.1 wv ah pa pw ai aw sts rf tx len pl ord lr nu hsh) (fun r_ w_ => r_ = (some (.int (if w = 0 then (bestM x.1 c m 4).1 else (bestM x.1 c m 4).2))) ∧ ∃ ai2 : Nat → Int32, ∃ aw2 : Nat → UInt64, ∃ ah2 : Nat → UInt64,  w_ = modelW g b x.1 wv ah2 pa pw ai2 aw2 sts rf tx len pl ord lr nu hsh) := by
  refine con_of_V ypl_X3_best (Nat.le_of_ble_eq_true rfl) [(0, .ref (b 0)), (1, .int c), (2, .int (nI m)), (3, .int (nI w))] rfl (fun Γ ok => ?_)
  have HL : ∀ (n i : Nat) (ai1 : Nat → Int32) (aw1 : Nat → UInt64) (ah1 : Nat → UInt64), i ≤ 4 → n = 4 - i → V g Γ 8 0 0 48 (modelW g b x.1 wv ah1 pa pw ai1 aw1 sts rf tx len pl ord lr nu hsh) [(6, .int (nI (i + 1))), (5, .int ((bestM x.1 c m i).2)), (4, .int ((bestM x.1 c m i).1)), (3, .int (nI w)), (2, .int (nI m)), (1, .int c), (0, .ref (b 0))] [] := by
    intro n
    induction n using Nat.strongRecOn with
    | ind n ih =>
    intro i ai1 aw1 ah1 hi hn
    subst hn
    refine V_iload ok dX3_best_48 0 rfl ?_
    refine V_iconst (v := nI 5) ok dX3_best_50 rfl ?_
    refine V_icmpN_ge (tgt := 97) ok dX3_best_51 (by decide) (by omega) (by omega) (fun h51 => ?_) (fun h51 => ?_)
    · refine V_iload_n ok dX3_best_97 rfl 3 rfl ?_
      refine V_ifN_ne (tgt := 106) ok dX3_best_98 (by decide) (by omega) (fun h98 => ?_) (fun h98 => ?_)
      · refine V_iload ok dX3_best_106 1 rfl ?_
        exact V_iret ok dX3_best_108 (Nat.zero_le _) (Nat.zero_le _) ⟨by rw [if_neg h98, show i = 4 by omega], _, _, _, rfl⟩
      · refine V_iload ok dX3_best_101 2 rfl ?_
        refine V_goto (tgt := 108) ok dX3_best_103 (by decide) ?_
        exact V_iret ok dX3_best_108 (Nat.zero_le _) (Nat.zero_le _) ⟨by rw [if_pos h98, show i = 4 by omega], _, _, _, rfl⟩
    · refine V_aload_n ok dX3_best_54 rfl 6 rfl ?_
      refine V_iload ok dX3_best_55 0 rfl ?_
      refine V_iload_n ok dX3_best_57 rfl 5 rfl ?_
      refine V_iload_n ok dX3_best_58 rfl 4 rfl ?_
      refine V_cX (rest := []) ok 0 3 (c_X3_soonestOf g b x wv ah1 pa pw ai1 aw1 sts rf tx len pl ord lr nu hsh (nI (i + 1)) c m hv (okI6 (by omega)) hm) 3 twm_X3_148 twi_yX3_soonestOf twv_yX3_soonestOf twin_X3 twc_yX3_soonestOf yok_X3_soonestOf (by decide) ⟨rfl, rfl⟩ dX3_best_59 rfl rfl rfl rfl (Nat.le_of_ble_eq_true rfl) ⟨Nat.zero_le _, Nat.zero_le _⟩ (fun v_ w_ hh => ?_)
      obtain ⟨rfl, ai59, aw59, ah59, rfl⟩ := hh
      refine V_istore (lv2 := [(7, .int (soonM x.1 (nI (i + 1)) c m 60 1)), (6, .int (nI (i + 1))), (5, .int ((bestM x.1 c m i).2)), (4, .int ((bestM x.1 c m i).1)), (3, .int (nI w)), (2, .int (nI m)), (1, .int c), (0, .ref (b 0))]) ok dX3_best_62 (by decide) rfl ?_
      refine V_iload ok dX3_best_64 0 rfl ?_
      refine V_iconst (v := (-1)) ok dX3_best_66 rfl ?_
      refine V_icmp_eq (tgt := 91) ok dX3_best_67 (by decide) (fun h67 => ?_) (fun h67 => ?_)
      · refine V_iinc (q := 1) (v := nI (i + 2)) (lv2 := [(6, .int (nI (i + 2))), (7, .int (soonM x.1 (nI (i + 1)) c m 60 1)), (5, .int ((bestM x.1 c m i).2)), (4, .int ((bestM x.1 c m i).1)), (3, .int (nI w)), (2, .int (nI m)), (1, .int c), (0, .ref (b 0))]) ok dX3_best_91 rfl (nI_inc (i + 1) 1) (by decide) rfl ?_
        refine V_goto (tgt := 48) ok dX3_best_94 (by decide) ?_
        refine V_lv [0, 2, 3, 4, 5, 6, 7] rfl ?_
        have e : bestM x.1 c m (i + 1) = bestM x.1 c m i := by
          show (if _ then _ else _) = _
          first
            | exact if_pos h67
            | (rw [if_neg h67]; exact if_pos h73)
            | (rw [if_neg h67, if_neg h73]; exact if_neg (Int32.not_lt.mpr h80))
            | (rw [if_neg h67, if_neg h73]; exact if_pos (Int32.not_le.mp h80))
        have hz := ih (4 - (i + 1)) (by omega) (i + 1) ai59 aw59 ah59 (by omega) rfl
        rw [e] at hz
        exact hz
      · refine V_iload ok dX3_best_70 2 rfl ?_
        refine V_iconst (v := (-1)) ok dX3_best_72 rfl ?_
        refine V_icmp_eq (tgt := 83) ok dX3_best_73 (by decide) (fun h73 => ?_) (fun h73 => ?_)
        · refine V_iload ok dX3_best_83 1 rfl ?_
          refine V_istore (lv2 := [(4, .int (nI (i + 1))), (7, .int (soonM x.1 (nI (i + 1)) c m 60 1)), (6, .int (nI (i + 1))), (5, .int ((bestM x.1 c m i).2)), (3, .int (nI w)), (2, .int (nI m)), (1, .int c), (0, .ref (b 0))]) ok dX3_best_85 (by decide) rfl ?_
          refine V_iload ok dX3_best_87 1 rfl ?_
          refine V_istore (lv2 := [(5, .int (soonM x.1 (nI (i + 1)) c m 60 1)), (4, .int (nI (i + 1))), (7, .int (soonM x.1 (nI (i + 1)) c m 60 1)), (6, .int (nI (i + 1))), (3, .int (nI w)), (2, .int (nI m)), (1, .int c), (0, .ref (b 0))]) ok dX3_best_89 (by decide) rfl ?_
          refine V_iinc (q := 3) (v := nI (i + 2)) (lv2 := [(6, .int (nI (i + 2))), (5, .int (soonM x.1 (nI (i + 1)) c m 60 1)), (4, .int (nI (i + 1))), (7, .int (soonM x.1 (nI (i + 1)) c m 60 1)), (3, .int (nI w)), (2, .int (nI m)), (1, .int c), (0, .ref (b 0))]) ok dX3_best_91 rfl (nI_inc (i + 1) 1) (by decide) rfl ?_
          refine V_goto (tgt := 48) ok dX3_best_94 (by decide) ?_
          refine V_lv [0, 1, 2, 4, 5, 6, 7] rfl ?_
          have e : bestM x.1 c m (i + 1) = (nI (i + 1), soonM x.1 (nI (i + 1)) c m 60 1) := by
            show (if _ then _ else _) = _
            first
              | exact if_pos h67
              | (rw [if_neg h67]; exact if_pos h73)
              | (rw [if_neg h67, if_neg h73]; exact if_neg (Int32.not_lt.mpr h80))
              | (rw [if_neg h67, if_neg h73]; exact if_pos (Int32.not_le.mp h80))
          have hz := ih (4 - (i + 1)) (by omega) (i + 1) ai59 aw59 ah59 (by omega) rfl
          rw [e] at hz
          exact hz
        · refine V_iload ok dX3_best_76 0 rfl ?_
          refine V_iload ok dX3_best_78 2 rfl ?_
          refine V_icmp_ge (tgt := 91) ok dX3_best_80 (by decide) (fun h80 => ?_) (fun h80 => ?_)
          · refine V_iinc (q := 1) (v := nI (i + 2)) (lv2 := [(6, .int (nI (i + 2))), (7, .int (soonM x.1 (nI (i + 1)) c m 60 1)), (5, .int ((bestM x.1 c m i).2)), (4, .int ((bestM x.1 c m i).1)), (3, .int (nI w)), (2, .int (nI m)), (1, .int c), (0, .ref (b 0))]) ok dX3_best_91 rfl (nI_inc (i + 1) 1) (by decide) rfl ?_
            refine V_goto (tgt := 48) ok dX3_best_94 (by decide) ?_
            refine V_lv [0, 2, 3, 4, 5, 6, 7] rfl ?_
            have e : bestM x.1 c m (i + 1) = bestM x.1 c m i := by
              show (if _ then _ else _) = _
              first
                | exact if_pos h67
                | (rw [if_neg h67]; exact if_pos h73)
                | (rw [if_neg h67, if_neg h73]; exact if_neg (Int32.not_lt.mpr h80))
                | (rw [if_neg h67, if_neg h73]; exact if_pos (Int32.not_le.mp h80))
            have hz := ih (4 - (i + 1)) (by omega) (i + 1) ai59 aw59 ah59 (by omega) rfl
            rw [e] at hz
            exact hz
          · refine V_iload ok dX3_best_83 1 rfl ?_
            refine V_istore (lv2 := [(4, .int (nI (i + 1))), (7, .int (soonM x.1 (nI (i + 1)) c m 60 1)), (6, .int (nI (i + 1))), (5, .int ((bestM x.1 c m i).2)), (3, .int (nI w)), (2, .int (nI m)), (1, .int c), (0, .ref (b 0))]) ok dX3_best_85 (by decide) rfl ?_
            refine V_iload ok dX3_best_87 1 rfl ?_
            refine V_istore (lv2 := [(5, .int (soonM x.1 (nI (i + 1)) c m 60 1)), (4, .int (nI (i + 1))), (7, .int (soonM x.1 (nI (i + 1)) c m 60 1)), (6, .int (nI (i + 1))), (3, .int (nI w)), (2, .int (nI m)), (1, .int c), (0, .ref (b 0))]) ok dX3_best_89 (by decide) rfl ?_
            refine V_iinc (q := 3) (v := nI (i + 2)) (lv2 := [(6, .int (nI (i + 2))), (5, .int (soonM x.1 (nI (i + 1)) c m 60 1)), (4, .int (nI (i + 1))), (7, .int (soonM x.1 (nI (i + 1)) c m 60 1)), (3, .int (nI w)), (2, .int (nI m)), (1, .int c), (0, .ref (b 0))]) ok dX3_best_91 rfl (nI_inc (i + 1) 1) (by decide) rfl ?_
            refine V_goto (tgt := 48) ok dX3_best_94 (by decide) ?_
            refine V_lv [0, 1, 2, 4, 5, 6, 7] rfl ?_
            have e : bestM x.1 c m (i + 1) = (nI (i + 1), soonM x.1 (nI (i + 1)) c m 60 1) := by
              show (if _ then _ else _) = _
              first
                | exact if_pos h67
                | (rw [if_neg h67]; exact if_pos h73)
                | (rw [if_neg h67, if_neg h73]; exact if_neg (Int32.not_lt.mpr h80))
                | (rw [if_neg h67, if_neg h73]; exact if_pos (Int32.not_le.mp h80))
            have hz := ih (4 - (i + 1)) (by omega) (i + 1) ai59 aw59 ah59 (by omega) rfl
            rw [e] at hz
            exact hz
  refine V_iload_n ok dX3_best_0 rfl 1 rfl ?_
  refine V_sipush (v := (-9999)) ok dX3_best_1 rfl ?_
  refine V_sipush (v := nI 9999) ok dX3_best_4 rfl ?_
  refine V_cS (v2 := some (.int (bI (wiB c (-9999) (nI 9999))))) (wn := modelW g b x.1 wv ah pa pw ai aw sts rf tx len pl ord lr nu hsh) (rest := []) ok (c_X3_within g c (-9999) (nI 9999)) 3 twm_X3_74 tws_yX3_within twin_X3 twc_yX3_within yok_X3_within (by decide) ⟨rfl, rfl⟩ dX3_best_7 rfl rfl (Nat.le_of_ble_eq_true rfl) ⟨Nat.zero_le _, Nat.zero_le _⟩ [] rfl rfl (Nat.le_of_ble_eq_true rfl) rfl ?_
  refine V_ifB_eq (tgt := 32) ok dX3_best_10 (by decide) (fun h10 => absurd hb h10) (fun h10 => ?_)
  refine V_iload_n ok dX3_best_13 rfl 2 rfl ?_
  refine V_iconst (v := nI 0) ok dX3_best_14 rfl ?_
  refine V_bipush (v := nI 100) ok dX3_best_15 rfl ?_
  refine V_cS (v2 := some (.int (bI (wiB (nI m) (nI 0) (nI 100))))) (wn := modelW g b x.1 wv ah pa pw ai aw sts rf tx len pl ord lr nu hsh) (rest := []) ok (c_X3_within g (nI m) (nI 0) (nI 100)) 3 twm_X3_74 tws_yX3_within twin_X3 twc_yX3_within yok_X3_within (by decide) ⟨rfl, rfl⟩ dX3_best_17 rfl rfl (Nat.le_of_ble_eq_true rfl) ⟨Nat.zero_le _, Nat.zero_le _⟩ [] rfl rfl (Nat.le_of_ble_eq_true rfl) rfl ?_
  refine V_ifB_eq (tgt := 32) ok dX3_best_20 (by decide) (fun h20 => absurd (wiB_t (Nat.zero_le _) hm (by decide)) h20) (fun h20 => ?_)
  refine V_iload_n ok dX3_best_23 rfl 3 rfl ?_
  refine V_iconst (v := nI 0) ok dX3_best_24 rfl ?_
  refine V_iconst (v := nI 1) ok dX3_best_25 rfl ?_
  refine V_cS (v2 := some (.int (bI (wiB (nI w) (nI 0) (nI 1))))) (wn := modelW g b x.1 wv ah pa pw ai aw sts rf tx len pl ord lr nu hsh) (rest := []) ok (c_X3_within g (nI w) (nI 0) (nI 1)) 3 twm_X3_74 tws_yX3_within twin_X3 twc_yX3_within yok_X3_within (by decide) ⟨rfl, rfl⟩ dX3_best_26 rfl rfl (Nat.le_of_ble_eq_true rfl) ⟨Nat.zero_le _, Nat.zero_le _⟩ [] rfl rfl (Nat.le_of_ble_eq_true rfl) rfl ?_
  refine V_ifB_ne (tgt := 39) ok dX3_best_29 (by decide) (fun h29 => ?_) (fun h29 => absurd (wiB_t (Nat.zero_le _) hw1 (by decide)) h29)
  refine V_iconst (v := (-1)) ok dX3_best_39 rfl ?_
  refine V_istore (lv2 := [(4, .int (-1)), (0, .ref (b 0)), (1, .int c), (2, .int (nI m)), (3, .int (nI w))]) ok dX3_best_40 (by decide) rfl ?_
  refine V_iconst (v := (-1)) ok dX3_best_42 rfl ?_
  refine V_istore (lv2 := [(5, .int (-1)), (4, .int (-1)), (0, .ref (b 0)), (1, .int c), (2, .int (nI m)), (3, .int (nI w))]) ok dX3_best_43 (by decide) rfl ?_
  refine V_iconst (v := nI 1) ok dX3_best_45 rfl ?_
  refine V_istore (lv2 := [(6, .int (nI 1)), (5, .int (-1)), (4, .int (-1)), (0, .ref (b 0)), (1, .int c), (2, .int (nI m)), (3, .int (nI w))]) ok dX3_best_46 (by decide) rfl ?_
  refine V_lv [0, 1, 2, 6, 5, 4, 3] rfl ?_
  exact HL 4 0 ai aw ah (by decide) rfl
set_option maxHeartbeats 4000000 in
set_option maxRecDepth 100000 in
theorem c_X3_best_bad (g : Glob) (b : Nat → Nat) (nw : Nat → Int32) (wv : Nat → UInt64) (ah : Nat → UInt64) (pa : Nat → Int32) (pw : Nat → UInt64) (ai : Nat → Int32) (aw : Nat → UInt64) (sts : Nat) (rf : Nat → Int32) (tx : Nat → Int32) (len : Nat) (pl : Nat) (ord : Nat) (lr : Nat → Int32) (nu : Nat → Int32) (hsh : Int64) (c m w : Int32) (ho : ¬ wiB c (-9999) (nI 9999) = true ∨ ¬ wiB m (nI 0) (nI 100) = true ∨ ¬ wiB w (nI 0) (nI 1) = true) : Con g yX3_best cX3_best 8 (some .int) ({ frames := 6, cells := 0, slots := 0, locals := 149 } : Room) [.ref (b 0), .int c, .int m, .int w] (modelW g b nw wv ah pa pw ai aw sts rf tx len pl ord lr nu hsh) (Is (some (.int (-2))) (modelW g b nw wv ah pa pw ai aw sts (rfU rf (-2)) tx len pl ord lr nu hsh)) := by
  refine con_of_V ypl_X3_best (Nat.le_of_ble_eq_true rfl) [(0, .ref (b 0)), (1, .int c), (2, .int m), (3, .int w)] rfl (fun Γ ok => ?_)
  refine V_iload_n ok dX3_best_0 rfl 1 rfl ?_
  refine V_sipush (v := (-9999)) ok dX3_best_1 rfl ?_
  refine V_sipush (v := nI 9999) ok dX3_best_4 rfl ?_
  refine V_cS (v2 := some (.int (bI (wiB c (-9999) (nI 9999))))) (wn := modelW g b nw wv ah pa pw ai aw sts rf tx len pl ord lr nu hsh) (rest := []) ok (c_X3_within g c (-9999) (nI 9999)) 3 twm_X3_74 tws_yX3_within twin_X3 twc_yX3_within yok_X3_within (by decide) ⟨rfl, rfl⟩ dX3_best_7 rfl rfl (Nat.le_of_ble_eq_true rfl) ⟨Nat.zero_le _, Nat.zero_le _⟩ [] rfl rfl (Nat.le_of_ble_eq_true rfl) rfl ?_
  refine V_ifB_eq (tgt := 32) ok dX3_best_10 (by decide) (fun h10 => ?_) (fun h10 => ?_)
  · refine V_aload_n ok dX3_best_32 rfl 0 rfl ?_
    refine V_bipush (v := (-2)) ok dX3_best_33 rfl ?_
    refine V_cW (v2 := some (.int (-2))) (w2 := modelW g b nw wv ah pa pw ai aw sts (rfU rf (-2)) tx len pl ord lr nu hsh) (rest := []) ok 0 3 (c_X3_counts_m2 g b nw wv ah pa pw ai aw sts rf tx len pl ord lr nu hsh) 1 twm_X3_53 twi_yX3_counts twv_yX3_counts twin_X3 twc_yX3_counts yok_X3_counts (by decide) ⟨rfl, rfl⟩ dX3_best_35 rfl rfl rfl rfl (Nat.le_of_ble_eq_true rfl) ⟨Nat.zero_le _, Nat.zero_le _⟩ ?_
    exact V_iret ok dX3_best_38 (Nat.zero_le _) (Nat.zero_le _) ⟨rfl, rfl⟩
  · refine V_iload_n ok dX3_best_13 rfl 2 rfl ?_
    refine V_iconst (v := nI 0) ok dX3_best_14 rfl ?_
    refine V_bipush (v := nI 100) ok dX3_best_15 rfl ?_
    refine V_cS (v2 := some (.int (bI (wiB m (nI 0) (nI 100))))) (wn := modelW g b nw wv ah pa pw ai aw sts rf tx len pl ord lr nu hsh) (rest := []) ok (c_X3_within g m (nI 0) (nI 100)) 3 twm_X3_74 tws_yX3_within twin_X3 twc_yX3_within yok_X3_within (by decide) ⟨rfl, rfl⟩ dX3_best_17 rfl rfl (Nat.le_of_ble_eq_true rfl) ⟨Nat.zero_le _, Nat.zero_le _⟩ [] rfl rfl (Nat.le_of_ble_eq_true rfl) rfl ?_
    refine V_ifB_eq (tgt := 32) ok dX3_best_20 (by decide) (fun h20 => ?_) (fun h20 => ?_)
    · refine V_aload_n ok dX3_best_32 rfl 0 rfl ?_
      refine V_bipush (v := (-2)) ok dX3_best_33 rfl ?_
      refine V_cW (v2 := some (.int (-2))) (w2 := modelW g b nw wv ah pa pw ai aw sts (rfU rf (-2)) tx len pl ord lr nu hsh) (rest := []) ok 0 3 (c_X3_counts_m2 g b nw wv ah pa pw ai aw sts rf tx len pl ord lr nu hsh) 1 twm_X3_53 twi_yX3_counts twv_yX3_counts twin_X3 twc_yX3_counts yok_X3_counts (by decide) ⟨rfl, rfl⟩ dX3_best_35 rfl rfl rfl rfl (Nat.le_of_ble_eq_true rfl) ⟨Nat.zero_le _, Nat.zero_le _⟩ ?_
      exact V_iret ok dX3_best_38 (Nat.zero_le _) (Nat.zero_le _) ⟨rfl, rfl⟩
    · refine V_iload_n ok dX3_best_23 rfl 3 rfl ?_
      refine V_iconst (v := nI 0) ok dX3_best_24 rfl ?_
      refine V_iconst (v := nI 1) ok dX3_best_25 rfl ?_
      refine V_cS (v2 := some (.int (bI (wiB w (nI 0) (nI 1))))) (wn := modelW g b nw wv ah pa pw ai aw sts rf tx len pl ord lr nu hsh) (rest := []) ok (c_X3_within g w (nI 0) (nI 1)) 3 twm_X3_74 tws_yX3_within twin_X3 twc_yX3_within yok_X3_within (by decide) ⟨rfl, rfl⟩ dX3_best_26 rfl rfl (Nat.le_of_ble_eq_true rfl) ⟨Nat.zero_le _, Nat.zero_le _⟩ [] rfl rfl (Nat.le_of_ble_eq_true rfl) rfl ?_
      refine V_ifB_ne (tgt := 39) ok dX3_best_29 (by decide) (fun h29 => (ho.elim (fun z => absurd h10 z) (fun z => z.elim (fun z => absurd h20 z) (fun z => absurd h29 z)))) (fun h29 => ?_)
      refine V_aload_n ok dX3_best_32 rfl 0 rfl ?_
      refine V_bipush (v := (-2)) ok dX3_best_33 rfl ?_
      refine V_cW (v2 := some (.int (-2))) (w2 := modelW g b nw wv ah pa pw ai aw sts (rfU rf (-2)) tx len pl ord lr nu hsh) (rest := []) ok 0 3 (c_X3_counts_m2 g b nw wv ah pa pw ai aw sts rf tx len pl ord lr nu hsh) 1 twm_X3_53 twi_yX3_counts twv_yX3_counts twin_X3 twc_yX3_counts yok_X3_counts (by decide) ⟨rfl, rfl⟩ dX3_best_35 rfl rfl rfl rfl (Nat.le_of_ble_eq_true rfl) ⟨Nat.zero_le _, Nat.zero_le _⟩ ?_
      exact V_iret ok dX3_best_38 (Nat.zero_le _) (Nat.zero_le _) ⟨rfl, rfl⟩
set_option maxHeartbeats 4000000 in
set_option maxRecDepth 100000 in
theorem c_X3_type_bad (g : Glob) (b : Nat → Nat) (nw : Nat → Int32) (wv : Nat → UInt64) (ah : Nat → UInt64) (pa : Nat → Int32) (pw : Nat → UInt64) (ai : Nat → Int32) (aw : Nat → UInt64) (sts : Nat) (rf : Nat → Int32) (tx : Nat → Int32) (len : Nat) (pl : Nat) (ord : Nat) (lr : Nat → Int32) (nu : Nat → Int32) (hsh : Int64) (c : Int32) (ho : ¬ wiB c (nI 0) (nI 127) = true) : Con g yX3_type cX3_type 2 (some .int) ({ frames := 1, cells := 0, slots := 0, locals := 22 } : Room) [.ref (b 0), .int c] (modelW g b nw wv ah pa pw ai aw sts rf tx len pl ord lr nu hsh) (Is (some (.int (-2))) (modelW g b nw wv ah pa pw ai aw sts (rfU rf (-2)) tx len pl ord lr nu hsh)) := by
  refine con_of_V ypl_X3_type (Nat.le_of_ble_eq_true rfl) [(0, .ref (b 0)), (1, .int c)] rfl (fun Γ ok => ?_)
  refine V_iload_n ok dX3_type_0 rfl 1 rfl ?_
  refine V_iconst (v := nI 0) ok dX3_type_1 rfl ?_
  refine V_bipush (v := nI 127) ok dX3_type_2 rfl ?_
  refine V_cS (v2 := some (.int (bI (wiB c (nI 0) (nI 127))))) (wn := modelW g b nw wv ah pa pw ai aw sts rf tx len pl ord lr nu hsh) (rest := []) ok (c_X3_within g c (nI 0) (nI 127)) 3 twm_X3_74 tws_yX3_within twin_X3 twc_yX3_within yok_X3_within (by decide) ⟨rfl, rfl⟩ dX3_type_4 rfl rfl (Nat.le_of_ble_eq_true rfl) ⟨Nat.zero_le _, Nat.zero_le _⟩ [] rfl rfl (Nat.le_of_ble_eq_true rfl) rfl ?_
  refine V_ifB_ne (tgt := 17) ok dX3_type_7 (by decide) (fun h7 => absurd h7 ho) (fun h7 => ?_)
  refine V_aload_n ok dX3_type_10 rfl 0 rfl ?_
  refine V_bipush (v := (-2)) ok dX3_type_11 rfl ?_
  refine V_cW (v2 := some (.int (-2))) (w2 := modelW g b nw wv ah pa pw ai aw sts (rfU rf (-2)) tx len pl ord lr nu hsh) (rest := []) ok 0 3 (c_X3_counts_m2 g b nw wv ah pa pw ai aw sts rf tx len pl ord lr nu hsh) 1 twm_X3_53 twi_yX3_counts twv_yX3_counts twin_X3 twc_yX3_counts yok_X3_counts (by decide) ⟨rfl, rfl⟩ dX3_type_13 rfl rfl rfl rfl (Nat.le_of_ble_eq_true rfl) ⟨Nat.zero_le _, Nat.zero_le _⟩ ?_
  exact V_iret ok dX3_type_16 (Nat.zero_le _) (Nat.zero_le _) ⟨rfl, rfl⟩
set_option maxHeartbeats 4000000 in
set_option maxRecDepth 100000 in
theorem c_X3_type_full (g : Glob) (b : Nat → Nat) (nw : Nat → Int32) (wv : Nat → UInt64) (ah : Nat → UInt64) (pa : Nat → Int32) (pw : Nat → UInt64) (ai : Nat → Int32) (aw : Nat → UInt64) (sts : Nat) (rf : Nat → Int32) (tx : Nat → Int32) (len : Nat) (pl : Nat) (ord : Nat) (lr : Nat → Int32) (nu : Nat → Int32) (hsh : Int64) (c : Int32) (ho : wiB c (nI 0) (nI 127) = true) (hl : len = 100) : Con g yX3_type cX3_type 2 (some .int) ({ frames := 1, cells := 0, slots := 0, locals := 22 } : Room) [.ref (b 0), .int c] (modelW g b nw wv ah pa pw ai aw sts rf tx len pl ord lr nu hsh) (Is (some (.int (-4))) (modelW g b nw wv ah pa pw ai aw sts (rfU rf (-4)) tx len pl ord lr nu hsh)) := by
  refine con_of_V ypl_X3_type (Nat.le_of_ble_eq_true rfl) [(0, .ref (b 0)), (1, .int c)] rfl (fun Γ ok => ?_)
  refine V_iload_n ok dX3_type_0 rfl 1 rfl ?_
  refine V_iconst (v := nI 0) ok dX3_type_1 rfl ?_
  refine V_bipush (v := nI 127) ok dX3_type_2 rfl ?_
  refine V_cS (v2 := some (.int (bI (wiB c (nI 0) (nI 127))))) (wn := modelW g b nw wv ah pa pw ai aw sts rf tx len pl ord lr nu hsh) (rest := []) ok (c_X3_within g c (nI 0) (nI 127)) 3 twm_X3_74 tws_yX3_within twin_X3 twc_yX3_within yok_X3_within (by decide) ⟨rfl, rfl⟩ dX3_type_4 rfl rfl (Nat.le_of_ble_eq_true rfl) ⟨Nat.zero_le _, Nat.zero_le _⟩ [] rfl rfl (Nat.le_of_ble_eq_true rfl) rfl ?_
  refine V_ifB_ne (tgt := 17) ok dX3_type_7 (by decide) (fun h7 => ?_) (fun h7 => absurd ho h7)
  refine V_aload_n ok dX3_type_17 rfl 0 rfl ?_
  refine V_get (v := .int (nI len)) ok 0 10 tw_X3 twf_X3_152 rfl rfl (by decide) dX3_type_18 rfl rfl ?_
  refine V_bipush (v := nI 100) ok dX3_type_21 rfl ?_
  refine V_icmpN_ne (tgt := 33) ok dX3_type_23 (by decide) (by omega) (by omega) (fun h23 => absurd hl h23) (fun h23 => ?_)
  refine V_aload_n ok dX3_type_26 rfl 0 rfl ?_
  refine V_bipush (v := (-4)) ok dX3_type_27 rfl ?_
  refine V_cW (v2 := some (.int (-4))) (w2 := modelW g b nw wv ah pa pw ai aw sts (rfU rf (-4)) tx len pl ord lr nu hsh) (rest := []) ok 0 3 (c_X3_counts_m4 g b nw wv ah pa pw ai aw sts rf tx len pl ord lr nu hsh) 1 twm_X3_53 twi_yX3_counts twv_yX3_counts twin_X3 twc_yX3_counts yok_X3_counts (by decide) ⟨rfl, rfl⟩ dX3_type_29 rfl rfl rfl rfl (Nat.le_of_ble_eq_true rfl) ⟨Nat.zero_le _, Nat.zero_le _⟩ ?_
  exact V_iret ok dX3_type_32 (Nat.zero_le _) (Nat.zero_le _) ⟨rfl, rfl⟩
set_option maxHeartbeats 4000000 in
set_option maxRecDepth 100000 in
theorem c_X3_type_ok (g : Glob) (b : Nat → Nat) (nw : Nat → Int32) (wv : Nat → UInt64) (ah : Nat → UInt64) (pa : Nat → Int32) (pw : Nat → UInt64) (ai : Nat → Int32) (aw : Nat → UInt64) (sts : Nat) (rf : Nat → Int32) (tx : Nat → Int32) (len : Nat) (pl : Nat) (ord : Nat) (lr : Nat → Int32) (nu : Nat → Int32) (hsh : Int64) (c : Int32) (ho : wiB c (nI 0) (nI 127) = true) (hl : len < 100) : Con g yX3_type cX3_type 2 (some .int) ({ frames := 1, cells := 0, slots := 0, locals := 22 } : Room) [.ref (b 0), .int c] (modelW g b nw wv ah pa pw ai aw sts rf tx len pl ord lr nu hsh) (Is (some (.int (nI (len + 1)))) (modelW g b nw wv ah pa pw ai aw sts rf (upd tx len c) (len + 1) pl ord lr nu hsh)) := by
  refine con_of_V ypl_X3_type (Nat.le_of_ble_eq_true rfl) [(0, .ref (b 0)), (1, .int c)] rfl (fun Γ ok => ?_)
  refine V_iload_n ok dX3_type_0 rfl 1 rfl ?_
  refine V_iconst (v := nI 0) ok dX3_type_1 rfl ?_
  refine V_bipush (v := nI 127) ok dX3_type_2 rfl ?_
  refine V_cS (v2 := some (.int (bI (wiB c (nI 0) (nI 127))))) (wn := modelW g b nw wv ah pa pw ai aw sts rf tx len pl ord lr nu hsh) (rest := []) ok (c_X3_within g c (nI 0) (nI 127)) 3 twm_X3_74 tws_yX3_within twin_X3 twc_yX3_within yok_X3_within (by decide) ⟨rfl, rfl⟩ dX3_type_4 rfl rfl (Nat.le_of_ble_eq_true rfl) ⟨Nat.zero_le _, Nat.zero_le _⟩ [] rfl rfl (Nat.le_of_ble_eq_true rfl) rfl ?_
  refine V_ifB_ne (tgt := 17) ok dX3_type_7 (by decide) (fun h7 => ?_) (fun h7 => absurd ho h7)
  refine V_aload_n ok dX3_type_17 rfl 0 rfl ?_
  refine V_get (v := .int (nI len)) ok 0 10 tw_X3 twf_X3_152 rfl rfl (by decide) dX3_type_18 rfl rfl ?_
  refine V_bipush (v := nI 100) ok dX3_type_21 rfl ?_
  refine V_icmpN_ne (tgt := 33) ok dX3_type_23 (by decide) (by omega) (by omega) (fun h23 => ?_) (fun h23 => absurd h23 (by omega))
  refine V_aload_n ok dX3_type_33 rfl 0 rfl ?_
  refine V_get (v := .ref (b 9)) ok 0 9 tw_X3 twf_X3_35 rfl rfl (by decide) dX3_type_34 rfl rfl ?_
  refine V_aload_n ok dX3_type_37 rfl 0 rfl ?_
  refine V_get (v := .int (nI len)) ok 0 10 tw_X3 twf_X3_152 rfl rfl (by decide) dX3_type_38 rfl rfl ?_
  refine V_iload_n ok dX3_type_41 rfl 1 rfl ?_
  refine V_iast (f := tx) (N := 100) (w2 := modelW g b nw wv ah pa pw ai aw sts rf (upd tx len c) len pl ord lr nu hsh) ok 9 len dX3_type_42 rfl rfl (by omega) (by decide) rfl ?_
  refine V_aload_n ok dX3_type_43 rfl 0 rfl ?_
  refine V_dup ok dX3_type_44 rfl ?_
  refine V_get (v := .int (nI len)) ok 0 10 tw_X3 twf_X3_152 rfl rfl (by decide) dX3_type_45 rfl rfl ?_
  refine V_iconst (v := nI 1) ok dX3_type_48 rfl ?_
  refine V_iaddN (a := len) (b := 1) (c := len + 1) ok dX3_type_49 (by first | rfl | omega) ?_
  refine V_put (w2 := modelW g b nw wv ah pa pw ai aw sts rf (upd tx len c) (len + 1) pl ord lr nu hsh) ok 0 10 tw_X3 tyX3 tyX3_ok nmX3 twf_X3_152 rfl rfl (by decide) rfl rfl dX3_type_50 rfl rfl rfl (Nat.lt_of_lt_of_eq (m := 16) (by decide) rfl) rfl ?_
  refine V_aload_n ok dX3_type_53 rfl 0 rfl ?_
  refine V_get (v := .int (nI (len + 1))) ok 0 10 tw_X3 twf_X3_152 rfl rfl (by decide) dX3_type_54 rfl rfl ?_
  exact V_iret ok dX3_type_57 (Nat.zero_le _) (Nat.zero_le _) ⟨rfl, rfl⟩
set_option maxHeartbeats 4000000 in
set_option maxRecDepth 100000 in
theorem c_X3_clear (g : Glob) (b : Nat → Nat) (nw : Nat → Int32) (wv : Nat → UInt64) (ah : Nat → UInt64) (pa : Nat → Int32) (pw : Nat → UInt64) (ai : Nat → Int32) (aw : Nat → UInt64) (sts : Nat) (rf : Nat → Int32) (tx : Nat → Int32) (len : Nat) (pl : Nat) (ord : Nat) (lr : Nat → Int32) (nu : Nat → Int32) (hsh : Int64)  : Con g yX3_clear cX3_clear 2 (some .int) ({ frames := 0, cells := 0, slots := 0, locals := 0 } : Room) [.ref (b 0)] (modelW g b nw wv ah pa pw ai aw sts rf tx len pl ord lr nu hsh) (Is (some (.int (nI len))) (modelW g b nw wv ah pa pw ai aw sts rf tx 0 pl ord lr nu hsh)) := by
  refine con_of_V ypl_X3_clear (Nat.le_of_ble_eq_true rfl) [(0, .ref (b 0))] rfl (fun Γ ok => ?_)
  refine V_aload_n ok dX3_clear_0 rfl 0 rfl ?_
  refine V_get (v := .int (nI len)) ok 0 10 tw_X3 twf_X3_152 rfl rfl (by decide) dX3_clear_1 rfl rfl ?_
  refine V_istore_n (lv2 := [(1, .int (nI len)), (0, .ref (b 0))]) ok dX3_clear_4 rfl (by decide) rfl ?_
  refine V_aload_n ok dX3_clear_5 rfl 1 rfl ?_
  refine V_iconst (v := nI 0) ok dX3_clear_6 rfl ?_
  refine V_put (w2 := modelW g b nw wv ah pa pw ai aw sts rf tx 0 pl ord lr nu hsh) ok 0 10 tw_X3 tyX3 tyX3_ok nmX3 twf_X3_152 rfl rfl (by decide) rfl rfl dX3_clear_7 rfl rfl rfl (Nat.lt_of_lt_of_eq (m := 16) (by decide) rfl) rfl ?_
  refine V_iload_n ok dX3_clear_10 rfl 0 rfl ?_
  exact V_iret ok dX3_clear_11 (Nat.zero_le _) (Nat.zero_le _) ⟨rfl, rfl⟩
set_option maxHeartbeats 4000000 in
set_option maxRecDepth 100000 in
theorem c_X3_back_none (g : Glob) (b : Nat → Nat) (nw : Nat → Int32) (wv : Nat → UInt64) (ah : Nat → UInt64) (pa : Nat → Int32) (pw : Nat → UInt64) (ai : Nat → Int32) (aw : Nat → UInt64) (sts : Nat) (rf : Nat → Int32) (tx : Nat → Int32) (len : Nat) (pl : Nat) (ord : Nat) (lr : Nat → Int32) (nu : Nat → Int32) (hsh : Int64) (h0 : sts = 0) : Con g yX3_back cX3_back 1 (some .int) ({ frames := 1, cells := 0, slots := 0, locals := 22 } : Room) [.ref (b 0)] (modelW g b nw wv ah pa pw ai aw sts rf tx len pl ord lr nu hsh) (Is (some (.int (-3))) (modelW g b nw wv ah pa pw ai aw sts (rfU rf (-3)) tx len pl ord lr nu hsh)) := by
  refine con_of_V ypl_X3_back (Nat.le_of_ble_eq_true rfl) [(0, .ref (b 0))] rfl (fun Γ ok => ?_)
  refine V_aload_n ok dX3_back_0 rfl 0 rfl ?_
  refine V_get (v := .int (nI sts)) ok 0 7 tw_X3 twf_X3_49 rfl rfl (by decide) dX3_back_1 rfl rfl ?_
  refine V_ifN_ne (tgt := 14) ok dX3_back_4 (by decide) (by omega) (fun h4 => absurd h0 h4) (fun h4 => ?_)
  refine V_aload_n ok dX3_back_7 rfl 0 rfl ?_
  refine V_bipush (v := (-3)) ok dX3_back_8 rfl ?_
  refine V_cW (v2 := some (.int (-3))) (w2 := modelW g b nw wv ah pa pw ai aw sts (rfU rf (-3)) tx len pl ord lr nu hsh) (rest := []) ok 0 3 (c_X3_counts_m3 g b nw wv ah pa pw ai aw sts rf tx len pl ord lr nu hsh) 1 twm_X3_53 twi_yX3_counts twv_yX3_counts twin_X3 twc_yX3_counts yok_X3_counts (by decide) ⟨rfl, rfl⟩ dX3_back_10 rfl rfl rfl rfl (Nat.le_of_ble_eq_true rfl) ⟨Nat.zero_le _, Nat.zero_le _⟩ ?_
  exact V_iret ok dX3_back_13 (Nat.zero_le _) (Nat.zero_le _) ⟨rfl, rfl⟩
set_option maxHeartbeats 4000000 in
set_option maxRecDepth 100000 in
theorem c_X3_back_ok (g : Glob) (b : Nat → Nat) (nw : Nat → Int32) (wv : Nat → UInt64) (ah : Nat → UInt64) (pa : Nat → Int32) (pw : Nat → UInt64) (ai : Nat → Int32) (aw : Nat → UInt64) (sts : Nat) (rf : Nat → Int32) (tx : Nat → Int32) (len : Nat) (pl : Nat) (ord : Nat) (lr : Nat → Int32) (nu : Nat → Int32) (hsh : Int64) (s : Nat) (y : LineSt) (hs : sts = s + 1) (hs4 : s < 4) (hy : ∀ j, j < 9 → pa (9 * s + j) = y.1 j) : Con g yX3_back cX3_back 1 (some .int) ({ frames := 1, cells := 0, slots := 0, locals := 22 } : Room) [.ref (b 0)] (modelW g b nw wv ah pa pw ai aw sts rf tx len pl ord lr nu hsh) (Is (some (.int (nI s))) (modelW g b y.1 (fun j => pw (45 * s + j)) ah pa pw ai aw s rf tx len pl ord lr nu hsh)) := by
  refine con_of_V ypl_X3_back (Nat.le_of_ble_eq_true rfl) [(0, .ref (b 0))] rfl (fun Γ ok => ?_)
  refine V_aload_n ok dX3_back_0 rfl 0 rfl ?_
  refine V_get (v := .int (nI sts)) ok 0 7 tw_X3 twf_X3_49 rfl rfl (by decide) dX3_back_1 rfl rfl ?_
  refine V_ifN_ne (tgt := 14) ok dX3_back_4 (by decide) (by omega) (fun h4 => ?_) (fun h4 => absurd h4 (by omega))
  refine V_aload_n ok dX3_back_14 rfl 0 rfl ?_
  refine V_dup ok dX3_back_15 rfl ?_
  refine V_get (v := .int (nI sts)) ok 0 7 tw_X3 twf_X3_49 rfl rfl (by decide) dX3_back_16 rfl rfl ?_
  refine V_iconst (v := nI 1) ok dX3_back_19 rfl ?_
  refine V_isubN (a := sts) (b := 1) (c := s) ok dX3_back_20 (by omega) (by omega) ?_
  refine V_put (w2 := modelW g b nw wv ah pa pw ai aw s rf tx len pl ord lr nu hsh) ok 0 7 tw_X3 tyX3 tyX3_ok nmX3 twf_X3_49 rfl rfl (by decide) rfl rfl dX3_back_21 rfl rfl rfl (Nat.lt_of_lt_of_eq (m := 16) (by decide) rfl) rfl ?_
  refine V_aload_n ok dX3_back_24 rfl 0 rfl ?_
  refine V_aload_n ok dX3_back_25 rfl 0 rfl ?_
  refine V_get (v := .int (nI s)) ok 0 7 tw_X3 twf_X3_49 rfl rfl (by decide) dX3_back_26 rfl rfl ?_
  refine V_cW (v2 := none) (w2 := modelW g b (fun j => pa (9 * s + j)) (fun j => pw (45 * s + j)) ah pa pw ai aw s rf tx len pl ord lr nu hsh) (rest := []) ok 0 3 (c_X3_becomesPast g b nw wv ah pa pw ai aw s rf tx len pl ord lr nu hsh s hs4) 1 twm_X3_57 twi_yX3_becomesPast twv_yX3_becomesPast twin_X3 twc_yX3_becomesPast yok_X3_becomesPast (by decide) ⟨rfl, rfl⟩ dX3_back_29 rfl rfl rfl rfl (Nat.le_of_ble_eq_true rfl) ⟨Nat.zero_le _, Nat.zero_le _⟩ ?_
  refine V_ci (f := (fun j => pa (9 * s + j))) (f2 := y.1) (N := 9) (w2 := modelW g b y.1 (fun j => pw (45 * s + j)) ah pa pw ai aw s rf tx len pl ord lr nu hsh) 1 rfl hy rfl ?_
  refine V_aload_n ok dX3_back_32 rfl 0 rfl ?_
  refine V_get (v := .int (nI s)) ok 0 7 tw_X3 twf_X3_49 rfl rfl (by decide) dX3_back_33 rfl rfl ?_
  exact V_iret ok dX3_back_36 (Nat.zero_le _) (Nat.zero_le _) ⟨rfl, rfl⟩
set_option maxHeartbeats 4000000 in
set_option maxRecDepth 100000 in
theorem c_X3_toldIs (g : Glob) (b : Nat → Nat) (nw : Nat → Int32) (wv : Nat → UInt64) (ah : Nat → UInt64) (pa : Nat → Int32) (pw : Nat → UInt64) (ai : Nat → Int32) (aw : Nat → UInt64) (sts : Nat) (rf : Nat → Int32) (tx : Nat → Int32) (len : Nat) (pl : Nat) (ord : Nat) (lr : Nat → Int32) (nu : Nat → Int32) (hsh : Int64) (w : Nat) (hw : w ≤ 13) : Con g yX3_toldIs cX3_toldIs 2 (some .int) ({ frames := 0, cells := 0, slots := 0, locals := 0 } : Room) [.ref (b 0), .int (nI w)] (modelW g b nw wv ah pa pw ai aw sts rf tx len pl ord lr nu hsh) (Is (some (.int (toldV nw rf len sts w))) (modelW g b nw wv ah pa pw ai aw sts rf tx len pl ord lr nu hsh)) := by
  refine con_of_V ypl_X3_toldIs (Nat.le_of_ble_eq_true rfl) [(0, .ref (b 0)), (1, .int (nI w))] rfl (fun Γ ok => ?_)
  refine V_iload_n ok dX3_toldIs_0 rfl 1 rfl ?_
  refine V_iconst (v := nI 3) ok dX3_toldIs_1 rfl ?_
  refine V_icmpN_ge (tgt := 12) ok dX3_toldIs_2 (by decide) (by omega) (by omega) (fun h2 => ?_) (fun h2 => ?_)
  · refine V_iload_n ok dX3_toldIs_12 rfl 1 rfl ?_
    refine V_iconst (v := nI 3) ok dX3_toldIs_13 rfl ?_
    refine V_icmpN_ne (tgt := 24) ok dX3_toldIs_14 (by decide) (by omega) (by omega) (fun h14 => ?_) (fun h14 => ?_)
    · refine V_iload_n ok dX3_toldIs_24 rfl 1 rfl ?_
      refine V_bipush (v := nI 13) ok dX3_toldIs_25 rfl ?_
      refine V_icmpN_ge (tgt := 41) ok dX3_toldIs_27 (by decide) (by omega) (by omega) (fun h27 => ?_) (fun h27 => ?_)
      · refine V_aload_n ok dX3_toldIs_41 rfl 0 rfl ?_
        refine V_get (v := .int (nI sts)) ok 0 7 tw_X3 twf_X3_49 rfl rfl (by decide) dX3_toldIs_42 rfl rfl ?_
        exact V_iret ok dX3_toldIs_45 (Nat.zero_le _) (Nat.zero_le _) ⟨by rw [toldV, if_neg (by omega), if_neg h14, if_pos (show w = 13 by omega)], rfl⟩
      · refine V_aload_n ok dX3_toldIs_30 rfl 0 rfl ?_
        refine V_get (v := .ref (b 1)) ok 0 0 tw_X3 twf_X3_7 rfl rfl (by decide) dX3_toldIs_31 rfl rfl ?_
        refine V_iload_n ok dX3_toldIs_34 rfl 1 rfl ?_
        refine V_iconst (v := nI 4) ok dX3_toldIs_35 rfl ?_
        refine V_isubN (a := w) (b := 4) (c := w - 4) ok dX3_toldIs_36 (by omega) (by omega) ?_
        refine V_iald (f := nw) (N := 9) ok 1 (w - 4) dX3_toldIs_37 rfl rfl (by omega) (by decide) ?_
        refine V_goto (tgt := 45) ok dX3_toldIs_38 (by decide) ?_
        exact V_iret ok dX3_toldIs_45 (Nat.zero_le _) (Nat.zero_le _) ⟨by rw [toldV, if_neg (by omega), if_neg h14, if_neg (show ¬ w = 13 by omega)], rfl⟩
    · refine V_aload_n ok dX3_toldIs_17 rfl 0 rfl ?_
      refine V_get (v := .int (nI len)) ok 0 10 tw_X3 twf_X3_152 rfl rfl (by decide) dX3_toldIs_18 rfl rfl ?_
      refine V_goto (tgt := 45) ok dX3_toldIs_21 (by decide) ?_
      exact V_iret ok dX3_toldIs_45 (Nat.zero_le _) (Nat.zero_le _) ⟨by rw [toldV, if_neg (by omega), if_pos h14], rfl⟩
  · refine V_aload_n ok dX3_toldIs_5 rfl 0 rfl ?_
    refine V_get (v := .ref (b 8)) ok 0 8 tw_X3 twf_X3_32 rfl rfl (by decide) dX3_toldIs_6 rfl rfl ?_
    refine V_iload_n ok dX3_toldIs_9 rfl 1 rfl ?_
    refine V_iald (f := rf) (N := 3) ok 8 w dX3_toldIs_10 rfl rfl (by omega) (by decide) ?_
    exact V_iret ok dX3_toldIs_11 (Nat.zero_le _) (Nat.zero_le _) ⟨by rw [toldV, if_pos (by omega)], rfl⟩
set_option maxHeartbeats 4000000 in
set_option maxRecDepth 100000 in
theorem c_X3_told_ok (g : Glob) (b : Nat → Nat) (nw : Nat → Int32) (wv : Nat → UInt64) (ah : Nat → UInt64) (pa : Nat → Int32) (pw : Nat → UInt64) (ai : Nat → Int32) (aw : Nat → UInt64) (sts : Nat) (rf : Nat → Int32) (tx : Nat → Int32) (len : Nat) (pl : Nat) (ord : Nat) (lr : Nat → Int32) (nu : Nat → Int32) (hsh : Int64) (w : Nat) (hw : w ≤ 13) : Con g yX3_told cX3_told 2 (some .int) ({ frames := 1, cells := 0, slots := 0, locals := 22 } : Room) [.ref (b 0), .int (nI w)] (modelW g b nw wv ah pa pw ai aw sts rf tx len pl ord lr nu hsh) (Is (some (.int (toldV nw rf len sts w))) (modelW g b nw wv ah pa pw ai aw sts rf tx len pl ord lr nu hsh)) := by
  refine con_of_V ypl_X3_told (Nat.le_of_ble_eq_true rfl) [(0, .ref (b 0)), (1, .int (nI w))] rfl (fun Γ ok => ?_)
  refine V_iload_n ok dX3_told_0 rfl 1 rfl ?_
  refine V_iconst (v := nI 0) ok dX3_told_1 rfl ?_
  refine V_bipush (v := nI 13) ok dX3_told_2 rfl ?_
  refine V_cS (v2 := some (.int (bI (wiB (nI w) (nI 0) (nI 13))))) (wn := modelW g b nw wv ah pa pw ai aw sts rf tx len pl ord lr nu hsh) (rest := []) ok (c_X3_within g (nI w) (nI 0) (nI 13)) 3 twm_X3_74 tws_yX3_within twin_X3 twc_yX3_within yok_X3_within (by decide) ⟨rfl, rfl⟩ dX3_told_4 rfl rfl (Nat.le_of_ble_eq_true rfl) ⟨Nat.zero_le _, Nat.zero_le _⟩ [] rfl rfl (Nat.le_of_ble_eq_true rfl) rfl ?_
  refine V_ifB_eq (tgt := 18) ok dX3_told_7 (by decide) (fun h7 => absurd (wiB_t (Nat.zero_le _) hw (by decide)) h7) (fun h7 => ?_)
  refine V_aload_n ok dX3_told_10 rfl 0 rfl ?_
  refine V_iload_n ok dX3_told_11 rfl 1 rfl ?_
  refine V_cW (v2 := some (.int (toldV nw rf len sts w))) (w2 := modelW g b nw wv ah pa pw ai aw sts rf tx len pl ord lr nu hsh) (rest := []) ok 0 3 (c_X3_toldIs g b nw wv ah pa pw ai aw sts rf tx len pl ord lr nu hsh w hw) 1 twm_X3_188 twi_yX3_toldIs twv_yX3_toldIs twin_X3 twc_yX3_toldIs yok_X3_toldIs (by decide) ⟨rfl, rfl⟩ dX3_told_12 rfl rfl rfl rfl (Nat.le_of_ble_eq_true rfl) ⟨Nat.zero_le _, Nat.zero_le _⟩ ?_
  refine V_goto (tgt := 24) ok dX3_told_15 (by decide) ?_
  exact V_iret ok dX3_told_24 (Nat.zero_le _) (Nat.zero_le _) ⟨rfl, rfl⟩
set_option maxHeartbeats 4000000 in
set_option maxRecDepth 100000 in
theorem c_X3_told_bad (g : Glob) (b : Nat → Nat) (nw : Nat → Int32) (wv : Nat → UInt64) (ah : Nat → UInt64) (pa : Nat → Int32) (pw : Nat → UInt64) (ai : Nat → Int32) (aw : Nat → UInt64) (sts : Nat) (rf : Nat → Int32) (tx : Nat → Int32) (len : Nat) (pl : Nat) (ord : Nat) (lr : Nat → Int32) (nu : Nat → Int32) (hsh : Int64) (q : Int32) (ho : ¬ wiB q (nI 0) (nI 13) = true) : Con g yX3_told cX3_told 2 (some .int) ({ frames := 1, cells := 0, slots := 0, locals := 22 } : Room) [.ref (b 0), .int q] (modelW g b nw wv ah pa pw ai aw sts rf tx len pl ord lr nu hsh) (Is (some (.int (-2))) (modelW g b nw wv ah pa pw ai aw sts (rfU rf (-2)) tx len pl ord lr nu hsh)) := by
  refine con_of_V ypl_X3_told (Nat.le_of_ble_eq_true rfl) [(0, .ref (b 0)), (1, .int q)] rfl (fun Γ ok => ?_)
  refine V_iload_n ok dX3_told_0 rfl 1 rfl ?_
  refine V_iconst (v := nI 0) ok dX3_told_1 rfl ?_
  refine V_bipush (v := nI 13) ok dX3_told_2 rfl ?_
  refine V_cS (v2 := some (.int (bI (wiB q (nI 0) (nI 13))))) (wn := modelW g b nw wv ah pa pw ai aw sts rf tx len pl ord lr nu hsh) (rest := []) ok (c_X3_within g q (nI 0) (nI 13)) 3 twm_X3_74 tws_yX3_within twin_X3 twc_yX3_within yok_X3_within (by decide) ⟨rfl, rfl⟩ dX3_told_4 rfl rfl (Nat.le_of_ble_eq_true rfl) ⟨Nat.zero_le _, Nat.zero_le _⟩ [] rfl rfl (Nat.le_of_ble_eq_true rfl) rfl ?_
  refine V_ifB_eq (tgt := 18) ok dX3_told_7 (by decide) (fun h7 => ?_) (fun h7 => absurd h7 ho)
  refine V_aload_n ok dX3_told_18 rfl 0 rfl ?_
  refine V_bipush (v := (-2)) ok dX3_told_19 rfl ?_
  refine V_cW (v2 := some (.int (-2))) (w2 := modelW g b nw wv ah pa pw ai aw sts (rfU rf (-2)) tx len pl ord lr nu hsh) (rest := []) ok 0 3 (c_X3_counts_m2 g b nw wv ah pa pw ai aw sts rf tx len pl ord lr nu hsh) 1 twm_X3_53 twi_yX3_counts twv_yX3_counts twin_X3 twc_yX3_counts yok_X3_counts (by decide) ⟨rfl, rfl⟩ dX3_told_21 rfl rfl rfl rfl (Nat.le_of_ble_eq_true rfl) ⟨Nat.zero_le _, Nat.zero_le _⟩ ?_
  exact V_iret ok dX3_told_24 (Nat.zero_le _) (Nat.zero_le _) ⟨rfl, rfl⟩
set_option maxHeartbeats 4000000 in
set_option maxRecDepth 100000 in
theorem c_X3_mix (g : Glob) (b : Nat → Nat) (nw : Nat → Int32) (wv : Nat → UInt64) (ah : Nat → UInt64) (pa : Nat → Int32) (pw : Nat → UInt64) (ai : Nat → Int32) (aw : Nat → UInt64) (sts : Nat) (rf : Nat → Int32) (tx : Nat → Int32) (len : Nat) (pl : Nat) (ord : Nat) (lr : Nat → Int32) (nu : Nat → Int32) (hsh : Int64) (v : Int64) : Con g yX3_mix cX3_mix 3 none ({ frames := 0, cells := 0, slots := 0, locals := 0 } : Room) [.ref (b 0), .long v] (modelW g b nw wv ah pa pw ai aw sts rf tx len pl ord lr nu hsh) (Is none (modelW g b nw wv ah pa pw ai aw sts rf tx len pl ord lr nu (31 * hsh + v))) := by
  refine con_of_V ypl_X3_mix (Nat.le_of_ble_eq_true rfl) [(0, .ref (b 0)), (1, .long v)] rfl (fun Γ ok => ?_)
  refine V_aload_n ok dX3_mix_0 rfl 0 rfl ?_
  refine V_ldc2l ok twl_X3_191 dX3_mix_1 ?_
  refine V_aload_n ok dX3_mix_4 rfl 0 rfl ?_
  refine V_get (v := .long hsh) ok 0 15 tw_X3 twf_X3_193 rfl rfl (by decide) dX3_mix_5 rfl rfl ?_
  refine V_lmul ok dX3_mix_8 ?_
  refine V_lload_n ok dX3_mix_9 rfl 1 rfl ?_
  refine V_ladd ok dX3_mix_10 ?_
  refine V_put (w2 := modelW g b nw wv ah pa pw ai aw sts rf tx len pl ord lr nu ((31 * hsh) + v)) ok 0 15 tw_X3 tyX3 tyX3_ok nmX3 twf_X3_193 rfl rfl (by decide) rfl rfl dX3_mix_11 rfl rfl rfl (Nat.lt_of_lt_of_eq (m := 16) (by decide) rfl) rfl ?_
  exact V_vret ok dX3_mix_14 (Nat.zero_le _) (Nat.zero_le _) ⟨rfl, rfl⟩
