set_option maxHeartbeats 4000000 in
set_option maxRecDepth 100000 in
/-- does it fit -/
theorem c_X0_fits (g : Glob) (w u : Int32) : Con g yX0_fits cX0_fits 2 (some .boolean) ({ frames := 0, cells := 0, slots := 0, locals := 0 } : Room) [.int w, .int u] ([]) (Is (some (.int (bI (fitsB w u)))) []) := by
  refine con_of_V ypl_X0_fits (Nat.le_of_ble_eq_true rfl) [(0, .int w), (1, .int u)] rfl (fun Γ ok => ?_)
  rcases pk_ix w (n := 8) (by decide) with hw | hw | ⟨j, hj, rfl⟩
  · refine V_iload_n ok dX0_fits_0 rfl 0 rfl ?_
    refine V_if_lt (tgt := 34) ok dX0_fits_1 (by decide) (fun h1 => ?_) (fun h1 => absurd hw h1)
    refine V_iconst (v := nI 0) ok dX0_fits_34 rfl ?_
    exact V_zret ok dX0_fits_35 (Nat.zero_le _) (Nat.zero_le _) rfl ⟨bI_f (by simp [fitsB, hw]), rfl⟩
  · refine V_iload_n ok dX0_fits_0 rfl 0 rfl ?_
    refine V_if_lt (tgt := 34) ok dX0_fits_1 (by decide) (fun h1 => (Int32.lt_irrefl (Int32.lt_of_lt_of_le h1 (Int32.le_trans (show (0 : Int32) ≤ nI 8 by decide) hw))).elim) (fun h1 => ?_)
    refine V_iload_n ok dX0_fits_4 rfl 0 rfl ?_
    refine V_getsLO ok twf_X0_29 dX0_fits_5 (fun sA5 sA5_X sA5_A sA5_z => ?_)
    refine V_salen ok sA5_X sA5_A sA5_z dX0_fits_8 ?_
    refine V_icmp_ge (tgt := 34) ok dX0_fits_9 (by decide) (fun h9 => ?_) (fun h9 => absurd hw h9)
    refine V_iconst (v := nI 0) ok dX0_fits_34 rfl ?_
    exact V_zret ok dX0_fits_35 (Nat.zero_le _) (Nat.zero_le _) rfl ⟨bI_f (by simp [fitsB, hw]), rfl⟩
  · refine V_iload_n ok dX0_fits_0 rfl 0 rfl ?_
    refine V_ifN_lt (tgt := 34) ok dX0_fits_1 (by decide) (by omega) ?_
    refine V_iload_n ok dX0_fits_4 rfl 0 rfl ?_
    refine V_getsLO ok twf_X0_29 dX0_fits_5 (fun sA5 sA5_X sA5_A sA5_z => ?_)
    refine V_salen ok sA5_X sA5_A sA5_z dX0_fits_8 ?_
    refine V_icmpN_ge (tgt := 34) ok dX0_fits_9 (by decide) (by omega) (by omega) (fun h9 => absurd h9 (by omega)) (fun h9 => ?_)
    refine V_iload_n ok dX0_fits_12 rfl 1 rfl ?_
    refine V_getsLO ok twf_X0_29 dX0_fits_13 (fun sA13 sA13_X sA13_A sA13_z => ?_)
    refine V_iload_n ok dX0_fits_16 rfl 0 rfl ?_
    refine V_sald (f := sLO) ok j sA13_X sA13_A sA13_z dX0_fits_17 rfl hj (by decide) ?_
    refine V_icmp_lt (tgt := 34) ok dX0_fits_18 (by decide) (fun h18 => ?_) (fun h18 => ?_)
    · refine V_iconst (v := nI 0) ok dX0_fits_34 rfl ?_
      exact V_zret ok dX0_fits_35 (Nat.zero_le _) (Nat.zero_le _) rfl ⟨bI_f (by simp only [fitsB, nI_clamp (show j < 2 ^ 31 by omega)]; rw [if_neg (nI_pos (by omega)), if_neg (nI_ge hj (by decide)), if_pos h18]), rfl⟩
    · refine V_iload_n ok dX0_fits_21 rfl 1 rfl ?_
      refine V_getsHI ok twf_X0_32 dX0_fits_22 (fun sA22 sA22_X sA22_A sA22_z => ?_)
      refine V_iload_n ok dX0_fits_25 rfl 0 rfl ?_
      refine V_sald (f := sHI) ok j sA22_X sA22_A sA22_z dX0_fits_26 rfl hj (by decide) ?_
      refine V_icmp_gt (tgt := 34) ok dX0_fits_27 (by decide) (fun h27 => ?_) (fun h27 => ?_)
      · refine V_iconst (v := nI 0) ok dX0_fits_34 rfl ?_
        exact V_zret ok dX0_fits_35 (Nat.zero_le _) (Nat.zero_le _) rfl ⟨bI_f (by simp only [fitsB, nI_clamp (show j < 2 ^ 31 by omega)]; rw [if_neg (nI_pos (by omega)), if_neg (nI_ge hj (by decide)), if_neg h18, if_pos h27]), rfl⟩
      · refine V_iconst (v := nI 1) ok dX0_fits_30 rfl ?_
        refine V_goto (tgt := 35) ok dX0_fits_31 (by decide) ?_
        exact V_zret ok dX0_fits_35 (Nat.zero_le _) (Nat.zero_le _) rfl ⟨bI_t (by simp only [fitsB, nI_clamp (show j < 2 ^ 31 by omega)]; rw [if_neg (nI_pos (by omega)), if_neg (nI_ge hj (by decide)), if_neg h18, if_neg h27]), rfl⟩
def isLawB (k t : Int32) : Bool := if fitsB (nI 6) k = true then (if fitsB (nI 7) t = true then true else false) else false
set_option maxHeartbeats 4000000 in
set_option maxRecDepth 100000 in
/-- is it a law -/
theorem c_X0_isLaw (g : Glob) (k t : Int32) : Con g yX0_isLaw cX0_isLaw 2 (some .boolean) ({ frames := 1, cells := 0, slots := 0, locals := 21 } : Room) [.int k, .int t] ([]) (Is (some (.int (bI (isLawB k t)))) []) := by
  refine con_of_V ypl_X0_isLaw (Nat.le_of_ble_eq_true rfl) [(0, .int k), (1, .int t)] rfl (fun Γ ok => ?_)
  refine V_bipush (v := nI 6) ok dX0_isLaw_0 rfl ?_
  refine V_iload_n ok dX0_isLaw_2 rfl 0 rfl ?_
  refine V_cS (v2 := some (.int (bI (fitsB (nI 6) k)))) (wn := []) (rest := []) ok (c_X0_fits g (nI 6) k) 2 twm_X0_35 tws_yX0_fits twin_X0 twc_yX0_fits yok_X0_fits (by decide) ⟨rfl, rfl⟩ dX0_isLaw_3 rfl rfl (Nat.le_of_ble_eq_true rfl) ⟨Nat.zero_le _, Nat.zero_le _⟩ [] rfl rfl (Nat.le_of_ble_eq_true rfl) rfl ?_
  refine V_ifB_eq (tgt := 22) ok dX0_isLaw_6 (by decide) (fun h6 => ?_) (fun h6 => ?_)
  · refine V_iconst (v := nI 0) ok dX0_isLaw_22 rfl ?_
    exact V_zret ok dX0_isLaw_23 (Nat.zero_le _) (Nat.zero_le _) rfl ⟨bI_f (by simp only [isLawB]; rw [if_neg h6]), rfl⟩
  · refine V_bipush (v := nI 7) ok dX0_isLaw_9 rfl ?_
    refine V_iload_n ok dX0_isLaw_11 rfl 1 rfl ?_
    refine V_cS (v2 := some (.int (bI (fitsB (nI 7) t)))) (wn := []) (rest := []) ok (c_X0_fits g (nI 7) t) 2 twm_X0_35 tws_yX0_fits twin_X0 twc_yX0_fits yok_X0_fits (by decide) ⟨rfl, rfl⟩ dX0_isLaw_12 rfl rfl (Nat.le_of_ble_eq_true rfl) ⟨Nat.zero_le _, Nat.zero_le _⟩ [] rfl rfl (Nat.le_of_ble_eq_true rfl) rfl ?_
    refine V_ifB_eq (tgt := 22) ok dX0_isLaw_15 (by decide) (fun h15 => ?_) (fun h15 => ?_)
    · refine V_iconst (v := nI 0) ok dX0_isLaw_22 rfl ?_
      exact V_zret ok dX0_isLaw_23 (Nat.zero_le _) (Nat.zero_le _) rfl ⟨bI_f (by simp only [isLawB]; rw [if_pos h6, if_neg h15]), rfl⟩
    · refine V_iconst (v := nI 1) ok dX0_isLaw_18 rfl ?_
      refine V_goto (tgt := 23) ok dX0_isLaw_19 (by decide) ?_
      exact V_zret ok dX0_isLaw_23 (Nat.zero_le _) (Nat.zero_le _) rfl ⟨bI_t (by simp only [isLawB]; rw [if_pos h6, if_pos h15]), rfl⟩
set_option maxHeartbeats 4000000 in
set_option maxRecDepth 100000 in
/-- what a law lets -/
theorem c_X0_letBy (g : Glob) (k : Nat) (q : Int32) (T t : Nat) (hk5 : k ≤ 5) (hq : Bd 100 (FP.i2d q)) (hT1 : 1 ≤ T) (hT2 : T ≤ 60) (ht : t ≤ 9999) : Con g yX0_letBy cX0_letBy 11 (some .double) ({ frames := 0, cells := 0, slots := 0, locals := 0 } : Room) [.int (nI k), .int q, .int (nI T), .int (nI t)] ([]) (Is (some (.double (letF k T t q))) []) := by
  refine con_of_V ypl_X0_letBy (Nat.le_of_ble_eq_true rfl) [(0, .int (nI k)), (1, .int q), (2, .int (nI T)), (3, .int (nI t))] rfl (fun Γ ok => ?_)
  refine V_iload_n ok dX0_letBy_0 rfl 1 rfl ?_
  refine V_i2d ok dX0_letBy_1 ?_
  refine V_dstore (lv2 := [(4, .double (FP.i2d q)), (0, .int (nI k)), (1, .int q), (2, .int (nI T)), (3, .int (nI t))]) ok dX0_letBy_2 (by decide) rfl ?_
  refine V_iload_n ok dX0_letBy_4 rfl 3 rfl ?_
  refine V_i2d ok dX0_letBy_5 ?_
  refine V_dstore (lv2 := [(6, .double (FP.i2d (nI T))), (4, .double (FP.i2d q)), (0, .int (nI k)), (1, .int q), (2, .int (nI T)), (3, .int (nI t))]) ok dX0_letBy_6 (by decide) rfl ?_
  refine V_iload_n ok dX0_letBy_8 rfl 5 rfl ?_
  refine V_i2d ok dX0_letBy_9 ?_
  refine V_dstore (lv2 := [(8, .double (FP.i2d (nI t))), (6, .double (FP.i2d (nI T))), (4, .double (FP.i2d q)), (0, .int (nI k)), (1, .int q), (2, .int (nI T)), (3, .int (nI t))]) ok dX0_letBy_10 (by decide) rfl ?_
  refine V_iload_n ok dX0_letBy_12 rfl 6 rfl ?_
  refine V_iload_n ok dX0_letBy_13 rfl 5 rfl ?_
  have hq0 := hq
  refine V_icmpN_ge (tgt := 21) ok dX0_letBy_14 (by decide) (by omega) (by omega) (fun h14 => ?_) (fun h14 => ?_)
  · have ho : ¬ t < T := by omega
    refine V_iconst (v := nI 0) ok dX0_letBy_21 rfl ?_
    refine V_istore (lv2 := [(10, .int (nI 0)), (8, .double (FP.i2d (nI t))), (6, .double (FP.i2d (nI T))), (4, .double (FP.i2d q)), (0, .int (nI k)), (1, .int q), (2, .int (nI T)), (3, .int (nI t))]) ok dX0_letBy_22 (by decide) rfl ?_
    refine V_iload_n ok dX0_letBy_24 rfl 4 rfl ?_
    rcases (show k = 0 ∨ k = 1 ∨ k = 2 ∨ k = 3 ∨ k = 4 ∨ k = 5 by omega) with hk | hk | hk | hk | hk | hk
    · refine V_top_int (b := nI 0) (by rw [hk]) ?_
      refine V_tabOut (tgt := 163) ok dX0_letBy_25 (by decide) (by decide) ?_
      refine V_dload ok dX0_letBy_163 3 rfl ?_
      exact V_dret ok dX0_letBy_165 (Nat.zero_le _) (Nat.zero_le _) ⟨by subst hk; simp [letF], rfl⟩
    · refine V_top_int (b := nI 1) (by rw [hk]) ?_
      refine V_tabIn (off := 35) (tgt := 60) ok dX0_letBy_25 (by decide) (by decide) rfl (by decide) ?_
      refine V_iload ok dX0_letBy_60 0 rfl ?_
      refine V_ifN_eq (tgt := 70) ok dX0_letBy_62 (by decide) (by omega) (fun h62 => ?_) (fun h62 => absurd rfl h62)
      refine V_dconst0 ok dX0_letBy_70 ?_
      exact V_dret ok dX0_letBy_71 (Nat.zero_le _) (Nat.zero_le _) ⟨by subst hk; simp [letF, ho], rfl⟩
    · refine V_top_int (b := nI 2) (by rw [hk]) ?_
      refine V_tabIn (off := 47) (tgt := 72) ok dX0_letBy_25 (by decide) (by decide) rfl (by decide) ?_
      refine V_iload ok dX0_letBy_72 0 rfl ?_
      refine V_ifN_eq (tgt := 91) ok dX0_letBy_74 (by decide) (by omega) (fun h74 => ?_) (fun h74 => absurd rfl h74)
      refine V_dconst0 ok dX0_letBy_91 ?_
      exact V_dret ok dX0_letBy_92 (Nat.zero_le _) (Nat.zero_le _) ⟨by subst hk; simp [letF, ho], rfl⟩
    · refine V_top_int (b := nI 3) (by rw [hk]) ?_
      refine V_tabIn (off := 68) (tgt := 93) ok dX0_letBy_25 (by decide) (by decide) rfl (by decide) ?_
      refine V_iload ok dX0_letBy_93 0 rfl ?_
      refine V_ifN_eq (tgt := 121) ok dX0_letBy_95 (by decide) (by omega) (fun h95 => ?_) (fun h95 => absurd rfl h95)
      refine V_dconst0 ok dX0_letBy_121 ?_
      exact V_dret ok dX0_letBy_122 (Nat.zero_le _) (Nat.zero_le _) ⟨by subst hk; simp [letF, ho], rfl⟩
    · refine V_top_int (b := nI 4) (by rw [hk]) ?_
      refine V_tabIn (off := 98) (tgt := 123) ok dX0_letBy_25 (by decide) (by decide) rfl (by decide) ?_
      refine V_iload ok dX0_letBy_123 0 rfl ?_
      refine V_ifN_eq (tgt := 137) ok dX0_letBy_125 (by decide) (by omega) (fun h125 => ?_) (fun h125 => absurd rfl h125)
      refine V_dconst0 ok dX0_letBy_137 ?_
      exact V_dret ok dX0_letBy_138 (Nat.zero_le _) (Nat.zero_le _) ⟨by subst hk; simp [letF, ho], rfl⟩
    · refine V_top_int (b := nI 5) (by rw [hk]) ?_
      refine V_tabIn (off := 114) (tgt := 139) ok dX0_letBy_25 (by decide) (by decide) rfl (by decide) ?_
      refine V_iload_n ok dX0_letBy_139 rfl 6 rfl ?_
      refine V_ifN_le (tgt := 160) ok dX0_letBy_140 (by decide) (by omega) (fun h140 => absurd h140 (by omega)) (fun h140 => ?_)
      refine V_iload_n ok dX0_letBy_143 rfl 7 rfl ?_
      refine V_iload_n ok dX0_letBy_144 rfl 6 rfl ?_
      refine V_idiv ok dX0_letBy_145 (nI_ne0 (by omega) (by omega)) ?_
      refine V_top_int (b := nI (t / T)) (pk_div (by omega) (by omega) (by omega)) ?_
      refine V_iconst (v := nI 2) ok dX0_letBy_146 rfl ?_
      refine V_irem ok dX0_letBy_147 (by decide) ?_
      refine V_top_int (b := nI (t / T % 2)) (pk_rem (d := 2) (Nat.lt_of_le_of_lt (Nat.div_le_self t T) (by omega)) (by decide) (by decide)) ?_
      have hm2 : t / T % 2 < 2 := Nat.mod_lt _ (by decide)
      refine V_ifN_eq (tgt := 160) ok dX0_letBy_148 (by decide) (by omega) (fun h148 => ?_) (fun h148 => ?_)
      · refine V_dload ok dX0_letBy_160 3 rfl ?_
        exact V_dret ok dX0_letBy_162 (Nat.zero_le _) (Nat.zero_le _) ⟨by subst hk; simp [letF, h148], rfl⟩
      · refine V_dload ok dX0_letBy_151 3 rfl ?_
        refine V_ldc2d ok twd_X0_39 dX0_letBy_153 ?_
        refine V_ddiv ok dX0_letBy_156 (let_4 hq).n64 ?_
        refine V_goto (tgt := 162) ok dX0_letBy_157 (by decide) ?_
        exact V_dret ok dX0_letBy_162 (Nat.zero_le _) (Nat.zero_le _) ⟨by subst hk; simp [letF, h148], rfl⟩
  · have ho : t < T := by omega
    refine V_iconst (v := nI 1) ok dX0_letBy_17 rfl ?_
    refine V_goto (tgt := 22) ok dX0_letBy_18 (by decide) ?_
    refine V_istore (lv2 := [(10, .int (nI 1)), (8, .double (FP.i2d (nI t))), (6, .double (FP.i2d (nI T))), (4, .double (FP.i2d q)), (0, .int (nI k)), (1, .int q), (2, .int (nI T)), (3, .int (nI t))]) ok dX0_letBy_22 (by decide) rfl ?_
    refine V_iload_n ok dX0_letBy_24 rfl 4 rfl ?_
    rcases (show k = 0 ∨ k = 1 ∨ k = 2 ∨ k = 3 ∨ k = 4 ∨ k = 5 by omega) with hk | hk | hk | hk | hk | hk
    · refine V_top_int (b := nI 0) (by rw [hk]) ?_
      refine V_tabOut (tgt := 163) ok dX0_letBy_25 (by decide) (by decide) ?_
      refine V_dload ok dX0_letBy_163 3 rfl ?_
      exact V_dret ok dX0_letBy_165 (Nat.zero_le _) (Nat.zero_le _) ⟨by subst hk; simp [letF], rfl⟩
    · refine V_top_int (b := nI 1) (by rw [hk]) ?_
      refine V_tabIn (off := 35) (tgt := 60) ok dX0_letBy_25 (by decide) (by decide) rfl (by decide) ?_
      refine V_iload ok dX0_letBy_60 0 rfl ?_
      refine V_ifN_eq (tgt := 70) ok dX0_letBy_62 (by decide) (by omega) (fun h62 => absurd h62 (by decide)) (fun h62 => ?_)
      refine V_dload ok dX0_letBy_65 3 rfl ?_
      refine V_goto (tgt := 71) ok dX0_letBy_67 (by decide) ?_
      exact V_dret ok dX0_letBy_71 (Nat.zero_le _) (Nat.zero_le _) ⟨by subst hk; simp [letF, ho], rfl⟩
    · refine V_top_int (b := nI 2) (by rw [hk]) ?_
      refine V_tabIn (off := 47) (tgt := 72) ok dX0_letBy_25 (by decide) (by decide) rfl (by decide) ?_
      refine V_iload ok dX0_letBy_72 0 rfl ?_
      refine V_ifN_eq (tgt := 91) ok dX0_letBy_74 (by decide) (by omega) (fun h74 => absurd h74 (by decide)) (fun h74 => ?_)
      refine V_dload ok dX0_letBy_77 3 rfl ?_
      refine V_dload ok dX0_letBy_79 2 rfl ?_
      refine V_dload ok dX0_letBy_81 1 rfl ?_
      refine V_dsub ok dX0_letBy_83 (let_2a hq hT2 ht).n64 ?_
      refine V_dmul ok dX0_letBy_84 (let_2b hq hT2 ho).n64 ?_
      refine V_dload ok dX0_letBy_85 2 rfl ?_
      refine V_ddiv ok dX0_letBy_87 (let_2 hq hT2 ho).n64 ?_
      refine V_goto (tgt := 92) ok dX0_letBy_88 (by decide) ?_
      exact V_dret ok dX0_letBy_92 (Nat.zero_le _) (Nat.zero_le _) ⟨by subst hk; simp [letF, ho], rfl⟩
    · refine V_top_int (b := nI 3) (by rw [hk]) ?_
      refine V_tabIn (off := 68) (tgt := 93) ok dX0_letBy_25 (by decide) (by decide) rfl (by decide) ?_
      refine V_iload ok dX0_letBy_93 0 rfl ?_
      refine V_ifN_eq (tgt := 121) ok dX0_letBy_95 (by decide) (by omega) (fun h95 => absurd h95 (by decide)) (fun h95 => ?_)
      refine V_dload ok dX0_letBy_98 3 rfl ?_
      refine V_dload ok dX0_letBy_100 2 rfl ?_
      refine V_dload ok dX0_letBy_102 2 rfl ?_
      refine V_dmul ok dX0_letBy_104 (let_3s hT2).n64 ?_
      refine V_dload ok dX0_letBy_105 1 rfl ?_
      refine V_dload ok dX0_letBy_107 1 rfl ?_
      refine V_dmul ok dX0_letBy_109 (let_3s (show t ≤ 60 by omega)).n64 ?_
      refine V_dsub ok dX0_letBy_110 (let_3a hT2 ho).n64 ?_
      refine V_dmul ok dX0_letBy_111 (let_3b hq hT2 ho).n64 ?_
      refine V_dload ok dX0_letBy_112 2 rfl ?_
      refine V_dload ok dX0_letBy_114 2 rfl ?_
      refine V_dmul ok dX0_letBy_116 (let_3s hT2).n64 ?_
      refine V_ddiv ok dX0_letBy_117 (let_3 hq hT2 ho).n64 ?_
      refine V_goto (tgt := 122) ok dX0_letBy_118 (by decide) ?_
      exact V_dret ok dX0_letBy_122 (Nat.zero_le _) (Nat.zero_le _) ⟨by subst hk; simp [letF, ho], rfl⟩
    · refine V_top_int (b := nI 4) (by rw [hk]) ?_
      refine V_tabIn (off := 98) (tgt := 123) ok dX0_letBy_25 (by decide) (by decide) rfl (by decide) ?_
      refine V_iload ok dX0_letBy_123 0 rfl ?_
      refine V_ifN_eq (tgt := 137) ok dX0_letBy_125 (by decide) (by omega) (fun h125 => absurd h125 (by decide)) (fun h125 => ?_)
      refine V_dload ok dX0_letBy_128 3 rfl ?_
      refine V_ldc2d ok twd_X0_39 dX0_letBy_130 ?_
      refine V_ddiv ok dX0_letBy_133 (let_4 hq).n64 ?_
      refine V_goto (tgt := 138) ok dX0_letBy_134 (by decide) ?_
      exact V_dret ok dX0_letBy_138 (Nat.zero_le _) (Nat.zero_le _) ⟨by subst hk; simp [letF, ho], rfl⟩
    · refine V_top_int (b := nI 5) (by rw [hk]) ?_
      refine V_tabIn (off := 114) (tgt := 139) ok dX0_letBy_25 (by decide) (by decide) rfl (by decide) ?_
      refine V_iload_n ok dX0_letBy_139 rfl 6 rfl ?_
      refine V_ifN_le (tgt := 160) ok dX0_letBy_140 (by decide) (by omega) (fun h140 => absurd h140 (by omega)) (fun h140 => ?_)
      refine V_iload_n ok dX0_letBy_143 rfl 7 rfl ?_
      refine V_iload_n ok dX0_letBy_144 rfl 6 rfl ?_
      refine V_idiv ok dX0_letBy_145 (nI_ne0 (by omega) (by omega)) ?_
      refine V_top_int (b := nI (t / T)) (pk_div (by omega) (by omega) (by omega)) ?_
      refine V_iconst (v := nI 2) ok dX0_letBy_146 rfl ?_
      refine V_irem ok dX0_letBy_147 (by decide) ?_
      refine V_top_int (b := nI (t / T % 2)) (pk_rem (d := 2) (Nat.lt_of_le_of_lt (Nat.div_le_self t T) (by omega)) (by decide) (by decide)) ?_
      have hm2 : t / T % 2 < 2 := Nat.mod_lt _ (by decide)
      refine V_ifN_eq (tgt := 160) ok dX0_letBy_148 (by decide) (by omega) (fun h148 => ?_) (fun h148 => ?_)
      · refine V_dload ok dX0_letBy_160 3 rfl ?_
        exact V_dret ok dX0_letBy_162 (Nat.zero_le _) (Nat.zero_le _) ⟨by subst hk; simp [letF, h148], rfl⟩
      · refine V_dload ok dX0_letBy_151 3 rfl ?_
        refine V_ldc2d ok twd_X0_39 dX0_letBy_153 ?_
        refine V_ddiv ok dX0_letBy_156 (let_4 hq).n64 ?_
        refine V_goto (tgt := 162) ok dX0_letBy_157 (by decide) ?_
        exact V_dret ok dX0_letBy_162 (Nat.zero_le _) (Nat.zero_le _) ⟨by subst hk; simp [letF, h148], rfl⟩
def nodeB (v : Nat → Int32) (i : Int32) : Bool := if i < 0 then false else if v 0 < i then false else true
set_option maxHeartbeats 4000000 in
set_option maxRecDepth 100000 in
theorem c_X0_hasNode (g : Glob) (a : Nat → Nat) (v : Nat → Int32) (F B G L : Nat → UInt64) (hi lo lev : UInt64) (i : Int32) : Con g yX0_hasNode cX0_hasNode 2 (some .boolean) ({ frames := 0, cells := 0, slots := 0, locals := 0 } : Room) [.ref (a 0), .int i] (lineW g a (v, F, B, G, L, hi, lo, lev)) (Is (some (.int (bI (nodeB v i)))) (lineW g a (v, F, B, G, L, hi, lo, lev))) := by
  refine con_of_V ypl_X0_hasNode (Nat.le_of_ble_eq_true rfl) [(0, .ref (a 0)), (1, .int i)] rfl (fun Γ ok => ?_)
  refine V_iload_n ok dX0_hasNode_0 rfl 1 rfl ?_
  refine V_if_lt (tgt := 18) ok dX0_hasNode_1 (by decide) (fun h1 => ?_) (fun h1 => ?_)
  · refine V_iconst (v := nI 0) ok dX0_hasNode_18 rfl ?_
    exact V_zret ok dX0_hasNode_19 (Nat.zero_le _) (Nat.zero_le _) rfl ⟨bI_f (by simp only [nodeB]; rw [if_pos h1]), rfl⟩
  · refine V_iload_n ok dX0_hasNode_4 rfl 1 rfl ?_
    refine V_aload_n ok dX0_hasNode_5 rfl 0 rfl ?_
    refine V_get (v := .ref (a 1)) ok 0 0 tw_X0 twf_X0_7 rfl rfl (by decide) dX0_hasNode_6 rfl rfl ?_
    refine V_iconst (v := nI 0) ok dX0_hasNode_9 rfl ?_
    refine V_iald (f := v) (N := 9) ok 1 0 dX0_hasNode_10 rfl rfl (by decide) (by decide) ?_
    refine V_icmp_gt (tgt := 18) ok dX0_hasNode_11 (by decide) (fun h11 => ?_) (fun h11 => ?_)
    · refine V_iconst (v := nI 0) ok dX0_hasNode_18 rfl ?_
      exact V_zret ok dX0_hasNode_19 (Nat.zero_le _) (Nat.zero_le _) rfl ⟨bI_f (by simp only [nodeB]; rw [if_neg h1, if_pos h11]), rfl⟩
    · refine V_iconst (v := nI 1) ok dX0_hasNode_14 rfl ?_
      refine V_goto (tgt := 19) ok dX0_hasNode_15 (by decide) ?_
      exact V_zret ok dX0_hasNode_19 (Nat.zero_le _) (Nat.zero_le _) rfl ⟨bI_t (by simp only [nodeB]; rw [if_neg h1, if_neg h11]), rfl⟩
set_option maxHeartbeats 4000000 in
set_option maxRecDepth 100000 in
theorem c_X0_pressure (g : Glob) (a : Nat → Nat) (v : Nat → Int32) (F B G L : Nat → UInt64) (hi lo lev : UInt64) (i : Nat) (hi10 : i ≤ 10) (hp : vf_n64 (FP.dadd (F i) (B i))) : Con g yX0_pressure cX0_pressure 2 (some .double) ({ frames := 0, cells := 0, slots := 0, locals := 0 } : Room) [.ref (a 0), .int (nI i)] (lineW g a (v, F, B, G, L, hi, lo, lev)) (Is (some (.double (FP.dadd (F i) (B i)))) (lineW g a (v, F, B, G, L, hi, lo, lev))) := by
  refine con_of_V ypl_X0_pressure (Nat.le_of_ble_eq_true rfl) [(0, .ref (a 0)), (1, .int (nI i))] rfl (fun Γ ok => ?_)
  refine V_aload_n ok dX0_pressure_0 rfl 0 rfl ?_
  refine V_get (v := .ref (a 2)) ok 0 1 tw_X0 twf_X0_13 rfl rfl (by decide) dX0_pressure_1 rfl rfl ?_
  refine V_iload_n ok dX0_pressure_4 rfl 1 rfl ?_
  refine V_dald (f := F) (N := 11) ok 2 i dX0_pressure_5 rfl rfl (by omega) (by decide) ?_
  refine V_aload_n ok dX0_pressure_6 rfl 0 rfl ?_
  refine V_get (v := .ref (a 3)) ok 0 2 tw_X0 twf_X0_17 rfl rfl (by decide) dX0_pressure_7 rfl rfl ?_
  refine V_iload_n ok dX0_pressure_10 rfl 1 rfl ?_
  refine V_dald (f := B) (N := 11) ok 3 i dX0_pressure_11 rfl rfl (by omega) (by decide) ?_
  refine V_dadd ok dX0_pressure_12 hp ?_
  exact V_dret ok dX0_pressure_13 (Nat.zero_le _) (Nat.zero_le _) ⟨rfl, rfl⟩
set_option maxHeartbeats 4000000 in
set_option maxRecDepth 100000 in
theorem c_X0_govern (g : Glob) (a : Nat → Nat) (v : Nat → Int32) (F B G L : Nat → UInt64) (hi lo lev : UInt64) (k t : Int32) : Con g yX0_govern cX0_govern 3 none ({ frames := 0, cells := 0, slots := 0, locals := 0 } : Room) [.ref (a 0), .int k, .int t] (lineW g a (v, F, B, G, L, hi, lo, lev)) (Is none (lineW g a (upd (upd v 6 k) 7 t, F, B, G, L, hi, lo, lev))) := by
  refine con_of_V ypl_X0_govern (Nat.le_of_ble_eq_true rfl) [(0, .ref (a 0)), (1, .int k), (2, .int t)] rfl (fun Γ ok => ?_)
  refine V_aload_n ok dX0_govern_0 rfl 0 rfl ?_
  refine V_get (v := .ref (a 1)) ok 0 0 tw_X0 twf_X0_7 rfl rfl (by decide) dX0_govern_1 rfl rfl ?_
  refine V_bipush (v := nI 6) ok dX0_govern_4 rfl ?_
  refine V_iload_n ok dX0_govern_6 rfl 1 rfl ?_
  refine V_iast (f := v) (N := 9) (w2 := lineW g a (upd v 6 k, F, B, G, L, hi, lo, lev)) ok 1 6 dX0_govern_7 rfl rfl (by decide) (by decide) rfl ?_
  refine V_aload_n ok dX0_govern_8 rfl 0 rfl ?_
  refine V_get (v := .ref (a 1)) ok 0 0 tw_X0 twf_X0_7 rfl rfl (by decide) dX0_govern_9 rfl rfl ?_
  refine V_bipush (v := nI 7) ok dX0_govern_12 rfl ?_
  refine V_iload_n ok dX0_govern_14 rfl 2 rfl ?_
  refine V_iast (f := upd v 6 k) (N := 9) (w2 := lineW g a (upd (upd v 6 k) 7 t, F, B, G, L, hi, lo, lev)) ok 1 7 dX0_govern_15 rfl rfl (by decide) (by decide) rfl ?_
  exact V_vret ok dX0_govern_16 (Nat.zero_le _) (Nat.zero_le _) ⟨rfl, rfl⟩
theorem ten_fin : FP.Core.DFin 4666723172467343360 := by rw [← show FP.i2d 10000 = 4666723172467343360 by decide +kernel]; exact FP.Core.i2d_fin _
theorem mten_fin : FP.Core.DFin 13890095209322119168 := by rw [← show FP.i2d (-10000) = 13890095209322119168 by decide +kernel]; exact FP.Core.i2d_fin _
theorem ten_nn : nn 4666723172467343360 := ten_fin.ne_nan
theorem mten_nn : nn 13890095209322119168 := mten_fin.ne_nan
set_option maxHeartbeats 4000000 in
set_option maxRecDepth 100000 in
theorem c_X0_fillTank (g : Glob) (a : Nat → Nat) (v : Nat → Int32) (F B G L : Nat → UInt64) (hi lo lev : UInt64) (z : UInt64) (hn1 : vf_n64 (FP.ddiv z (FP.i2d (v 3)))) (hn2 : vf_n64 (FP.dadd lev (FP.ddiv z (FP.i2d (v 3))))) (hn3 : nn (FP.dadd lev (FP.ddiv z (FP.i2d (v 3))))) : Con g yX0_fillTank cX0_fillTank 7 none ({ frames := 0, cells := 0, slots := 0, locals := 0 } : Room) [.ref (a 0), .double z] (lineW g a (v, F, B, G, L, hi, lo, lev)) (Is none (lineW g a (v, F, B, G, L, hi, lo, clampF (risen lev z (v 3))))) := by
  refine con_of_V ypl_X0_fillTank (Nat.le_of_ble_eq_true rfl) [(0, .ref (a 0)), (1, .double z)] rfl (fun Γ ok => ?_)
  refine V_aload_n ok dX0_fillTank_0 rfl 0 rfl ?_
  refine V_get (v := .ref (a 1)) ok 0 0 tw_X0 twf_X0_7 rfl rfl (by decide) dX0_fillTank_1 rfl rfl ?_
  refine V_iconst (v := nI 3) ok dX0_fillTank_4 rfl ?_
  refine V_iald (f := v) (N := 9) ok 1 3 dX0_fillTank_5 rfl rfl (by decide) (by decide) ?_
  refine V_i2d ok dX0_fillTank_6 ?_
  refine V_dstore_n (lv2 := [(3, .double (FP.i2d (v 3))), (0, .ref (a 0)), (1, .double z)]) ok dX0_fillTank_7 rfl (by decide) rfl ?_
  refine V_aload_n ok dX0_fillTank_8 rfl 1 rfl ?_
  refine V_get (v := .double lev) ok 0 7 tw_X0 twf_X0_58 rfl rfl (by decide) dX0_fillTank_9 rfl rfl ?_
  refine V_dload_n ok dX0_fillTank_12 rfl 2 rfl ?_
  refine V_dload_n ok dX0_fillTank_13 rfl 0 rfl ?_
  refine V_ddiv ok dX0_fillTank_14 hn1 ?_
  refine V_dadd ok dX0_fillTank_15 hn2 ?_
  refine V_dstore (lv2 := [(5, .double (FP.dadd lev (FP.ddiv z (FP.i2d (v 3))))), (3, .double (FP.i2d (v 3))), (0, .ref (a 0)), (1, .double z)]) ok dX0_fillTank_16 (by decide) rfl ?_
  refine V_aload_n ok dX0_fillTank_18 rfl 2 rfl ?_
  refine V_dload ok dX0_fillTank_19 0 rfl ?_
  refine V_ldc2d ok twd_X0_85 dX0_fillTank_21 ?_
  have J24 : V g Γ 7 0 0 51 (lineW g a (v, F, B, G, L, hi, lo, lev)) [(5, .double (FP.dadd lev (FP.ddiv z (FP.i2d (v 3))))), (3, .double (FP.i2d (v 3))), (0, .ref (a 0)), (1, .double z)] [.double (if zv 4666723172467343360 < zv (FP.dadd lev (FP.ddiv z (FP.i2d (v 3)))) then 4666723172467343360 else (if zv (FP.dadd lev (FP.ddiv z (FP.i2d (v 3)))) < zv 13890095209322119168 then 13890095209322119168 else FP.dadd lev (FP.ddiv z (FP.i2d (v 3))))), .ref (a 0)] := by
    refine V_put (w2 := lineW g a (v, F, B, G, L, hi, lo, (if zv 4666723172467343360 < zv (FP.dadd lev (FP.ddiv z (FP.i2d (v 3)))) then 4666723172467343360 else (if zv (FP.dadd lev (FP.ddiv z (FP.i2d (v 3)))) < zv 13890095209322119168 then 13890095209322119168 else FP.dadd lev (FP.ddiv z (FP.i2d (v 3))))))) ok 0 7 tw_X0 tyX0 tyX0_ok nmX0 twf_X0_58 rfl rfl (by decide) rfl rfl dX0_fillTank_51 rfl rfl rfl (Nat.lt_of_lt_of_eq (m := 8) (by decide) rfl) rfl ?_
    exact V_vret ok dX0_fillTank_54 (Nat.zero_le _) (Nat.zero_le _) ⟨rfl, rfl⟩
  refine V_dle (tgt := 34) ok dX0_fillTank_24 dX0_fillTank_25 (by decide) hn3 ten_nn (fun h24 => ?_) (fun h24 => ?_)
  · refine V_dload ok dX0_fillTank_34 0 rfl ?_
    refine V_ldc2d ok twd_X0_87 dX0_fillTank_36 ?_
    have J39 : V g Γ 7 0 0 51 (lineW g a (v, F, B, G, L, hi, lo, lev)) [(5, .double (FP.dadd lev (FP.ddiv z (FP.i2d (v 3))))), (3, .double (FP.i2d (v 3))), (0, .ref (a 0)), (1, .double z)] [.double (if zv (FP.dadd lev (FP.ddiv z (FP.i2d (v 3)))) < zv 13890095209322119168 then 13890095209322119168 else FP.dadd lev (FP.ddiv z (FP.i2d (v 3)))), .ref (a 0)] := by
      simp only [if_neg h24] at J24
      exact J24
    refine V_dge (tgt := 49) ok dX0_fillTank_39 dX0_fillTank_40 (by decide) hn3 mten_nn (fun h39 => ?_) (fun h39 => ?_)
    · refine V_dload ok dX0_fillTank_49 0 rfl ?_
      simp only [if_neg h39] at J39
      exact J39
    · refine V_ldc2d ok twd_X0_87 dX0_fillTank_43 ?_
      refine V_goto (tgt := 51) ok dX0_fillTank_46 (by decide) ?_
      simp only [if_pos h39] at J39
      exact J39
  · refine V_ldc2d ok twd_X0_85 dX0_fillTank_28 ?_
    refine V_goto (tgt := 51) ok dX0_fillTank_31 (by decide) ?_
    simp only [if_pos h24] at J24
    exact J24
