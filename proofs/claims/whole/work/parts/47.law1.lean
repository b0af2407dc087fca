theorem type_tx {pg : PageSt} {c : Nat} (h : ∀ p, p < pg.2.1 → ¬ pg.1 p = (-1)) (hc : c ≤ 127) : ∀ p, p < (appendF pg (nI c)).2.1 → ¬ (appendF pg (nI c)).1 p = (-1) := fun p hp => by
  have hp : p < pg.2.1 + 1 := hp
  rw [show (appendF pg (nI c)).1 = upd pg.1 pg.2.1 (nI c) from congrArg (upd pg.1 pg.2.1) (byte_c hc)]
  by_cases e : p = pg.2.1
  · subst e; rw [upd_eq]; exact nI_m1 (by omega)
  · rw [upd_ne e]; exact h p (by omega)
set_option maxHeartbeats 4000000 in
set_option maxRecDepth 100000 in
theorem law_0 {g : Glob} {Γ : Ctx} {nm : String} (ok : OK g Γ ⟨RL, nm, ""⟩ cL_law 4 (some .boolean) room_1 (fun r _ => r = some (.int 1))) {a b : Nat → Nat} {sc L : Nat} {xs : Nat → Int32} (s_X : va_X sc L xs (kS Γ) (kS Γ).heap) (s_A : ¬ kO Γ sc) (s_z : sc < (kS Γ).heap.size) (hL : L ≤ 2048) (p : Nat) (now : LineSt) (spare : LineSt) (K : Nat → LineSt) (nw : Nat) (sts : Nat) (rf : Nat → Int32) (pg : PageSt) (wv : Nat → UInt64) (ah : Nat → UInt64) (pa : Nat → Int32) (pw : Nat → UInt64) (ai : Nat → Int32) (aw : Nat → UInt64) (pl : Nat) (ord : Nat) (lr : Nat → Int32) (nu : Nat → Int32) (hsh : Int64) (ih : ∀ (n2 : Nat), n2 < L - p → ∀ (p : Nat) (now : LineSt) (spare : LineSt) (K : Nat → LineSt) (nw : Nat) (sts : Nat) (rf : Nat → Int32) (pg : PageSt) (wv : Nat → UInt64) (ah : Nat → UInt64) (pa : Nat → Int32) (pw : Nat → UInt64) (ai : Nat → Int32) (aw : Nat → UInt64) (pl : Nat) (ord : Nat) (lr : Nat → Int32) (nu : Nat → Int32) (hsh : Int64), p ≤ L → n2 = L - p → Rel now K nw sts pg wv pa pw pg.1 pg.2.1 → V g Γ 4 53 1103 18 (surgeW g a now spare K nw sts rf pg ++ modelW g b now.1 wv ah pa pw ai aw sts rf pg.1 pg.2.1 pl ord lr nu hsh) [(3, .int (nI p)), (2, .ref (b 0)), (1, .ref (a 0)), (0, .ref sc)] []) (hp : p + 4 ≤ L) (hR : Rel now K nw sts pg wv pa pw pg.1 pg.2.1) : V g Γ 4 53 1103 124 (surgeW g a now spare K nw sts rf pg ++ modelW g b now.1 wv ah pa pw ai aw sts rf pg.1 pg.2.1 pl ord lr nu hsh) [(3, .int (nI p)), (2, .ref (b 0)), (1, .ref (a 0)), (0, .ref sc)] [] := by
  obtain ⟨r1, r2, r3, r4, r5, r6, r7, -, -, r10⟩ := id hR
  obtain ⟨q1, hq1⟩ : ∃ q, xs (p + 1) = q := ⟨_, rfl⟩
  by_cases hf : fitsB (nI 0) q1 = true
  · refine V_aload_n ok dL_law_124 rfl 2 rfl ?_
    refine V_aload_n ok dL_law_125 rfl 3 rfl ?_
    refine V_iload_n ok dL_law_126 rfl 0 rfl ?_
    refine V_iconst (v := nI 1) ok dL_law_127 rfl ?_
    refine V_iaddN (a := p) (b := 1) (c := p + 1) ok dL_law_128 (by first | rfl | omega) ?_
    refine V_sald (f := xs) ok (p + 1) s_X s_A s_z dL_law_129 rfl (by omega) (by omega) ?_
    refine V_top_int (b := q1) (hq1) ?_
    refine V_lx (v2 := some (.int (now.1 0))) (rest := []) ok (c_X2_pipe_ok g a now spare K nw sts rf pg q1 hf r1 r5 r6) 1 twm_L_13 twi_yX2_pipe twv_yX2_pipe twin_X2 twc_yX2_pipe yok_X2_pipe (by decide) ⟨rfl, rfl⟩ dL_law_130 rfl rfl rfl (Nat.le_of_ble_eq_true rfl) ⟨by decide, by decide⟩ ?_
    refine V_aload_n ok dL_law_133 rfl 1 rfl ?_
    refine V_aload_n ok dL_law_134 rfl 3 rfl ?_
    refine V_iload_n ok dL_law_135 rfl 0 rfl ?_
    refine V_iconst (v := nI 1) ok dL_law_136 rfl ?_
    refine V_iaddN (a := p) (b := 1) (c := p + 1) ok dL_law_137 (by first | rfl | omega) ?_
    refine V_sald (f := xs) ok (p + 1) s_X s_A s_z dL_law_138 rfl (by omega) (by omega) ?_
    refine V_top_int (b := q1) (hq1) ?_
    refine V_lm (rest := [.int (now.1 0)]) ok surge_len rfl rfl (c_X3_pipe_ok g b now wv ah pa pw ai aw sts rf pg.1 pg.2.1 pl ord lr nu hsh q1 ((pip_fits _).trans hf) (r1.1.put1 (fits_ok (by decide) hf)) r6) 1 twm_L_17 twi_yX3_pipe twv_yX3_pipe twin_X3 twc_yX3_pipe yok_X3_pipe (by decide) ⟨rfl, rfl⟩ dL_law_139 rfl rfl rfl (Nat.le_of_ble_eq_true rfl) ⟨by decide, by decide⟩ (fun _ _ hh => by obtain ⟨-, _, _, rfl⟩ := hh; rfl) (fun v_ w_ hh => ?_)
    obtain ⟨rfl, wv2, hw2, rfl⟩ := hh
    refine V_icmp_eq (tgt := 637) ok dL_law_142 (by decide) (fun h142 => ?_) (fun h142 => absurd rfl h142)
    refine V_iinc (q := 0) (v := nI (p + 4)) (lv2 := [(3, .int (nI (p + 4))), (2, .ref (b 0)), (1, .ref (a 0)), (0, .ref sc)]) ok dL_law_637 rfl (nI_inc p 4) (by decide) rfl ?_
    refine V_goto (tgt := 18) ok dL_law_640 (by decide) ?_
    refine V_lv [0, 1, 2, 3] rfl ?_
    exact ih (L - (p + 4)) (by omega) (p + 4) (settleL (upd now.1 0 q1, now.2)) spare (ringU K nw now) ((nw + 1) % 4) (stsU sts) rf pg wv2 ah (leaI pa sts now.1) (leaD pw sts wv) ai aw pl ord lr nu hsh (by omega) rfl (hR.kept (LG.settle (r1.1.put1 (fits_ok (by decide) hf))) hw2)
  · refine V_aload_n ok dL_law_124 rfl 2 rfl ?_
    refine V_aload_n ok dL_law_125 rfl 3 rfl ?_
    refine V_iload_n ok dL_law_126 rfl 0 rfl ?_
    refine V_iconst (v := nI 1) ok dL_law_127 rfl ?_
    refine V_iaddN (a := p) (b := 1) (c := p + 1) ok dL_law_128 (by first | rfl | omega) ?_
    refine V_sald (f := xs) ok (p + 1) s_X s_A s_z dL_law_129 rfl (by omega) (by omega) ?_
    refine V_top_int (b := q1) (hq1) ?_
    refine V_lx (v2 := some (.int (-2))) (rest := []) ok (c_X2_pipe_bad g a now spare K nw sts rf pg q1 hf) 1 twm_L_13 twi_yX2_pipe twv_yX2_pipe twin_X2 twc_yX2_pipe yok_X2_pipe (by decide) ⟨rfl, rfl⟩ dL_law_130 rfl rfl rfl (Nat.le_of_ble_eq_true rfl) ⟨by decide, by decide⟩ ?_
    refine V_aload_n ok dL_law_133 rfl 1 rfl ?_
    refine V_aload_n ok dL_law_134 rfl 3 rfl ?_
    refine V_iload_n ok dL_law_135 rfl 0 rfl ?_
    refine V_iconst (v := nI 1) ok dL_law_136 rfl ?_
    refine V_iaddN (a := p) (b := 1) (c := p + 1) ok dL_law_137 (by first | rfl | omega) ?_
    refine V_sald (f := xs) ok (p + 1) s_X s_A s_z dL_law_138 rfl (by omega) (by omega) ?_
    refine V_top_int (b := q1) (hq1) ?_
    refine V_lm (rest := [.int (-2)]) ok surge_len rfl rfl (c_X3_pipe_bad g b now.1 wv ah pa pw ai aw sts rf pg.1 pg.2.1 pl ord lr nu hsh q1 (fun z => hf ((pip_fits _).symm.trans z))) 1 twm_L_17 twi_yX3_pipe twv_yX3_pipe twin_X3 twc_yX3_pipe yok_X3_pipe (by decide) ⟨rfl, rfl⟩ dL_law_139 rfl rfl rfl (Nat.le_of_ble_eq_true rfl) ⟨by decide, by decide⟩ (fun _ _ hh => by obtain ⟨-, rfl⟩ := hh; rfl) (fun v_ w_ hh => ?_)
    obtain ⟨rfl, rfl⟩ := hh
    refine V_icmp_eq (tgt := 637) ok dL_law_142 (by decide) (fun h142 => ?_) (fun h142 => absurd rfl h142)
    refine V_iinc (q := 0) (v := nI (p + 4)) (lv2 := [(3, .int (nI (p + 4))), (2, .ref (b 0)), (1, .ref (a 0)), (0, .ref sc)]) ok dL_law_637 rfl (nI_inc p 4) (by decide) rfl ?_
    refine V_goto (tgt := 18) ok dL_law_640 (by decide) ?_
    refine V_lv [0, 1, 2, 3] rfl ?_
    exact ih (L - (p + 4)) (by omega) (p + 4) now spare K nw sts (rfU rf (-2)) pg wv ah pa pw ai aw pl ord lr nu hsh (by omega) rfl hR
set_option maxHeartbeats 4000000 in
set_option maxRecDepth 100000 in
theorem law_1 {g : Glob} {Γ : Ctx} {nm : String} (ok : OK g Γ ⟨RL, nm, ""⟩ cL_law 4 (some .boolean) room_1 (fun r _ => r = some (.int 1))) {a b : Nat → Nat} {sc L : Nat} {xs : Nat → Int32} (s_X : va_X sc L xs (kS Γ) (kS Γ).heap) (s_A : ¬ kO Γ sc) (s_z : sc < (kS Γ).heap.size) (hL : L ≤ 2048) (p : Nat) (now : LineSt) (spare : LineSt) (K : Nat → LineSt) (nw : Nat) (sts : Nat) (rf : Nat → Int32) (pg : PageSt) (wv : Nat → UInt64) (ah : Nat → UInt64) (pa : Nat → Int32) (pw : Nat → UInt64) (ai : Nat → Int32) (aw : Nat → UInt64) (pl : Nat) (ord : Nat) (lr : Nat → Int32) (nu : Nat → Int32) (hsh : Int64) (ih : ∀ (n2 : Nat), n2 < L - p → ∀ (p : Nat) (now : LineSt) (spare : LineSt) (K : Nat → LineSt) (nw : Nat) (sts : Nat) (rf : Nat → Int32) (pg : PageSt) (wv : Nat → UInt64) (ah : Nat → UInt64) (pa : Nat → Int32) (pw : Nat → UInt64) (ai : Nat → Int32) (aw : Nat → UInt64) (pl : Nat) (ord : Nat) (lr : Nat → Int32) (nu : Nat → Int32) (hsh : Int64), p ≤ L → n2 = L - p → Rel now K nw sts pg wv pa pw pg.1 pg.2.1 → V g Γ 4 53 1103 18 (surgeW g a now spare K nw sts rf pg ++ modelW g b now.1 wv ah pa pw ai aw sts rf pg.1 pg.2.1 pl ord lr nu hsh) [(3, .int (nI p)), (2, .ref (b 0)), (1, .ref (a 0)), (0, .ref sc)] []) (hp : p + 4 ≤ L) (hR : Rel now K nw sts pg wv pa pw pg.1 pg.2.1) : V g Γ 4 53 1103 147 (surgeW g a now spare K nw sts rf pg ++ modelW g b now.1 wv ah pa pw ai aw sts rf pg.1 pg.2.1 pl ord lr nu hsh) [(3, .int (nI p)), (2, .ref (b 0)), (1, .ref (a 0)), (0, .ref sc)] [] := by
  obtain ⟨r1, r2, r3, r4, r5, r6, r7, -, -, r10⟩ := id hR
  obtain ⟨q1, hq1⟩ : ∃ q, xs (p + 1) = q := ⟨_, rfl⟩
  obtain ⟨q2, hq2⟩ : ∃ q, xs (p + 2) = q := ⟨_, rfl⟩
  rcases pk_ix q1 (n := 3) (by decide) with hq | hq | ⟨j, hj, rfl⟩
  · refine V_aload_n ok dL_law_147 rfl 2 rfl ?_
    refine V_aload_n ok dL_law_148 rfl 3 rfl ?_
    refine V_iload_n ok dL_law_149 rfl 0 rfl ?_
    refine V_iconst (v := nI 1) ok dL_law_150 rfl ?_
    refine V_iaddN (a := p) (b := 1) (c := p + 1) ok dL_law_151 (by first | rfl | omega) ?_
    refine V_sald (f := xs) ok (p + 1) s_X s_A s_z dL_law_152 rfl (by omega) (by omega) ?_
    refine V_top_int (b := q1) (hq1) ?_
    refine V_aload_n ok dL_law_153 rfl 3 rfl ?_
    refine V_iload_n ok dL_law_154 rfl 0 rfl ?_
    refine V_iconst (v := nI 2) ok dL_law_155 rfl ?_
    refine V_iaddN (a := p) (b := 2) (c := p + 2) ok dL_law_156 (by first | rfl | omega) ?_
    refine V_sald (f := xs) ok (p + 2) s_X s_A s_z dL_law_157 rfl (by omega) (by omega) ?_
    refine V_top_int (b := q2) (hq2) ?_
    refine V_lx (v2 := some (.int (-2))) (rest := []) ok (c_X2_sets_out g a now spare K nw sts rf pg q1 q2 (Or.inl hq)) 2 twm_L_18 twi_yX2_sets twv_yX2_sets twin_X2 twc_yX2_sets yok_X2_sets (by decide) ⟨rfl, rfl⟩ dL_law_158 rfl rfl rfl (Nat.le_of_ble_eq_true rfl) ⟨by decide, by decide⟩ ?_
    refine V_aload_n ok dL_law_161 rfl 1 rfl ?_
    refine V_aload_n ok dL_law_162 rfl 3 rfl ?_
    refine V_iload_n ok dL_law_163 rfl 0 rfl ?_
    refine V_iconst (v := nI 1) ok dL_law_164 rfl ?_
    refine V_iaddN (a := p) (b := 1) (c := p + 1) ok dL_law_165 (by first | rfl | omega) ?_
    refine V_sald (f := xs) ok (p + 1) s_X s_A s_z dL_law_166 rfl (by omega) (by omega) ?_
    refine V_top_int (b := q1) (hq1) ?_
    refine V_aload_n ok dL_law_167 rfl 3 rfl ?_
    refine V_iload_n ok dL_law_168 rfl 0 rfl ?_
    refine V_iconst (v := nI 2) ok dL_law_169 rfl ?_
    refine V_iaddN (a := p) (b := 2) (c := p + 2) ok dL_law_170 (by first | rfl | omega) ?_
    refine V_sald (f := xs) ok (p + 2) s_X s_A s_z dL_law_171 rfl (by omega) (by omega) ?_
    refine V_top_int (b := q2) (hq2) ?_
    refine V_lm (rest := [.int (-2)]) ok surge_len rfl rfl (c_X3_sets_bad g b now.1 wv ah pa pw ai aw sts rf pg.1 pg.2.1 pl ord lr nu hsh q1 q2 (fun z => by obtain ⟨j, e, hj⟩ := set_in z; rw [e] at hq; exact nI_pos (by omega) hq)) 2 twm_L_22 twi_yX3_sets twv_yX3_sets twin_X3 twc_yX3_sets yok_X3_sets (by decide) ⟨rfl, rfl⟩ dL_law_172 rfl rfl rfl (Nat.le_of_ble_eq_true rfl) ⟨by decide, by decide⟩ (fun _ _ hh => by obtain ⟨-, rfl⟩ := hh; rfl) (fun v_ w_ hh => ?_)
    obtain ⟨rfl, rfl⟩ := hh
    refine V_icmp_eq (tgt := 637) ok dL_law_175 (by decide) (fun h175 => ?_) (fun h175 => absurd rfl h175)
    refine V_iinc (q := 0) (v := nI (p + 4)) (lv2 := [(3, .int (nI (p + 4))), (2, .ref (b 0)), (1, .ref (a 0)), (0, .ref sc)]) ok dL_law_637 rfl (nI_inc p 4) (by decide) rfl ?_
    refine V_goto (tgt := 18) ok dL_law_640 (by decide) ?_
    refine V_lv [0, 1, 2, 3] rfl ?_
    exact ih (L - (p + 4)) (by omega) (p + 4) now spare K nw sts (rfU rf (-2)) pg wv ah pa pw ai aw pl ord lr nu hsh (by omega) rfl hR
  · refine V_aload_n ok dL_law_147 rfl 2 rfl ?_
    refine V_aload_n ok dL_law_148 rfl 3 rfl ?_
    refine V_iload_n ok dL_law_149 rfl 0 rfl ?_
    refine V_iconst (v := nI 1) ok dL_law_150 rfl ?_
    refine V_iaddN (a := p) (b := 1) (c := p + 1) ok dL_law_151 (by first | rfl | omega) ?_
    refine V_sald (f := xs) ok (p + 1) s_X s_A s_z dL_law_152 rfl (by omega) (by omega) ?_
    refine V_top_int (b := q1) (hq1) ?_
    refine V_aload_n ok dL_law_153 rfl 3 rfl ?_
    refine V_iload_n ok dL_law_154 rfl 0 rfl ?_
    refine V_iconst (v := nI 2) ok dL_law_155 rfl ?_
    refine V_iaddN (a := p) (b := 2) (c := p + 2) ok dL_law_156 (by first | rfl | omega) ?_
    refine V_sald (f := xs) ok (p + 2) s_X s_A s_z dL_law_157 rfl (by omega) (by omega) ?_
    refine V_top_int (b := q2) (hq2) ?_
    refine V_lx (v2 := some (.int (-2))) (rest := []) ok (c_X2_sets_out g a now spare K nw sts rf pg q1 q2 (Or.inr (Int32.lt_of_lt_of_le (by decide) hq))) 2 twm_L_18 twi_yX2_sets twv_yX2_sets twin_X2 twc_yX2_sets yok_X2_sets (by decide) ⟨rfl, rfl⟩ dL_law_158 rfl rfl rfl (Nat.le_of_ble_eq_true rfl) ⟨by decide, by decide⟩ ?_
    refine V_aload_n ok dL_law_161 rfl 1 rfl ?_
    refine V_aload_n ok dL_law_162 rfl 3 rfl ?_
    refine V_iload_n ok dL_law_163 rfl 0 rfl ?_
    refine V_iconst (v := nI 1) ok dL_law_164 rfl ?_
    refine V_iaddN (a := p) (b := 1) (c := p + 1) ok dL_law_165 (by first | rfl | omega) ?_
    refine V_sald (f := xs) ok (p + 1) s_X s_A s_z dL_law_166 rfl (by omega) (by omega) ?_
    refine V_top_int (b := q1) (hq1) ?_
    refine V_aload_n ok dL_law_167 rfl 3 rfl ?_
    refine V_iload_n ok dL_law_168 rfl 0 rfl ?_
    refine V_iconst (v := nI 2) ok dL_law_169 rfl ?_
    refine V_iaddN (a := p) (b := 2) (c := p + 2) ok dL_law_170 (by first | rfl | omega) ?_
    refine V_sald (f := xs) ok (p + 2) s_X s_A s_z dL_law_171 rfl (by omega) (by omega) ?_
    refine V_top_int (b := q2) (hq2) ?_
    refine V_lm (rest := [.int (-2)]) ok surge_len rfl rfl (c_X3_sets_bad g b now.1 wv ah pa pw ai aw sts rf pg.1 pg.2.1 pl ord lr nu hsh q1 q2 (fun z => by obtain ⟨j, e, hj⟩ := set_in z; rw [e] at hq; exact absurd hq (nI_ge (by omega) (by decide)))) 2 twm_L_22 twi_yX3_sets twv_yX3_sets twin_X3 twc_yX3_sets yok_X3_sets (by decide) ⟨rfl, rfl⟩ dL_law_172 rfl rfl rfl (Nat.le_of_ble_eq_true rfl) ⟨by decide, by decide⟩ (fun _ _ hh => by obtain ⟨-, rfl⟩ := hh; rfl) (fun v_ w_ hh => ?_)
    obtain ⟨rfl, rfl⟩ := hh
    refine V_icmp_eq (tgt := 637) ok dL_law_175 (by decide) (fun h175 => ?_) (fun h175 => absurd rfl h175)
    refine V_iinc (q := 0) (v := nI (p + 4)) (lv2 := [(3, .int (nI (p + 4))), (2, .ref (b 0)), (1, .ref (a 0)), (0, .ref sc)]) ok dL_law_637 rfl (nI_inc p 4) (by decide) rfl ?_
    refine V_goto (tgt := 18) ok dL_law_640 (by decide) ?_
    refine V_lv [0, 1, 2, 3] rfl ?_
    exact ih (L - (p + 4)) (by omega) (p + 4) now spare K nw sts (rfU rf (-2)) pg wv ah pa pw ai aw pl ord lr nu hsh (by omega) rfl hR
  · by_cases hf : fitsB (nI (1 + j)) q2 = true
    · refine V_aload_n ok dL_law_147 rfl 2 rfl ?_
      refine V_aload_n ok dL_law_148 rfl 3 rfl ?_
      refine V_iload_n ok dL_law_149 rfl 0 rfl ?_
      refine V_iconst (v := nI 1) ok dL_law_150 rfl ?_
      refine V_iaddN (a := p) (b := 1) (c := p + 1) ok dL_law_151 (by first | rfl | omega) ?_
      refine V_sald (f := xs) ok (p + 1) s_X s_A s_z dL_law_152 rfl (by omega) (by omega) ?_
      refine V_top_int (b := nI j) (hq1) ?_
      refine V_aload_n ok dL_law_153 rfl 3 rfl ?_
      refine V_iload_n ok dL_law_154 rfl 0 rfl ?_
      refine V_iconst (v := nI 2) ok dL_law_155 rfl ?_
      refine V_iaddN (a := p) (b := 2) (c := p + 2) ok dL_law_156 (by first | rfl | omega) ?_
      refine V_sald (f := xs) ok (p + 2) s_X s_A s_z dL_law_157 rfl (by omega) (by omega) ?_
      refine V_top_int (b := q2) (hq2) ?_
      refine V_lx (v2 := some (.int (now.1 (1 + j)))) (rest := []) ok (c_X2_sets_ok g a now spare K nw sts rf pg j q2 (by omega) hf r1 r5 r6) 2 twm_L_18 twi_yX2_sets twv_yX2_sets twin_X2 twc_yX2_sets yok_X2_sets (by decide) ⟨rfl, rfl⟩ dL_law_158 rfl rfl rfl (Nat.le_of_ble_eq_true rfl) ⟨by decide, by decide⟩ ?_
      refine V_aload_n ok dL_law_161 rfl 1 rfl ?_
      refine V_aload_n ok dL_law_162 rfl 3 rfl ?_
      refine V_iload_n ok dL_law_163 rfl 0 rfl ?_
      refine V_iconst (v := nI 1) ok dL_law_164 rfl ?_
      refine V_iaddN (a := p) (b := 1) (c := p + 1) ok dL_law_165 (by first | rfl | omega) ?_
      refine V_sald (f := xs) ok (p + 1) s_X s_A s_z dL_law_166 rfl (by omega) (by omega) ?_
      refine V_top_int (b := nI j) (hq1) ?_
      refine V_aload_n ok dL_law_167 rfl 3 rfl ?_
      refine V_iload_n ok dL_law_168 rfl 0 rfl ?_
      refine V_iconst (v := nI 2) ok dL_law_169 rfl ?_
      refine V_iaddN (a := p) (b := 2) (c := p + 2) ok dL_law_170 (by first | rfl | omega) ?_
      refine V_sald (f := xs) ok (p + 2) s_X s_A s_z dL_law_171 rfl (by omega) (by omega) ?_
      refine V_top_int (b := q2) (hq2) ?_
      refine V_lm (rest := [.int (now.1 (1 + j))]) ok surge_len rfl rfl (c_X3_sets_ok g b now wv ah pa pw ai aw sts rf pg.1 pg.2.1 pl ord lr nu hsh j q2 (by omega) ((set_fits (by omega) _).trans hf) (r1.1.put1 (fits_ok (by omega) hf)) r6) 2 twm_L_22 twi_yX3_sets twv_yX3_sets twin_X3 twc_yX3_sets yok_X3_sets (by decide) ⟨rfl, rfl⟩ dL_law_172 rfl rfl rfl (Nat.le_of_ble_eq_true rfl) ⟨by decide, by decide⟩ (fun _ _ hh => by obtain ⟨-, _, _, rfl⟩ := hh; rfl) (fun v_ w_ hh => ?_)
      obtain ⟨rfl, wv2, hw2, rfl⟩ := hh
      refine V_icmp_eq (tgt := 637) ok dL_law_175 (by decide) (fun h175 => ?_) (fun h175 => absurd rfl h175)
      refine V_iinc (q := 0) (v := nI (p + 4)) (lv2 := [(3, .int (nI (p + 4))), (2, .ref (b 0)), (1, .ref (a 0)), (0, .ref sc)]) ok dL_law_637 rfl (nI_inc p 4) (by decide) rfl ?_
      refine V_goto (tgt := 18) ok dL_law_640 (by decide) ?_
      refine V_lv [0, 1, 2, 3] rfl ?_
      exact ih (L - (p + 4)) (by omega) (p + 4) (settleL (upd now.1 (1 + j) q2, now.2)) spare (ringU K nw now) ((nw + 1) % 4) (stsU sts) rf pg wv2 ah (leaI pa sts now.1) (leaD pw sts wv) ai aw pl ord lr nu hsh (by omega) rfl (hR.kept (LG.settle (r1.1.put1 (fits_ok (by omega) hf))) hw2)
    · refine V_aload_n ok dL_law_147 rfl 2 rfl ?_
      refine V_aload_n ok dL_law_148 rfl 3 rfl ?_
      refine V_iload_n ok dL_law_149 rfl 0 rfl ?_
      refine V_iconst (v := nI 1) ok dL_law_150 rfl ?_
      refine V_iaddN (a := p) (b := 1) (c := p + 1) ok dL_law_151 (by first | rfl | omega) ?_
      refine V_sald (f := xs) ok (p + 1) s_X s_A s_z dL_law_152 rfl (by omega) (by omega) ?_
      refine V_top_int (b := nI j) (hq1) ?_
      refine V_aload_n ok dL_law_153 rfl 3 rfl ?_
      refine V_iload_n ok dL_law_154 rfl 0 rfl ?_
      refine V_iconst (v := nI 2) ok dL_law_155 rfl ?_
      refine V_iaddN (a := p) (b := 2) (c := p + 2) ok dL_law_156 (by first | rfl | omega) ?_
      refine V_sald (f := xs) ok (p + 2) s_X s_A s_z dL_law_157 rfl (by omega) (by omega) ?_
      refine V_top_int (b := q2) (hq2) ?_
      refine V_lx (v2 := some (.int (-2))) (rest := []) ok (c_X2_sets_bad g a now spare K nw sts rf pg j q2 (by omega) hf) 2 twm_L_18 twi_yX2_sets twv_yX2_sets twin_X2 twc_yX2_sets yok_X2_sets (by decide) ⟨rfl, rfl⟩ dL_law_158 rfl rfl rfl (Nat.le_of_ble_eq_true rfl) ⟨by decide, by decide⟩ ?_
      refine V_aload_n ok dL_law_161 rfl 1 rfl ?_
      refine V_aload_n ok dL_law_162 rfl 3 rfl ?_
      refine V_iload_n ok dL_law_163 rfl 0 rfl ?_
      refine V_iconst (v := nI 1) ok dL_law_164 rfl ?_
      refine V_iaddN (a := p) (b := 1) (c := p + 1) ok dL_law_165 (by first | rfl | omega) ?_
      refine V_sald (f := xs) ok (p + 1) s_X s_A s_z dL_law_166 rfl (by omega) (by omega) ?_
      refine V_top_int (b := nI j) (hq1) ?_
      refine V_aload_n ok dL_law_167 rfl 3 rfl ?_
      refine V_iload_n ok dL_law_168 rfl 0 rfl ?_
      refine V_iconst (v := nI 2) ok dL_law_169 rfl ?_
      refine V_iaddN (a := p) (b := 2) (c := p + 2) ok dL_law_170 (by first | rfl | omega) ?_
      refine V_sald (f := xs) ok (p + 2) s_X s_A s_z dL_law_171 rfl (by omega) (by omega) ?_
      refine V_top_int (b := q2) (hq2) ?_
      refine V_lm (rest := [.int (-2)]) ok surge_len rfl rfl (c_X3_sets_bad g b now.1 wv ah pa pw ai aw sts rf pg.1 pg.2.1 pl ord lr nu hsh (nI j) q2 (fun z => hf ((set_fits (by omega) _).symm.trans z))) 2 twm_L_22 twi_yX3_sets twv_yX3_sets twin_X3 twc_yX3_sets yok_X3_sets (by decide) ⟨rfl, rfl⟩ dL_law_172 rfl rfl rfl (Nat.le_of_ble_eq_true rfl) ⟨by decide, by decide⟩ (fun _ _ hh => by obtain ⟨-, rfl⟩ := hh; rfl) (fun v_ w_ hh => ?_)
      obtain ⟨rfl, rfl⟩ := hh
      refine V_icmp_eq (tgt := 637) ok dL_law_175 (by decide) (fun h175 => ?_) (fun h175 => absurd rfl h175)
      refine V_iinc (q := 0) (v := nI (p + 4)) (lv2 := [(3, .int (nI (p + 4))), (2, .ref (b 0)), (1, .ref (a 0)), (0, .ref sc)]) ok dL_law_637 rfl (nI_inc p 4) (by decide) rfl ?_
      refine V_goto (tgt := 18) ok dL_law_640 (by decide) ?_
      refine V_lv [0, 1, 2, 3] rfl ?_
      exact ih (L - (p + 4)) (by omega) (p + 4) now spare K nw sts (rfU rf (-2)) pg wv ah pa pw ai aw pl ord lr nu hsh (by omega) rfl hR
set_option maxHeartbeats 4000000 in
set_option maxRecDepth 100000 in
theorem law_2 {g : Glob} {Γ : Ctx} {nm : String} (ok : OK g Γ ⟨RL, nm, ""⟩ cL_law 4 (some .boolean) room_1 (fun r _ => r = some (.int 1))) {a b : Nat → Nat} {sc L : Nat} {xs : Nat → Int32} (s_X : va_X sc L xs (kS Γ) (kS Γ).heap) (s_A : ¬ kO Γ sc) (s_z : sc < (kS Γ).heap.size) (hL : L ≤ 2048) (p : Nat) (now : LineSt) (spare : LineSt) (K : Nat → LineSt) (nw : Nat) (sts : Nat) (rf : Nat → Int32) (pg : PageSt) (wv : Nat → UInt64) (ah : Nat → UInt64) (pa : Nat → Int32) (pw : Nat → UInt64) (ai : Nat → Int32) (aw : Nat → UInt64) (pl : Nat) (ord : Nat) (lr : Nat → Int32) (nu : Nat → Int32) (hsh : Int64) (ih : ∀ (n2 : Nat), n2 < L - p → ∀ (p : Nat) (now : LineSt) (spare : LineSt) (K : Nat → LineSt) (nw : Nat) (sts : Nat) (rf : Nat → Int32) (pg : PageSt) (wv : Nat → UInt64) (ah : Nat → UInt64) (pa : Nat → Int32) (pw : Nat → UInt64) (ai : Nat → Int32) (aw : Nat → UInt64) (pl : Nat) (ord : Nat) (lr : Nat → Int32) (nu : Nat → Int32) (hsh : Int64), p ≤ L → n2 = L - p → Rel now K nw sts pg wv pa pw pg.1 pg.2.1 → V g Γ 4 53 1103 18 (surgeW g a now spare K nw sts rf pg ++ modelW g b now.1 wv ah pa pw ai aw sts rf pg.1 pg.2.1 pl ord lr nu hsh) [(3, .int (nI p)), (2, .ref (b 0)), (1, .ref (a 0)), (0, .ref sc)] []) (hp : p + 4 ≤ L) (hR : Rel now K nw sts pg wv pa pw pg.1 pg.2.1) : V g Γ 4 53 1103 180 (surgeW g a now spare K nw sts rf pg ++ modelW g b now.1 wv ah pa pw ai aw sts rf pg.1 pg.2.1 pl ord lr nu hsh) [(3, .int (nI p)), (2, .ref (b 0)), (1, .ref (a 0)), (0, .ref sc)] [] := by
  obtain ⟨r1, r2, r3, r4, r5, r6, r7, -, -, r10⟩ := id hR
  obtain ⟨q1, hq1⟩ : ∃ q, xs (p + 1) = q := ⟨_, rfl⟩
  obtain ⟨q2, hq2⟩ : ∃ q, xs (p + 2) = q := ⟨_, rfl⟩
  rcases pk_ix q1 (n := 2) (by decide) with hq | hq | ⟨j, hj, rfl⟩
  · refine V_aload_n ok dL_law_180 rfl 2 rfl ?_
    refine V_aload_n ok dL_law_181 rfl 3 rfl ?_
    refine V_iload_n ok dL_law_182 rfl 0 rfl ?_
    refine V_iconst (v := nI 1) ok dL_law_183 rfl ?_
    refine V_iaddN (a := p) (b := 1) (c := p + 1) ok dL_law_184 (by first | rfl | omega) ?_
    refine V_sald (f := xs) ok (p + 1) s_X s_A s_z dL_law_185 rfl (by omega) (by omega) ?_
    refine V_top_int (b := q1) (hq1) ?_
    refine V_aload_n ok dL_law_186 rfl 3 rfl ?_
    refine V_iload_n ok dL_law_187 rfl 0 rfl ?_
    refine V_iconst (v := nI 2) ok dL_law_188 rfl ?_
    refine V_iaddN (a := p) (b := 2) (c := p + 2) ok dL_law_189 (by first | rfl | omega) ?_
    refine V_sald (f := xs) ok (p + 2) s_X s_A s_z dL_law_190 rfl (by omega) (by omega) ?_
    refine V_top_int (b := q2) (hq2) ?_
    refine V_lx (v2 := some (.int (-2))) (rest := []) ok (c_X2_ends_out g a now spare K nw sts rf pg q1 q2 (Or.inl hq)) 2 twm_L_23 twi_yX2_ends twv_yX2_ends twin_X2 twc_yX2_ends yok_X2_ends (by decide) ⟨rfl, rfl⟩ dL_law_191 rfl rfl rfl (Nat.le_of_ble_eq_true rfl) ⟨by decide, by decide⟩ ?_
    refine V_aload_n ok dL_law_194 rfl 1 rfl ?_
    refine V_aload_n ok dL_law_195 rfl 3 rfl ?_
    refine V_iload_n ok dL_law_196 rfl 0 rfl ?_
    refine V_iconst (v := nI 1) ok dL_law_197 rfl ?_
    refine V_iaddN (a := p) (b := 1) (c := p + 1) ok dL_law_198 (by first | rfl | omega) ?_
    refine V_sald (f := xs) ok (p + 1) s_X s_A s_z dL_law_199 rfl (by omega) (by omega) ?_
    refine V_top_int (b := q1) (hq1) ?_
    refine V_aload_n ok dL_law_200 rfl 3 rfl ?_
    refine V_iload_n ok dL_law_201 rfl 0 rfl ?_
    refine V_iconst (v := nI 2) ok dL_law_202 rfl ?_
    refine V_iaddN (a := p) (b := 2) (c := p + 2) ok dL_law_203 (by first | rfl | omega) ?_
    refine V_sald (f := xs) ok (p + 2) s_X s_A s_z dL_law_204 rfl (by omega) (by omega) ?_
    refine V_top_int (b := q2) (hq2) ?_
    refine V_lm (rest := [.int (-2)]) ok surge_len rfl rfl (c_X3_ends_bad g b now.1 wv ah pa pw ai aw sts rf pg.1 pg.2.1 pl ord lr nu hsh q1 q2 (fun z => by obtain ⟨j, e, hj⟩ := end_in z; rw [e] at hq; exact nI_pos (by omega) hq)) 2 twm_L_26 twi_yX3_ends twv_yX3_ends twin_X3 twc_yX3_ends yok_X3_ends (by decide) ⟨rfl, rfl⟩ dL_law_205 rfl rfl rfl (Nat.le_of_ble_eq_true rfl) ⟨by decide, by decide⟩ (fun _ _ hh => by obtain ⟨-, rfl⟩ := hh; rfl) (fun v_ w_ hh => ?_)
    obtain ⟨rfl, rfl⟩ := hh
    refine V_icmp_eq (tgt := 637) ok dL_law_208 (by decide) (fun h208 => ?_) (fun h208 => absurd rfl h208)
    refine V_iinc (q := 0) (v := nI (p + 4)) (lv2 := [(3, .int (nI (p + 4))), (2, .ref (b 0)), (1, .ref (a 0)), (0, .ref sc)]) ok dL_law_637 rfl (nI_inc p 4) (by decide) rfl ?_
    refine V_goto (tgt := 18) ok dL_law_640 (by decide) ?_
    refine V_lv [0, 1, 2, 3] rfl ?_
    exact ih (L - (p + 4)) (by omega) (p + 4) now spare K nw sts (rfU rf (-2)) pg wv ah pa pw ai aw pl ord lr nu hsh (by omega) rfl hR
  · refine V_aload_n ok dL_law_180 rfl 2 rfl ?_
    refine V_aload_n ok dL_law_181 rfl 3 rfl ?_
    refine V_iload_n ok dL_law_182 rfl 0 rfl ?_
    refine V_iconst (v := nI 1) ok dL_law_183 rfl ?_
    refine V_iaddN (a := p) (b := 1) (c := p + 1) ok dL_law_184 (by first | rfl | omega) ?_
    refine V_sald (f := xs) ok (p + 1) s_X s_A s_z dL_law_185 rfl (by omega) (by omega) ?_
    refine V_top_int (b := q1) (hq1) ?_
    refine V_aload_n ok dL_law_186 rfl 3 rfl ?_
    refine V_iload_n ok dL_law_187 rfl 0 rfl ?_
    refine V_iconst (v := nI 2) ok dL_law_188 rfl ?_
    refine V_iaddN (a := p) (b := 2) (c := p + 2) ok dL_law_189 (by first | rfl | omega) ?_
    refine V_sald (f := xs) ok (p + 2) s_X s_A s_z dL_law_190 rfl (by omega) (by omega) ?_
    refine V_top_int (b := q2) (hq2) ?_
    refine V_lx (v2 := some (.int (-2))) (rest := []) ok (c_X2_ends_out g a now spare K nw sts rf pg q1 q2 (Or.inr (Int32.lt_of_lt_of_le (by decide) hq))) 2 twm_L_23 twi_yX2_ends twv_yX2_ends twin_X2 twc_yX2_ends yok_X2_ends (by decide) ⟨rfl, rfl⟩ dL_law_191 rfl rfl rfl (Nat.le_of_ble_eq_true rfl) ⟨by decide, by decide⟩ ?_
    refine V_aload_n ok dL_law_194 rfl 1 rfl ?_
    refine V_aload_n ok dL_law_195 rfl 3 rfl ?_
    refine V_iload_n ok dL_law_196 rfl 0 rfl ?_
    refine V_iconst (v := nI 1) ok dL_law_197 rfl ?_
    refine V_iaddN (a := p) (b := 1) (c := p + 1) ok dL_law_198 (by first | rfl | omega) ?_
    refine V_sald (f := xs) ok (p + 1) s_X s_A s_z dL_law_199 rfl (by omega) (by omega) ?_
    refine V_top_int (b := q1) (hq1) ?_
    refine V_aload_n ok dL_law_200 rfl 3 rfl ?_
    refine V_iload_n ok dL_law_201 rfl 0 rfl ?_
    refine V_iconst (v := nI 2) ok dL_law_202 rfl ?_
    refine V_iaddN (a := p) (b := 2) (c := p + 2) ok dL_law_203 (by first | rfl | omega) ?_
    refine V_sald (f := xs) ok (p + 2) s_X s_A s_z dL_law_204 rfl (by omega) (by omega) ?_
    refine V_top_int (b := q2) (hq2) ?_
    refine V_lm (rest := [.int (-2)]) ok surge_len rfl rfl (c_X3_ends_bad g b now.1 wv ah pa pw ai aw sts rf pg.1 pg.2.1 pl ord lr nu hsh q1 q2 (fun z => by obtain ⟨j, e, hj⟩ := end_in z; rw [e] at hq; exact absurd hq (nI_ge (by omega) (by decide)))) 2 twm_L_26 twi_yX3_ends twv_yX3_ends twin_X3 twc_yX3_ends yok_X3_ends (by decide) ⟨rfl, rfl⟩ dL_law_205 rfl rfl rfl (Nat.le_of_ble_eq_true rfl) ⟨by decide, by decide⟩ (fun _ _ hh => by obtain ⟨-, rfl⟩ := hh; rfl) (fun v_ w_ hh => ?_)
    obtain ⟨rfl, rfl⟩ := hh
    refine V_icmp_eq (tgt := 637) ok dL_law_208 (by decide) (fun h208 => ?_) (fun h208 => absurd rfl h208)
    refine V_iinc (q := 0) (v := nI (p + 4)) (lv2 := [(3, .int (nI (p + 4))), (2, .ref (b 0)), (1, .ref (a 0)), (0, .ref sc)]) ok dL_law_637 rfl (nI_inc p 4) (by decide) rfl ?_
    refine V_goto (tgt := 18) ok dL_law_640 (by decide) ?_
    refine V_lv [0, 1, 2, 3] rfl ?_
    exact ih (L - (p + 4)) (by omega) (p + 4) now spare K nw sts (rfU rf (-2)) pg wv ah pa pw ai aw pl ord lr nu hsh (by omega) rfl hR
  · by_cases hf : fitsB (nI (4 + j)) q2 = true
    · refine V_aload_n ok dL_law_180 rfl 2 rfl ?_
      refine V_aload_n ok dL_law_181 rfl 3 rfl ?_
      refine V_iload_n ok dL_law_182 rfl 0 rfl ?_
      refine V_iconst (v := nI 1) ok dL_law_183 rfl ?_
      refine V_iaddN (a := p) (b := 1) (c := p + 1) ok dL_law_184 (by first | rfl | omega) ?_
      refine V_sald (f := xs) ok (p + 1) s_X s_A s_z dL_law_185 rfl (by omega) (by omega) ?_
      refine V_top_int (b := nI j) (hq1) ?_
      refine V_aload_n ok dL_law_186 rfl 3 rfl ?_
      refine V_iload_n ok dL_law_187 rfl 0 rfl ?_
      refine V_iconst (v := nI 2) ok dL_law_188 rfl ?_
      refine V_iaddN (a := p) (b := 2) (c := p + 2) ok dL_law_189 (by first | rfl | omega) ?_
      refine V_sald (f := xs) ok (p + 2) s_X s_A s_z dL_law_190 rfl (by omega) (by omega) ?_
      refine V_top_int (b := q2) (hq2) ?_
      refine V_lx (v2 := some (.int (now.1 (4 + j)))) (rest := []) ok (c_X2_ends_ok g a now spare K nw sts rf pg j q2 (by omega) hf r1 r5 r6) 2 twm_L_23 twi_yX2_ends twv_yX2_ends twin_X2 twc_yX2_ends yok_X2_ends (by decide) ⟨rfl, rfl⟩ dL_law_191 rfl rfl rfl (Nat.le_of_ble_eq_true rfl) ⟨by decide, by decide⟩ ?_
      refine V_aload_n ok dL_law_194 rfl 1 rfl ?_
      refine V_aload_n ok dL_law_195 rfl 3 rfl ?_
      refine V_iload_n ok dL_law_196 rfl 0 rfl ?_
      refine V_iconst (v := nI 1) ok dL_law_197 rfl ?_
      refine V_iaddN (a := p) (b := 1) (c := p + 1) ok dL_law_198 (by first | rfl | omega) ?_
      refine V_sald (f := xs) ok (p + 1) s_X s_A s_z dL_law_199 rfl (by omega) (by omega) ?_
      refine V_top_int (b := nI j) (hq1) ?_
      refine V_aload_n ok dL_law_200 rfl 3 rfl ?_
      refine V_iload_n ok dL_law_201 rfl 0 rfl ?_
      refine V_iconst (v := nI 2) ok dL_law_202 rfl ?_
      refine V_iaddN (a := p) (b := 2) (c := p + 2) ok dL_law_203 (by first | rfl | omega) ?_
      refine V_sald (f := xs) ok (p + 2) s_X s_A s_z dL_law_204 rfl (by omega) (by omega) ?_
      refine V_top_int (b := q2) (hq2) ?_
      refine V_lm (rest := [.int (now.1 (4 + j))]) ok surge_len rfl rfl (c_X3_ends_ok g b now wv ah pa pw ai aw sts rf pg.1 pg.2.1 pl ord lr nu hsh j q2 (by omega) ((end_fits (by omega) _).trans hf) (r1.1.put1 (fits_ok (by omega) hf)) r6) 2 twm_L_26 twi_yX3_ends twv_yX3_ends twin_X3 twc_yX3_ends yok_X3_ends (by decide) ⟨rfl, rfl⟩ dL_law_205 rfl rfl rfl (Nat.le_of_ble_eq_true rfl) ⟨by decide, by decide⟩ (fun _ _ hh => by obtain ⟨-, _, _, rfl⟩ := hh; rfl) (fun v_ w_ hh => ?_)
      obtain ⟨rfl, wv2, hw2, rfl⟩ := hh
      refine V_icmp_eq (tgt := 637) ok dL_law_208 (by decide) (fun h208 => ?_) (fun h208 => absurd rfl h208)
      refine V_iinc (q := 0) (v := nI (p + 4)) (lv2 := [(3, .int (nI (p + 4))), (2, .ref (b 0)), (1, .ref (a 0)), (0, .ref sc)]) ok dL_law_637 rfl (nI_inc p 4) (by decide) rfl ?_
      refine V_goto (tgt := 18) ok dL_law_640 (by decide) ?_
      refine V_lv [0, 1, 2, 3] rfl ?_
      exact ih (L - (p + 4)) (by omega) (p + 4) (settleL (upd now.1 (4 + j) q2, now.2)) spare (ringU K nw now) ((nw + 1) % 4) (stsU sts) rf pg wv2 ah (leaI pa sts now.1) (leaD pw sts wv) ai aw pl ord lr nu hsh (by omega) rfl (hR.kept (LG.settle (r1.1.put1 (fits_ok (by omega) hf))) hw2)
    · refine V_aload_n ok dL_law_180 rfl 2 rfl ?_
      refine V_aload_n ok dL_law_181 rfl 3 rfl ?_
      refine V_iload_n ok dL_law_182 rfl 0 rfl ?_
      refine V_iconst (v := nI 1) ok dL_law_183 rfl ?_
      refine V_iaddN (a := p) (b := 1) (c := p + 1) ok dL_law_184 (by first | rfl | omega) ?_
      refine V_sald (f := xs) ok (p + 1) s_X s_A s_z dL_law_185 rfl (by omega) (by omega) ?_
      refine V_top_int (b := nI j) (hq1) ?_
      refine V_aload_n ok dL_law_186 rfl 3 rfl ?_
      refine V_iload_n ok dL_law_187 rfl 0 rfl ?_
      refine V_iconst (v := nI 2) ok dL_law_188 rfl ?_
      refine V_iaddN (a := p) (b := 2) (c := p + 2) ok dL_law_189 (by first | rfl | omega) ?_
      refine V_sald (f := xs) ok (p + 2) s_X s_A s_z dL_law_190 rfl (by omega) (by omega) ?_
      refine V_top_int (b := q2) (hq2) ?_
      refine V_lx (v2 := some (.int (-2))) (rest := []) ok (c_X2_ends_bad g a now spare K nw sts rf pg j q2 (by omega) hf) 2 twm_L_23 twi_yX2_ends twv_yX2_ends twin_X2 twc_yX2_ends yok_X2_ends (by decide) ⟨rfl, rfl⟩ dL_law_191 rfl rfl rfl (Nat.le_of_ble_eq_true rfl) ⟨by decide, by decide⟩ ?_
      refine V_aload_n ok dL_law_194 rfl 1 rfl ?_
      refine V_aload_n ok dL_law_195 rfl 3 rfl ?_
      refine V_iload_n ok dL_law_196 rfl 0 rfl ?_
      refine V_iconst (v := nI 1) ok dL_law_197 rfl ?_
      refine V_iaddN (a := p) (b := 1) (c := p + 1) ok dL_law_198 (by first | rfl | omega) ?_
      refine V_sald (f := xs) ok (p + 1) s_X s_A s_z dL_law_199 rfl (by omega) (by omega) ?_
      refine V_top_int (b := nI j) (hq1) ?_
      refine V_aload_n ok dL_law_200 rfl 3 rfl ?_
      refine V_iload_n ok dL_law_201 rfl 0 rfl ?_
      refine V_iconst (v := nI 2) ok dL_law_202 rfl ?_
      refine V_iaddN (a := p) (b := 2) (c := p + 2) ok dL_law_203 (by first | rfl | omega) ?_
      refine V_sald (f := xs) ok (p + 2) s_X s_A s_z dL_law_204 rfl (by omega) (by omega) ?_
      refine V_top_int (b := q2) (hq2) ?_
      refine V_lm (rest := [.int (-2)]) ok surge_len rfl rfl (c_X3_ends_bad g b now.1 wv ah pa pw ai aw sts rf pg.1 pg.2.1 pl ord lr nu hsh (nI j) q2 (fun z => hf ((end_fits (by omega) _).symm.trans z))) 2 twm_L_26 twi_yX3_ends twv_yX3_ends twin_X3 twc_yX3_ends yok_X3_ends (by decide) ⟨rfl, rfl⟩ dL_law_205 rfl rfl rfl (Nat.le_of_ble_eq_true rfl) ⟨by decide, by decide⟩ (fun _ _ hh => by obtain ⟨-, rfl⟩ := hh; rfl) (fun v_ w_ hh => ?_)
      obtain ⟨rfl, rfl⟩ := hh
      refine V_icmp_eq (tgt := 637) ok dL_law_208 (by decide) (fun h208 => ?_) (fun h208 => absurd rfl h208)
      refine V_iinc (q := 0) (v := nI (p + 4)) (lv2 := [(3, .int (nI (p + 4))), (2, .ref (b 0)), (1, .ref (a 0)), (0, .ref sc)]) ok dL_law_637 rfl (nI_inc p 4) (by decide) rfl ?_
      refine V_goto (tgt := 18) ok dL_law_640 (by decide) ?_
      refine V_lv [0, 1, 2, 3] rfl ?_
      exact ih (L - (p + 4)) (by omega) (p + 4) now spare K nw sts (rfU rf (-2)) pg wv ah pa pw ai aw pl ord lr nu hsh (by omega) rfl hR
set_option maxHeartbeats 4000000 in
set_option maxRecDepth 100000 in
theorem law_3 {g : Glob} {Γ : Ctx} {nm : String} (ok : OK g Γ ⟨RL, nm, ""⟩ cL_law 4 (some .boolean) room_1 (fun r _ => r = some (.int 1))) {a b : Nat → Nat} {sc L : Nat} {xs : Nat → Int32} (s_X : va_X sc L xs (kS Γ) (kS Γ).heap) (s_A : ¬ kO Γ sc) (s_z : sc < (kS Γ).heap.size) (hL : L ≤ 2048) (p : Nat) (now : LineSt) (spare : LineSt) (K : Nat → LineSt) (nw : Nat) (sts : Nat) (rf : Nat → Int32) (pg : PageSt) (wv : Nat → UInt64) (ah : Nat → UInt64) (pa : Nat → Int32) (pw : Nat → UInt64) (ai : Nat → Int32) (aw : Nat → UInt64) (pl : Nat) (ord : Nat) (lr : Nat → Int32) (nu : Nat → Int32) (hsh : Int64) (ih : ∀ (n2 : Nat), n2 < L - p → ∀ (p : Nat) (now : LineSt) (spare : LineSt) (K : Nat → LineSt) (nw : Nat) (sts : Nat) (rf : Nat → Int32) (pg : PageSt) (wv : Nat → UInt64) (ah : Nat → UInt64) (pa : Nat → Int32) (pw : Nat → UInt64) (ai : Nat → Int32) (aw : Nat → UInt64) (pl : Nat) (ord : Nat) (lr : Nat → Int32) (nu : Nat → Int32) (hsh : Int64), p ≤ L → n2 = L - p → Rel now K nw sts pg wv pa pw pg.1 pg.2.1 → V g Γ 4 53 1103 18 (surgeW g a now spare K nw sts rf pg ++ modelW g b now.1 wv ah pa pw ai aw sts rf pg.1 pg.2.1 pl ord lr nu hsh) [(3, .int (nI p)), (2, .ref (b 0)), (1, .ref (a 0)), (0, .ref sc)] []) (hp : p + 4 ≤ L) (hR : Rel now K nw sts pg wv pa pw pg.1 pg.2.1) : V g Γ 4 53 1103 213 (surgeW g a now spare K nw sts rf pg ++ modelW g b now.1 wv ah pa pw ai aw sts rf pg.1 pg.2.1 pl ord lr nu hsh) [(3, .int (nI p)), (2, .ref (b 0)), (1, .ref (a 0)), (0, .ref sc)] [] := by
  obtain ⟨r1, r2, r3, r4, r5, r6, r7, -, -, r10⟩ := id hR
  obtain ⟨q1, hq1⟩ : ∃ q, xs (p + 1) = q := ⟨_, rfl⟩
  obtain ⟨q2, hq2⟩ : ∃ q, xs (p + 2) = q := ⟨_, rfl⟩
  by_cases hl : isLawB q1 q2 = true
  · refine V_aload_n ok dL_law_213 rfl 2 rfl ?_
    refine V_aload_n ok dL_law_214 rfl 3 rfl ?_
    refine V_iload_n ok dL_law_215 rfl 0 rfl ?_
    refine V_iconst (v := nI 1) ok dL_law_216 rfl ?_
    refine V_iaddN (a := p) (b := 1) (c := p + 1) ok dL_law_217 (by first | rfl | omega) ?_
    refine V_sald (f := xs) ok (p + 1) s_X s_A s_z dL_law_218 rfl (by omega) (by omega) ?_
    refine V_top_int (b := q1) (hq1) ?_
    refine V_aload_n ok dL_law_219 rfl 3 rfl ?_
    refine V_iload_n ok dL_law_220 rfl 0 rfl ?_
    refine V_iconst (v := nI 2) ok dL_law_221 rfl ?_
    refine V_iaddN (a := p) (b := 2) (c := p + 2) ok dL_law_222 (by first | rfl | omega) ?_
    refine V_sald (f := xs) ok (p + 2) s_X s_A s_z dL_law_223 rfl (by omega) (by omega) ?_
    refine V_top_int (b := q2) (hq2) ?_
    refine V_lx (v2 := some (.int (now.1 6))) (rest := []) ok (c_X2_law_ok g a now spare K nw sts rf pg q1 q2 hl r5 r6) 2 twm_L_27 twi_yX2_law twv_yX2_law twin_X2 twc_yX2_law yok_X2_law (by decide) ⟨rfl, rfl⟩ dL_law_224 rfl rfl rfl (Nat.le_of_ble_eq_true rfl) ⟨by decide, by decide⟩ ?_
    refine V_aload_n ok dL_law_227 rfl 1 rfl ?_
    refine V_aload_n ok dL_law_228 rfl 3 rfl ?_
    refine V_iload_n ok dL_law_229 rfl 0 rfl ?_
    refine V_iconst (v := nI 1) ok dL_law_230 rfl ?_
    refine V_iaddN (a := p) (b := 1) (c := p + 1) ok dL_law_231 (by first | rfl | omega) ?_
    refine V_sald (f := xs) ok (p + 1) s_X s_A s_z dL_law_232 rfl (by omega) (by omega) ?_
    refine V_top_int (b := q1) (hq1) ?_
    refine V_aload_n ok dL_law_233 rfl 3 rfl ?_
    refine V_iload_n ok dL_law_234 rfl 0 rfl ?_
    refine V_iconst (v := nI 2) ok dL_law_235 rfl ?_
    refine V_iaddN (a := p) (b := 2) (c := p + 2) ok dL_law_236 (by first | rfl | omega) ?_
    refine V_sald (f := xs) ok (p + 2) s_X s_A s_z dL_law_237 rfl (by omega) (by omega) ?_
    refine V_top_int (b := q2) (hq2) ?_
    refine V_lm (rest := [.int (now.1 6)]) ok surge_len rfl rfl (c_X3_law_ok g b now wv ah pa pw ai aw sts rf pg.1 pg.2.1 pl ord lr nu hsh q1 q2 ((law_fits _ _).trans hl) r6) 2 twm_L_30 twi_yX3_law twv_yX3_law twin_X3 twc_yX3_law yok_X3_law (by decide) ⟨rfl, rfl⟩ dL_law_238 rfl rfl rfl (Nat.le_of_ble_eq_true rfl) ⟨by decide, by decide⟩ (fun _ _ hh => by obtain ⟨-, rfl⟩ := hh; rfl) (fun v_ w_ hh => ?_)
    obtain ⟨rfl, rfl⟩ := hh
    refine V_icmp_eq (tgt := 637) ok dL_law_241 (by decide) (fun h241 => ?_) (fun h241 => absurd rfl h241)
    refine V_iinc (q := 0) (v := nI (p + 4)) (lv2 := [(3, .int (nI (p + 4))), (2, .ref (b 0)), (1, .ref (a 0)), (0, .ref sc)]) ok dL_law_637 rfl (nI_inc p 4) (by decide) rfl ?_
    refine V_goto (tgt := 18) ok dL_law_640 (by decide) ?_
    refine V_lv [0, 1, 2, 3] rfl ?_
    exact ih (L - (p + 4)) (by omega) (p + 4) (upd (upd now.1 6 q1) 7 q2, now.2) spare (ringU K nw now) ((nw + 1) % 4) (stsU sts) rf pg wv ah (leaI pa sts now.1) (leaD pw sts wv) ai aw pl ord lr nu hsh (by omega) rfl (hR.kept (LG.law r1 (isLaw_ok hl).1 (isLaw_ok hl).2) (r2.law _ _))
  · refine V_aload_n ok dL_law_213 rfl 2 rfl ?_
    refine V_aload_n ok dL_law_214 rfl 3 rfl ?_
    refine V_iload_n ok dL_law_215 rfl 0 rfl ?_
    refine V_iconst (v := nI 1) ok dL_law_216 rfl ?_
    refine V_iaddN (a := p) (b := 1) (c := p + 1) ok dL_law_217 (by first | rfl | omega) ?_
    refine V_sald (f := xs) ok (p + 1) s_X s_A s_z dL_law_218 rfl (by omega) (by omega) ?_
    refine V_top_int (b := q1) (hq1) ?_
    refine V_aload_n ok dL_law_219 rfl 3 rfl ?_
    refine V_iload_n ok dL_law_220 rfl 0 rfl ?_
    refine V_iconst (v := nI 2) ok dL_law_221 rfl ?_
    refine V_iaddN (a := p) (b := 2) (c := p + 2) ok dL_law_222 (by first | rfl | omega) ?_
    refine V_sald (f := xs) ok (p + 2) s_X s_A s_z dL_law_223 rfl (by omega) (by omega) ?_
    refine V_top_int (b := q2) (hq2) ?_
    refine V_lx (v2 := some (.int (-2))) (rest := []) ok (c_X2_law_bad g a now spare K nw sts rf pg q1 q2 hl) 2 twm_L_27 twi_yX2_law twv_yX2_law twin_X2 twc_yX2_law yok_X2_law (by decide) ⟨rfl, rfl⟩ dL_law_224 rfl rfl rfl (Nat.le_of_ble_eq_true rfl) ⟨by decide, by decide⟩ ?_
    refine V_aload_n ok dL_law_227 rfl 1 rfl ?_
    refine V_aload_n ok dL_law_228 rfl 3 rfl ?_
    refine V_iload_n ok dL_law_229 rfl 0 rfl ?_
    refine V_iconst (v := nI 1) ok dL_law_230 rfl ?_
    refine V_iaddN (a := p) (b := 1) (c := p + 1) ok dL_law_231 (by first | rfl | omega) ?_
    refine V_sald (f := xs) ok (p + 1) s_X s_A s_z dL_law_232 rfl (by omega) (by omega) ?_
    refine V_top_int (b := q1) (hq1) ?_
    refine V_aload_n ok dL_law_233 rfl 3 rfl ?_
    refine V_iload_n ok dL_law_234 rfl 0 rfl ?_
    refine V_iconst (v := nI 2) ok dL_law_235 rfl ?_
    refine V_iaddN (a := p) (b := 2) (c := p + 2) ok dL_law_236 (by first | rfl | omega) ?_
    refine V_sald (f := xs) ok (p + 2) s_X s_A s_z dL_law_237 rfl (by omega) (by omega) ?_
    refine V_top_int (b := q2) (hq2) ?_
    refine V_lm (rest := [.int (-2)]) ok surge_len rfl rfl (c_X3_law_bad g b now.1 wv ah pa pw ai aw sts rf pg.1 pg.2.1 pl ord lr nu hsh q1 q2 (fun z => hl ((law_fits _ _).symm.trans z))) 2 twm_L_30 twi_yX3_law twv_yX3_law twin_X3 twc_yX3_law yok_X3_law (by decide) ⟨rfl, rfl⟩ dL_law_238 rfl rfl rfl (Nat.le_of_ble_eq_true rfl) ⟨by decide, by decide⟩ (fun _ _ hh => by obtain ⟨-, rfl⟩ := hh; rfl) (fun v_ w_ hh => ?_)
    obtain ⟨rfl, rfl⟩ := hh
    refine V_icmp_eq (tgt := 637) ok dL_law_241 (by decide) (fun h241 => ?_) (fun h241 => absurd rfl h241)
    refine V_iinc (q := 0) (v := nI (p + 4)) (lv2 := [(3, .int (nI (p + 4))), (2, .ref (b 0)), (1, .ref (a 0)), (0, .ref sc)]) ok dL_law_637 rfl (nI_inc p 4) (by decide) rfl ?_
    refine V_goto (tgt := 18) ok dL_law_640 (by decide) ?_
    refine V_lv [0, 1, 2, 3] rfl ?_
    exact ih (L - (p + 4)) (by omega) (p + 4) now spare K nw sts (rfU rf (-2)) pg wv ah pa pw ai aw pl ord lr nu hsh (by omega) rfl hR
set_option maxHeartbeats 4000000 in
set_option maxRecDepth 100000 in
theorem law_4 {g : Glob} {Γ : Ctx} {nm : String} (ok : OK g Γ ⟨RL, nm, ""⟩ cL_law 4 (some .boolean) room_1 (fun r _ => r = some (.int 1))) {a b : Nat → Nat} {sc L : Nat} {xs : Nat → Int32} (s_X : va_X sc L xs (kS Γ) (kS Γ).heap) (s_A : ¬ kO Γ sc) (s_z : sc < (kS Γ).heap.size) (hL : L ≤ 2048) (p : Nat) (now : LineSt) (spare : LineSt) (K : Nat → LineSt) (nw : Nat) (sts : Nat) (rf : Nat → Int32) (pg : PageSt) (wv : Nat → UInt64) (ah : Nat → UInt64) (pa : Nat → Int32) (pw : Nat → UInt64) (ai : Nat → Int32) (aw : Nat → UInt64) (pl : Nat) (ord : Nat) (lr : Nat → Int32) (nu : Nat → Int32) (hsh : Int64) (ih : ∀ (n2 : Nat), n2 < L - p → ∀ (p : Nat) (now : LineSt) (spare : LineSt) (K : Nat → LineSt) (nw : Nat) (sts : Nat) (rf : Nat → Int32) (pg : PageSt) (wv : Nat → UInt64) (ah : Nat → UInt64) (pa : Nat → Int32) (pw : Nat → UInt64) (ai : Nat → Int32) (aw : Nat → UInt64) (pl : Nat) (ord : Nat) (lr : Nat → Int32) (nu : Nat → Int32) (hsh : Int64), p ≤ L → n2 = L - p → Rel now K nw sts pg wv pa pw pg.1 pg.2.1 → V g Γ 4 53 1103 18 (surgeW g a now spare K nw sts rf pg ++ modelW g b now.1 wv ah pa pw ai aw sts rf pg.1 pg.2.1 pl ord lr nu hsh) [(3, .int (nI p)), (2, .ref (b 0)), (1, .ref (a 0)), (0, .ref sc)] []) (hp : p + 4 ≤ L) (hR : Rel now K nw sts pg wv pa pw pg.1 pg.2.1) : V g Γ 4 53 1103 246 (surgeW g a now spare K nw sts rf pg ++ modelW g b now.1 wv ah pa pw ai aw sts rf pg.1 pg.2.1 pl ord lr nu hsh) [(3, .int (nI p)), (2, .ref (b 0)), (1, .ref (a 0)), (0, .ref sc)] [] := by
  obtain ⟨r1, r2, r3, r4, r5, r6, r7, -, -, r10⟩ := id hR
  refine V_aload_n ok dL_law_246 rfl 2 rfl ?_
  refine V_lx (v2 := some (.int (now.1 8))) (rest := []) ok (c_X2_steady g a now spare K nw sts rf pg r1 r5 r6) 0 twm_L_31 twi_yX2_steady twv_yX2_steady twin_X2 twc_yX2_steady yok_X2_steady (by decide) ⟨rfl, rfl⟩ dL_law_247 rfl rfl rfl (Nat.le_of_ble_eq_true rfl) ⟨by decide, by decide⟩ ?_
  refine V_aload_n ok dL_law_250 rfl 1 rfl ?_
  refine V_lm (rest := [.int (now.1 8)]) ok surge_len rfl rfl (c_X3_steady g b now wv ah pa pw ai aw sts rf pg.1 pg.2.1 pl ord lr nu hsh r1.1 r6) 0 twm_L_35 twi_yX3_steady twv_yX3_steady twin_X3 twc_yX3_steady yok_X3_steady (by decide) ⟨rfl, rfl⟩ dL_law_251 rfl rfl rfl (Nat.le_of_ble_eq_true rfl) ⟨by decide, by decide⟩ (fun _ _ hh => by obtain ⟨-, _, _, rfl⟩ := hh; rfl) (fun v_ w_ hh => ?_)
  obtain ⟨rfl, wv2, hw2, rfl⟩ := hh
  refine V_icmp_eq (tgt := 637) ok dL_law_254 (by decide) (fun h254 => ?_) (fun h254 => absurd rfl h254)
  refine V_iinc (q := 0) (v := nI (p + 4)) (lv2 := [(3, .int (nI (p + 4))), (2, .ref (b 0)), (1, .ref (a 0)), (0, .ref sc)]) ok dL_law_637 rfl (nI_inc p 4) (by decide) rfl ?_
  refine V_goto (tgt := 18) ok dL_law_640 (by decide) ?_
  refine V_lv [0, 1, 2, 3] rfl ?_
  exact ih (L - (p + 4)) (by omega) (p + 4) (settleL now) spare (ringU K nw now) ((nw + 1) % 4) (stsU sts) rf pg wv2 ah (leaI pa sts now.1) (leaD pw sts wv) ai aw pl ord lr nu hsh (by omega) rfl (hR.kept (LG.settle r1.1) hw2)
set_option maxHeartbeats 4000000 in
set_option maxRecDepth 100000 in
theorem law_5 {g : Glob} {Γ : Ctx} {nm : String} (ok : OK g Γ ⟨RL, nm, ""⟩ cL_law 4 (some .boolean) room_1 (fun r _ => r = some (.int 1))) {a b : Nat → Nat} {sc L : Nat} {xs : Nat → Int32} (s_X : va_X sc L xs (kS Γ) (kS Γ).heap) (s_A : ¬ kO Γ sc) (s_z : sc < (kS Γ).heap.size) (hL : L ≤ 2048) (p : Nat) (now : LineSt) (spare : LineSt) (K : Nat → LineSt) (nw : Nat) (sts : Nat) (rf : Nat → Int32) (pg : PageSt) (wv : Nat → UInt64) (ah : Nat → UInt64) (pa : Nat → Int32) (pw : Nat → UInt64) (ai : Nat → Int32) (aw : Nat → UInt64) (pl : Nat) (ord : Nat) (lr : Nat → Int32) (nu : Nat → Int32) (hsh : Int64) (ih : ∀ (n2 : Nat), n2 < L - p → ∀ (p : Nat) (now : LineSt) (spare : LineSt) (K : Nat → LineSt) (nw : Nat) (sts : Nat) (rf : Nat → Int32) (pg : PageSt) (wv : Nat → UInt64) (ah : Nat → UInt64) (pa : Nat → Int32) (pw : Nat → UInt64) (ai : Nat → Int32) (aw : Nat → UInt64) (pl : Nat) (ord : Nat) (lr : Nat → Int32) (nu : Nat → Int32) (hsh : Int64), p ≤ L → n2 = L - p → Rel now K nw sts pg wv pa pw pg.1 pg.2.1 → V g Γ 4 53 1103 18 (surgeW g a now spare K nw sts rf pg ++ modelW g b now.1 wv ah pa pw ai aw sts rf pg.1 pg.2.1 pl ord lr nu hsh) [(3, .int (nI p)), (2, .ref (b 0)), (1, .ref (a 0)), (0, .ref sc)] []) (hp : p + 4 ≤ L) (hR : Rel now K nw sts pg wv pa pw pg.1 pg.2.1) : V g Γ 4 53 1103 259 (surgeW g a now spare K nw sts rf pg ++ modelW g b now.1 wv ah pa pw ai aw sts rf pg.1 pg.2.1 pl ord lr nu hsh) [(3, .int (nI p)), (2, .ref (b 0)), (1, .ref (a 0)), (0, .ref sc)] [] := by
  obtain ⟨r1, r2, r3, r4, r5, r6, r7, -, -, r10⟩ := id hR
  obtain ⟨q1, hq1⟩ : ∃ q, xs (p + 1) = q := ⟨_, rfl⟩
  by_cases hs : stepB q1 = true
  · obtain ⟨c1, rfl, hc1, hc2⟩ := wi_nat (lo := 1) (hi := 100) hs (by decide)
    by_cases ht : timeB now.1 (nI c1) = true
    · have hn := (timeB_iff r1.1 hc2).mp ht
      have ht2 : ¬ nI 999 < now.1 8 + nI c1 := fun z => time_f z ht
      refine V_aload_n ok dL_law_259 rfl 2 rfl ?_
      refine V_aload_n ok dL_law_260 rfl 3 rfl ?_
      refine V_iload_n ok dL_law_261 rfl 0 rfl ?_
      refine V_iconst (v := nI 1) ok dL_law_262 rfl ?_
      refine V_iaddN (a := p) (b := 1) (c := p + 1) ok dL_law_263 (by first | rfl | omega) ?_
      refine V_sald (f := xs) ok (p + 1) s_X s_A s_z dL_law_264 rfl (by omega) (by omega) ?_
      refine V_top_int (b := nI c1) (hq1) ?_
      refine V_lx (v2 := some (.int ((advL c1 now).1 8))) (rest := []) ok (c_X2_steps_ok g a now spare K nw sts rf pg c1 hs ht r1 hn r5 r6) 1 twm_L_36 twi_yX2_steps twv_yX2_steps twin_X2 twc_yX2_steps yok_X2_steps (by decide) ⟨rfl, rfl⟩ dL_law_265 rfl rfl rfl (Nat.le_of_ble_eq_true rfl) ⟨by decide, by decide⟩ ?_
      refine V_aload_n ok dL_law_268 rfl 1 rfl ?_
      refine V_aload_n ok dL_law_269 rfl 3 rfl ?_
      refine V_iload_n ok dL_law_270 rfl 0 rfl ?_
      refine V_iconst (v := nI 1) ok dL_law_271 rfl ?_
      refine V_iaddN (a := p) (b := 1) (c := p + 1) ok dL_law_272 (by first | rfl | omega) ?_
      refine V_sald (f := xs) ok (p + 1) s_X s_A s_z dL_law_273 rfl (by omega) (by omega) ?_
      refine V_top_int (b := nI c1) (hq1) ?_
      refine V_lm (rest := [.int ((advL c1 now).1 8)]) ok surge_len rfl rfl (c_X3_steps_ok g b now wv ah pa pw ai aw sts rf pg.1 pg.2.1 pl ord lr nu hsh c1 hs (Int32.not_lt.mp ht2) r1 hn r2 r6) 1 twm_L_39 twi_yX3_steps twv_yX3_steps twin_X3 twc_yX3_steps yok_X3_steps (by decide) ⟨rfl, rfl⟩ dL_law_274 rfl rfl rfl (Nat.le_of_ble_eq_true rfl) ⟨by decide, by decide⟩ (fun _ _ hh => by obtain ⟨-, _, _, _, rfl⟩ := hh; rfl) (fun v_ w_ hh => ?_)
      obtain ⟨rfl, wv2, ah2, hw2, rfl⟩ := hh
      refine V_icmp_eq (tgt := 637) ok dL_law_277 (by decide) (fun h277 => ?_) (fun h277 => absurd rfl h277)
      refine V_iinc (q := 0) (v := nI (p + 4)) (lv2 := [(3, .int (nI (p + 4))), (2, .ref (b 0)), (1, .ref (a 0)), (0, .ref sc)]) ok dL_law_637 rfl (nI_inc p 4) (by decide) rfl ?_
      refine V_goto (tgt := 18) ok dL_law_640 (by decide) ?_
      refine V_lv [0, 1, 2, 3] rfl ?_
      exact ih (L - (p + 4)) (by omega) (p + 4) (advL c1 now) spare (ringU K nw now) ((nw + 1) % 4) (stsU sts) rf pg wv2 ah2 (leaI pa sts now.1) (leaD pw sts wv) ai aw pl ord lr nu hsh (by omega) rfl (hR.kept (r1.adv c1 hn).1 hw2)
    · refine V_aload_n ok dL_law_259 rfl 2 rfl ?_
      refine V_aload_n ok dL_law_260 rfl 3 rfl ?_
      refine V_iload_n ok dL_law_261 rfl 0 rfl ?_
      refine V_iconst (v := nI 1) ok dL_law_262 rfl ?_
      refine V_iaddN (a := p) (b := 1) (c := p + 1) ok dL_law_263 (by first | rfl | omega) ?_
      refine V_sald (f := xs) ok (p + 1) s_X s_A s_z dL_law_264 rfl (by omega) (by omega) ?_
      refine V_top_int (b := nI c1) (hq1) ?_
      refine V_lx (v2 := some (.int (-4))) (rest := []) ok (c_X2_steps_full g a now spare K nw sts rf pg c1 hs ht) 1 twm_L_36 twi_yX2_steps twv_yX2_steps twin_X2 twc_yX2_steps yok_X2_steps (by decide) ⟨rfl, rfl⟩ dL_law_265 rfl rfl rfl (Nat.le_of_ble_eq_true rfl) ⟨by decide, by decide⟩ ?_
      refine V_aload_n ok dL_law_268 rfl 1 rfl ?_
      refine V_aload_n ok dL_law_269 rfl 3 rfl ?_
      refine V_iload_n ok dL_law_270 rfl 0 rfl ?_
      refine V_iconst (v := nI 1) ok dL_law_271 rfl ?_
      refine V_iaddN (a := p) (b := 1) (c := p + 1) ok dL_law_272 (by first | rfl | omega) ?_
      refine V_sald (f := xs) ok (p + 1) s_X s_A s_z dL_law_273 rfl (by omega) (by omega) ?_
      refine V_top_int (b := nI c1) (hq1) ?_
      refine V_lm (rest := [.int (-4)]) ok surge_len rfl rfl (c_X3_steps_full g b now.1 wv ah pa pw ai aw sts rf pg.1 pg.2.1 pl ord lr nu hsh (nI c1) hs (fun z => ht (time_t (Int32.not_lt.mpr z)))) 1 twm_L_39 twi_yX3_steps twv_yX3_steps twin_X3 twc_yX3_steps yok_X3_steps (by decide) ⟨rfl, rfl⟩ dL_law_274 rfl rfl rfl (Nat.le_of_ble_eq_true rfl) ⟨by decide, by decide⟩ (fun _ _ hh => by obtain ⟨-, rfl⟩ := hh; rfl) (fun v_ w_ hh => ?_)
      obtain ⟨rfl, rfl⟩ := hh
      refine V_icmp_eq (tgt := 637) ok dL_law_277 (by decide) (fun h277 => ?_) (fun h277 => absurd rfl h277)
      refine V_iinc (q := 0) (v := nI (p + 4)) (lv2 := [(3, .int (nI (p + 4))), (2, .ref (b 0)), (1, .ref (a 0)), (0, .ref sc)]) ok dL_law_637 rfl (nI_inc p 4) (by decide) rfl ?_
      refine V_goto (tgt := 18) ok dL_law_640 (by decide) ?_
      refine V_lv [0, 1, 2, 3] rfl ?_
      exact ih (L - (p + 4)) (by omega) (p + 4) now spare K nw sts (rfU rf (-4)) pg wv ah pa pw ai aw pl ord lr nu hsh (by omega) rfl hR
  · refine V_aload_n ok dL_law_259 rfl 2 rfl ?_
    refine V_aload_n ok dL_law_260 rfl 3 rfl ?_
    refine V_iload_n ok dL_law_261 rfl 0 rfl ?_
    refine V_iconst (v := nI 1) ok dL_law_262 rfl ?_
    refine V_iaddN (a := p) (b := 1) (c := p + 1) ok dL_law_263 (by first | rfl | omega) ?_
    refine V_sald (f := xs) ok (p + 1) s_X s_A s_z dL_law_264 rfl (by omega) (by omega) ?_
    refine V_top_int (b := q1) (hq1) ?_
    refine V_lx (v2 := some (.int (-2))) (rest := []) ok (c_X2_steps_bad g a now spare K nw sts rf pg q1 hs) 1 twm_L_36 twi_yX2_steps twv_yX2_steps twin_X2 twc_yX2_steps yok_X2_steps (by decide) ⟨rfl, rfl⟩ dL_law_265 rfl rfl rfl (Nat.le_of_ble_eq_true rfl) ⟨by decide, by decide⟩ ?_
    refine V_aload_n ok dL_law_268 rfl 1 rfl ?_
    refine V_aload_n ok dL_law_269 rfl 3 rfl ?_
    refine V_iload_n ok dL_law_270 rfl 0 rfl ?_
    refine V_iconst (v := nI 1) ok dL_law_271 rfl ?_
    refine V_iaddN (a := p) (b := 1) (c := p + 1) ok dL_law_272 (by first | rfl | omega) ?_
    refine V_sald (f := xs) ok (p + 1) s_X s_A s_z dL_law_273 rfl (by omega) (by omega) ?_
    refine V_top_int (b := q1) (hq1) ?_
    refine V_lm (rest := [.int (-2)]) ok surge_len rfl rfl (c_X3_steps_bad g b now.1 wv ah pa pw ai aw sts rf pg.1 pg.2.1 pl ord lr nu hsh q1 hs) 1 twm_L_39 twi_yX3_steps twv_yX3_steps twin_X3 twc_yX3_steps yok_X3_steps (by decide) ⟨rfl, rfl⟩ dL_law_274 rfl rfl rfl (Nat.le_of_ble_eq_true rfl) ⟨by decide, by decide⟩ (fun _ _ hh => by obtain ⟨-, rfl⟩ := hh; rfl) (fun v_ w_ hh => ?_)
    obtain ⟨rfl, rfl⟩ := hh
    refine V_icmp_eq (tgt := 637) ok dL_law_277 (by decide) (fun h277 => ?_) (fun h277 => absurd rfl h277)
    refine V_iinc (q := 0) (v := nI (p + 4)) (lv2 := [(3, .int (nI (p + 4))), (2, .ref (b 0)), (1, .ref (a 0)), (0, .ref sc)]) ok dL_law_637 rfl (nI_inc p 4) (by decide) rfl ?_
    refine V_goto (tgt := 18) ok dL_law_640 (by decide) ?_
    refine V_lv [0, 1, 2, 3] rfl ?_
    exact ih (L - (p + 4)) (by omega) (p + 4) now spare K nw sts (rfU rf (-2)) pg wv ah pa pw ai aw pl ord lr nu hsh (by omega) rfl hR
