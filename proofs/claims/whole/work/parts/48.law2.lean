set_option maxHeartbeats 4000000 in
set_option maxRecDepth 100000 in
theorem law_6 {g : Glob} {Γ : Ctx} {nm : String} (ok : OK g Γ ⟨RL, nm, ""⟩ cL_law 4 (some .boolean) room_1 (fun r _ => r = some (.int 1))) {a b : Nat → Nat} {sc L : Nat} {xs : Nat → Int32} (s_X : va_X sc L xs (kS Γ) (kS Γ).heap) (s_A : ¬ kO Γ sc) (s_z : sc < (kS Γ).heap.size) (hL : L ≤ 2048) (p : Nat) (now : LineSt) (spare : LineSt) (K : Nat → LineSt) (nw : Nat) (sts : Nat) (rf : Nat → Int32) (pg : PageSt) (wv : Nat → UInt64) (ah : Nat → UInt64) (pa : Nat → Int32) (pw : Nat → UInt64) (ai : Nat → Int32) (aw : Nat → UInt64) (pl : Nat) (ord : Nat) (lr : Nat → Int32) (nu : Nat → Int32) (hsh : Int64) (ih : ∀ (n2 : Nat), n2 < L - p → ∀ (p : Nat) (now : LineSt) (spare : LineSt) (K : Nat → LineSt) (nw : Nat) (sts : Nat) (rf : Nat → Int32) (pg : PageSt) (wv : Nat → UInt64) (ah : Nat → UInt64) (pa : Nat → Int32) (pw : Nat → UInt64) (ai : Nat → Int32) (aw : Nat → UInt64) (pl : Nat) (ord : Nat) (lr : Nat → Int32) (nu : Nat → Int32) (hsh : Int64), p ≤ L → n2 = L - p → Rel now K nw sts pg wv pa pw pg.1 pg.2.1 → V g Γ 4 53 1103 18 (surgeW g a now spare K nw sts rf pg ++ modelW g b now.1 wv ah pa pw ai aw sts rf pg.1 pg.2.1 pl ord lr nu hsh) [(3, .int (nI p)), (2, .ref (b 0)), (1, .ref (a 0)), (0, .ref sc)] []) (hp : p + 4 ≤ L) (hR : Rel now K nw sts pg wv pa pw pg.1 pg.2.1) : V g Γ 4 53 1103 282 (surgeW g a now spare K nw sts rf pg ++ modelW g b now.1 wv ah pa pw ai aw sts rf pg.1 pg.2.1 pl ord lr nu hsh) [(3, .int (nI p)), (2, .ref (b 0)), (1, .ref (a 0)), (0, .ref sc)] [] := by
  obtain ⟨r1, r2, r3, r4, r5, r6, r7, -, -, r10⟩ := id hR
  obtain ⟨q1, hq1⟩ : ∃ q, xs (p + 1) = q := ⟨_, rfl⟩
  obtain ⟨q2, hq2⟩ : ∃ q, xs (p + 2) = q := ⟨_, rfl⟩
  by_cases ho : ¬ wiB q1 (nI 0) (now.1 0) = true ∨ ¬ wiB q2 (nI 0) (nI 5) = true
  · refine V_aload_n ok dL_law_282 rfl 2 rfl ?_
    refine V_aload_n ok dL_law_283 rfl 3 rfl ?_
    refine V_iload_n ok dL_law_284 rfl 0 rfl ?_
    refine V_iconst (v := nI 1) ok dL_law_285 rfl ?_
    refine V_iaddN (a := p) (b := 1) (c := p + 1) ok dL_law_286 (by first | rfl | omega) ?_
    refine V_sald (f := xs) ok (p + 1) s_X s_A s_z dL_law_287 rfl (by omega) (by omega) ?_
    refine V_top_int (b := q1) (hq1) ?_
    refine V_aload_n ok dL_law_288 rfl 3 rfl ?_
    refine V_iload_n ok dL_law_289 rfl 0 rfl ?_
    refine V_iconst (v := nI 2) ok dL_law_290 rfl ?_
    refine V_iaddN (a := p) (b := 2) (c := p + 2) ok dL_law_291 (by first | rfl | omega) ?_
    refine V_sald (f := xs) ok (p + 2) s_X s_A s_z dL_law_292 rfl (by omega) (by omega) ?_
    refine V_top_int (b := q2) (hq2) ?_
    refine V_lx (v2 := some (.long (-9000000000000000))) (rest := []) ok (c_X2_node_bad g a now spare K nw sts rf pg q1 q2 (ho.imp id wi_not)) 2 twm_L_40 twi_yX2_node twv_yX2_node twin_X2 twc_yX2_node yok_X2_node (by decide) ⟨rfl, rfl⟩ dL_law_293 rfl rfl rfl (Nat.le_of_ble_eq_true rfl) ⟨by decide, by decide⟩ ?_
    refine V_aload_n ok dL_law_296 rfl 1 rfl ?_
    refine V_aload_n ok dL_law_297 rfl 3 rfl ?_
    refine V_iload_n ok dL_law_298 rfl 0 rfl ?_
    refine V_iconst (v := nI 1) ok dL_law_299 rfl ?_
    refine V_iaddN (a := p) (b := 1) (c := p + 1) ok dL_law_300 (by first | rfl | omega) ?_
    refine V_sald (f := xs) ok (p + 1) s_X s_A s_z dL_law_301 rfl (by omega) (by omega) ?_
    refine V_top_int (b := q1) (hq1) ?_
    refine V_aload_n ok dL_law_302 rfl 3 rfl ?_
    refine V_iload_n ok dL_law_303 rfl 0 rfl ?_
    refine V_iconst (v := nI 2) ok dL_law_304 rfl ?_
    refine V_iaddN (a := p) (b := 2) (c := p + 2) ok dL_law_305 (by first | rfl | omega) ?_
    refine V_sald (f := xs) ok (p + 2) s_X s_A s_z dL_law_306 rfl (by omega) (by omega) ?_
    refine V_top_int (b := q2) (hq2) ?_
    refine V_lm (rest := [.long (-9000000000000000)]) ok surge_len rfl rfl (c_X3_node_bad g b now.1 wv ah pa pw ai aw sts rf pg.1 pg.2.1 pl ord lr nu hsh q1 q2 ho) 2 twm_L_44 twi_yX3_node twv_yX3_node twin_X3 twc_yX3_node yok_X3_node (by decide) ⟨rfl, rfl⟩ dL_law_307 rfl rfl rfl (Nat.le_of_ble_eq_true rfl) ⟨by decide, by decide⟩ (fun _ _ hh => by obtain ⟨-, rfl⟩ := hh; rfl) (fun v_ w_ hh => ?_)
    obtain ⟨rfl, rfl⟩ := hh
    refine V_lcmp_eq (tgt := 637) ok dL_law_310 dL_law_311 (by decide) (fun h310 => ?_) (fun h310 => absurd rfl h310)
    refine V_iinc (q := 0) (v := nI (p + 4)) (lv2 := [(3, .int (nI (p + 4))), (2, .ref (b 0)), (1, .ref (a 0)), (0, .ref sc)]) ok dL_law_637 rfl (nI_inc p 4) (by decide) rfl ?_
    refine V_goto (tgt := 18) ok dL_law_640 (by decide) ?_
    refine V_lv [0, 1, 2, 3] rfl ?_
    exact ih (L - (p + 4)) (by omega) (p + 4) now spare K nw sts (rfU rf (-2)) pg wv ah pa pw ai aw pl ord lr nu hsh (by omega) rfl hR
  · rw [not_or, Classical.not_not, Classical.not_not, r1.1.n.1] at ho
    have hN := r1.1.n
    obtain ⟨c1, rfl, -, hi1⟩ := wi_nat ho.1 (by omega)
    obtain ⟨c2, rfl, -, hi2⟩ := wi_nat ho.2 (by decide)
    refine V_aload_n ok dL_law_282 rfl 2 rfl ?_
    refine V_aload_n ok dL_law_283 rfl 3 rfl ?_
    refine V_iload_n ok dL_law_284 rfl 0 rfl ?_
    refine V_iconst (v := nI 1) ok dL_law_285 rfl ?_
    refine V_iaddN (a := p) (b := 1) (c := p + 1) ok dL_law_286 (by first | rfl | omega) ?_
    refine V_sald (f := xs) ok (p + 1) s_X s_A s_z dL_law_287 rfl (by omega) (by omega) ?_
    refine V_top_int (b := nI c1) (hq1) ?_
    refine V_aload_n ok dL_law_288 rfl 3 rfl ?_
    refine V_iload_n ok dL_law_289 rfl 0 rfl ?_
    refine V_iconst (v := nI 2) ok dL_law_290 rfl ?_
    refine V_iaddN (a := p) (b := 2) (c := p + 2) ok dL_law_291 (by first | rfl | omega) ?_
    refine V_sald (f := xs) ok (p + 2) s_X s_A s_z dL_law_292 rfl (by omega) (by omega) ?_
    refine V_top_int (b := nI c2) (hq2) ?_
    refine V_lx (v2 := some (.long (tf (nodeV now c1 c2)))) (rest := []) ok (c_X2_node_ok g a now spare K nw sts rf pg c1 c2 r1 hi1 hi2) 2 twm_L_40 twi_yX2_node twv_yX2_node twin_X2 twc_yX2_node yok_X2_node (by decide) ⟨rfl, rfl⟩ dL_law_293 rfl rfl rfl (Nat.le_of_ble_eq_true rfl) ⟨by decide, by decide⟩ ?_
    refine V_aload_n ok dL_law_296 rfl 1 rfl ?_
    refine V_aload_n ok dL_law_297 rfl 3 rfl ?_
    refine V_iload_n ok dL_law_298 rfl 0 rfl ?_
    refine V_iconst (v := nI 1) ok dL_law_299 rfl ?_
    refine V_iaddN (a := p) (b := 1) (c := p + 1) ok dL_law_300 (by first | rfl | omega) ?_
    refine V_sald (f := xs) ok (p + 1) s_X s_A s_z dL_law_301 rfl (by omega) (by omega) ?_
    refine V_top_int (b := nI c1) (hq1) ?_
    refine V_aload_n ok dL_law_302 rfl 3 rfl ?_
    refine V_iload_n ok dL_law_303 rfl 0 rfl ?_
    refine V_iconst (v := nI 2) ok dL_law_304 rfl ?_
    refine V_iaddN (a := p) (b := 2) (c := p + 2) ok dL_law_305 (by first | rfl | omega) ?_
    refine V_sald (f := xs) ok (p + 2) s_X s_A s_z dL_law_306 rfl (by omega) (by omega) ?_
    refine V_top_int (b := nI c2) (hq2) ?_
    refine V_lm (rest := [.long (tf (nodeV now c1 c2))]) ok surge_len rfl rfl (c_X3_node_ok g b now wv ah pa pw ai aw sts rf pg.1 pg.2.1 pl ord lr nu hsh c1 c2 r1 r2 hi1 hi2) 2 twm_L_44 twi_yX3_node twv_yX3_node twin_X3 twc_yX3_node yok_X3_node (by decide) ⟨rfl, rfl⟩ dL_law_307 rfl rfl rfl (Nat.le_of_ble_eq_true rfl) ⟨by decide, by decide⟩ (fun _ _ hh => by obtain ⟨-, rfl⟩ := hh; rfl) (fun v_ w_ hh => ?_)
    obtain ⟨rfl, rfl⟩ := hh
    refine V_lcmp_eq (tgt := 637) ok dL_law_310 dL_law_311 (by decide) (fun h310 => ?_) (fun h310 => absurd rfl h310)
    refine V_iinc (q := 0) (v := nI (p + 4)) (lv2 := [(3, .int (nI (p + 4))), (2, .ref (b 0)), (1, .ref (a 0)), (0, .ref sc)]) ok dL_law_637 rfl (nI_inc p 4) (by decide) rfl ?_
    refine V_goto (tgt := 18) ok dL_law_640 (by decide) ?_
    refine V_lv [0, 1, 2, 3] rfl ?_
    exact ih (L - (p + 4)) (by omega) (p + 4) now spare K nw sts rf pg wv ah pa pw ai aw pl ord lr nu hsh (by omega) rfl hR
set_option maxHeartbeats 4000000 in
set_option maxRecDepth 100000 in
theorem law_7 {g : Glob} {Γ : Ctx} {nm : String} (ok : OK g Γ ⟨RL, nm, ""⟩ cL_law 4 (some .boolean) room_1 (fun r _ => r = some (.int 1))) {a b : Nat → Nat} {sc L : Nat} {xs : Nat → Int32} (s_X : va_X sc L xs (kS Γ) (kS Γ).heap) (s_A : ¬ kO Γ sc) (s_z : sc < (kS Γ).heap.size) (hL : L ≤ 2048) (p : Nat) (now : LineSt) (spare : LineSt) (K : Nat → LineSt) (nw : Nat) (sts : Nat) (rf : Nat → Int32) (pg : PageSt) (wv : Nat → UInt64) (ah : Nat → UInt64) (pa : Nat → Int32) (pw : Nat → UInt64) (ai : Nat → Int32) (aw : Nat → UInt64) (pl : Nat) (ord : Nat) (lr : Nat → Int32) (nu : Nat → Int32) (hsh : Int64) (ih : ∀ (n2 : Nat), n2 < L - p → ∀ (p : Nat) (now : LineSt) (spare : LineSt) (K : Nat → LineSt) (nw : Nat) (sts : Nat) (rf : Nat → Int32) (pg : PageSt) (wv : Nat → UInt64) (ah : Nat → UInt64) (pa : Nat → Int32) (pw : Nat → UInt64) (ai : Nat → Int32) (aw : Nat → UInt64) (pl : Nat) (ord : Nat) (lr : Nat → Int32) (nu : Nat → Int32) (hsh : Int64), p ≤ L → n2 = L - p → Rel now K nw sts pg wv pa pw pg.1 pg.2.1 → V g Γ 4 53 1103 18 (surgeW g a now spare K nw sts rf pg ++ modelW g b now.1 wv ah pa pw ai aw sts rf pg.1 pg.2.1 pl ord lr nu hsh) [(3, .int (nI p)), (2, .ref (b 0)), (1, .ref (a 0)), (0, .ref sc)] []) (hp : p + 4 ≤ L) (hR : Rel now K nw sts pg wv pa pw pg.1 pg.2.1) : V g Γ 4 53 1103 316 (surgeW g a now spare K nw sts rf pg ++ modelW g b now.1 wv ah pa pw ai aw sts rf pg.1 pg.2.1 pl ord lr nu hsh) [(3, .int (nI p)), (2, .ref (b 0)), (1, .ref (a 0)), (0, .ref sc)] [] := by
  obtain ⟨r1, r2, r3, r4, r5, r6, r7, -, -, r10⟩ := id hR
  obtain ⟨q1, hq1⟩ : ∃ q, xs (p + 1) = q := ⟨_, rfl⟩
  by_cases ho : wiB q1 (nI 0) (nI 3) = true
  · obtain ⟨c1, rfl, -, hi1⟩ := wi_nat ho (by decide)
    refine V_aload_n ok dL_law_316 rfl 2 rfl ?_
    refine V_aload_n ok dL_law_317 rfl 3 rfl ?_
    refine V_iload_n ok dL_law_318 rfl 0 rfl ?_
    refine V_iconst (v := nI 1) ok dL_law_319 rfl ?_
    refine V_iaddN (a := p) (b := 1) (c := p + 1) ok dL_law_320 (by first | rfl | omega) ?_
    refine V_sald (f := xs) ok (p + 1) s_X s_A s_z dL_law_321 rfl (by omega) (by omega) ?_
    refine V_top_int (b := nI c1) (hq1) ?_
    refine V_lx (v2 := some (.long (tf (allV now c1)))) (rest := []) ok (c_X2_all_ok g a now spare K nw sts rf pg c1 r1 hi1) 1 twm_L_45 twi_yX2_all twv_yX2_all twin_X2 twc_yX2_all yok_X2_all (by decide) ⟨rfl, rfl⟩ dL_law_322 rfl rfl rfl (Nat.le_of_ble_eq_true rfl) ⟨by decide, by decide⟩ ?_
    refine V_aload_n ok dL_law_325 rfl 1 rfl ?_
    refine V_aload_n ok dL_law_326 rfl 3 rfl ?_
    refine V_iload_n ok dL_law_327 rfl 0 rfl ?_
    refine V_iconst (v := nI 1) ok dL_law_328 rfl ?_
    refine V_iaddN (a := p) (b := 1) (c := p + 1) ok dL_law_329 (by first | rfl | omega) ?_
    refine V_sald (f := xs) ok (p + 1) s_X s_A s_z dL_law_330 rfl (by omega) (by omega) ?_
    refine V_top_int (b := nI c1) (hq1) ?_
    refine V_lm (rest := [.long (tf (allV now c1))]) ok surge_len rfl rfl (c_X3_all_ok g b now wv ah pa pw ai aw sts rf pg.1 pg.2.1 pl ord lr nu hsh c1 r1 r2 hi1) 1 twm_L_49 twi_yX3_all twv_yX3_all twin_X3 twc_yX3_all yok_X3_all (by decide) ⟨rfl, rfl⟩ dL_law_331 rfl rfl rfl (Nat.le_of_ble_eq_true rfl) ⟨by decide, by decide⟩ (fun _ _ hh => by obtain ⟨-, rfl⟩ := hh; rfl) (fun v_ w_ hh => ?_)
    obtain ⟨rfl, rfl⟩ := hh
    refine V_lcmp_eq (tgt := 637) ok dL_law_334 dL_law_335 (by decide) (fun h334 => ?_) (fun h334 => absurd rfl h334)
    refine V_iinc (q := 0) (v := nI (p + 4)) (lv2 := [(3, .int (nI (p + 4))), (2, .ref (b 0)), (1, .ref (a 0)), (0, .ref sc)]) ok dL_law_637 rfl (nI_inc p 4) (by decide) rfl ?_
    refine V_goto (tgt := 18) ok dL_law_640 (by decide) ?_
    refine V_lv [0, 1, 2, 3] rfl ?_
    exact ih (L - (p + 4)) (by omega) (p + 4) now spare K nw sts rf pg wv ah pa pw ai aw pl ord lr nu hsh (by omega) rfl hR
  · refine V_aload_n ok dL_law_316 rfl 2 rfl ?_
    refine V_aload_n ok dL_law_317 rfl 3 rfl ?_
    refine V_iload_n ok dL_law_318 rfl 0 rfl ?_
    refine V_iconst (v := nI 1) ok dL_law_319 rfl ?_
    refine V_iaddN (a := p) (b := 1) (c := p + 1) ok dL_law_320 (by first | rfl | omega) ?_
    refine V_sald (f := xs) ok (p + 1) s_X s_A s_z dL_law_321 rfl (by omega) (by omega) ?_
    refine V_top_int (b := q1) (hq1) ?_
    refine V_lx (v2 := some (.long (-9000000000000000))) (rest := []) ok (c_X2_all_bad g a now spare K nw sts rf pg q1 ((wi_not ho).imp (fun z => by rw [Int32.lt_iff_toInt_lt, nI_toInt (by decide)] at z; exact z) (fun z => by rw [Int32.lt_iff_toInt_lt, nI_toInt (by decide)] at z; exact z))) 1 twm_L_45 twi_yX2_all twv_yX2_all twin_X2 twc_yX2_all yok_X2_all (by decide) ⟨rfl, rfl⟩ dL_law_322 rfl rfl rfl (Nat.le_of_ble_eq_true rfl) ⟨by decide, by decide⟩ ?_
    refine V_aload_n ok dL_law_325 rfl 1 rfl ?_
    refine V_aload_n ok dL_law_326 rfl 3 rfl ?_
    refine V_iload_n ok dL_law_327 rfl 0 rfl ?_
    refine V_iconst (v := nI 1) ok dL_law_328 rfl ?_
    refine V_iaddN (a := p) (b := 1) (c := p + 1) ok dL_law_329 (by first | rfl | omega) ?_
    refine V_sald (f := xs) ok (p + 1) s_X s_A s_z dL_law_330 rfl (by omega) (by omega) ?_
    refine V_top_int (b := q1) (hq1) ?_
    refine V_lm (rest := [.long (-9000000000000000)]) ok surge_len rfl rfl (c_X3_all_bad g b now.1 wv ah pa pw ai aw sts rf pg.1 pg.2.1 pl ord lr nu hsh q1 ho) 1 twm_L_49 twi_yX3_all twv_yX3_all twin_X3 twc_yX3_all yok_X3_all (by decide) ⟨rfl, rfl⟩ dL_law_331 rfl rfl rfl (Nat.le_of_ble_eq_true rfl) ⟨by decide, by decide⟩ (fun _ _ hh => by obtain ⟨-, rfl⟩ := hh; rfl) (fun v_ w_ hh => ?_)
    obtain ⟨rfl, rfl⟩ := hh
    refine V_lcmp_eq (tgt := 637) ok dL_law_334 dL_law_335 (by decide) (fun h334 => ?_) (fun h334 => absurd rfl h334)
    refine V_iinc (q := 0) (v := nI (p + 4)) (lv2 := [(3, .int (nI (p + 4))), (2, .ref (b 0)), (1, .ref (a 0)), (0, .ref sc)]) ok dL_law_637 rfl (nI_inc p 4) (by decide) rfl ?_
    refine V_goto (tgt := 18) ok dL_law_640 (by decide) ?_
    refine V_lv [0, 1, 2, 3] rfl ?_
    exact ih (L - (p + 4)) (by omega) (p + 4) now spare K nw sts (rfU rf (-2)) pg wv ah pa pw ai aw pl ord lr nu hsh (by omega) rfl hR
set_option maxHeartbeats 4000000 in
set_option maxRecDepth 100000 in
theorem law_8 {g : Glob} {Γ : Ctx} {nm : String} (ok : OK g Γ ⟨RL, nm, ""⟩ cL_law 4 (some .boolean) room_1 (fun r _ => r = some (.int 1))) {a b : Nat → Nat} {sc L : Nat} {xs : Nat → Int32} (s_X : va_X sc L xs (kS Γ) (kS Γ).heap) (s_A : ¬ kO Γ sc) (s_z : sc < (kS Γ).heap.size) (hL : L ≤ 2048) (p : Nat) (now : LineSt) (spare : LineSt) (K : Nat → LineSt) (nw : Nat) (sts : Nat) (rf : Nat → Int32) (pg : PageSt) (wv : Nat → UInt64) (ah : Nat → UInt64) (pa : Nat → Int32) (pw : Nat → UInt64) (ai : Nat → Int32) (aw : Nat → UInt64) (pl : Nat) (ord : Nat) (lr : Nat → Int32) (nu : Nat → Int32) (hsh : Int64) (ih : ∀ (n2 : Nat), n2 < L - p → ∀ (p : Nat) (now : LineSt) (spare : LineSt) (K : Nat → LineSt) (nw : Nat) (sts : Nat) (rf : Nat → Int32) (pg : PageSt) (wv : Nat → UInt64) (ah : Nat → UInt64) (pa : Nat → Int32) (pw : Nat → UInt64) (ai : Nat → Int32) (aw : Nat → UInt64) (pl : Nat) (ord : Nat) (lr : Nat → Int32) (nu : Nat → Int32) (hsh : Int64), p ≤ L → n2 = L - p → Rel now K nw sts pg wv pa pw pg.1 pg.2.1 → V g Γ 4 53 1103 18 (surgeW g a now spare K nw sts rf pg ++ modelW g b now.1 wv ah pa pw ai aw sts rf pg.1 pg.2.1 pl ord lr nu hsh) [(3, .int (nI p)), (2, .ref (b 0)), (1, .ref (a 0)), (0, .ref sc)] []) (hp : p + 4 ≤ L) (hR : Rel now K nw sts pg wv pa pw pg.1 pg.2.1) : V g Γ 4 53 1103 340 (surgeW g a now spare K nw sts rf pg ++ modelW g b now.1 wv ah pa pw ai aw sts rf pg.1 pg.2.1 pl ord lr nu hsh) [(3, .int (nI p)), (2, .ref (b 0)), (1, .ref (a 0)), (0, .ref sc)] [] := by
  obtain ⟨r1, r2, r3, r4, r5, r6, r7, -, -, r10⟩ := id hR
  obtain ⟨q1, hq1⟩ : ∃ q, xs (p + 1) = q := ⟨_, rfl⟩
  by_cases ho : wiB q1 (nI 0) (now.1 0) = true
  · rw [r1.1.n.1] at ho
    have hN := r1.1.n
    obtain ⟨c1, rfl, -, hi1⟩ := wi_nat ho (by omega)
    refine V_aload_n ok dL_law_340 rfl 2 rfl ?_
    refine V_aload_n ok dL_law_341 rfl 3 rfl ?_
    refine V_iload_n ok dL_law_342 rfl 0 rfl ?_
    refine V_iconst (v := nI 1) ok dL_law_343 rfl ?_
    refine V_iaddN (a := p) (b := 1) (c := p + 1) ok dL_law_344 (by first | rfl | omega) ?_
    refine V_sald (f := xs) ok (p + 1) s_X s_A s_z dL_law_345 rfl (by omega) (by omega) ?_
    refine V_top_int (b := nI c1) (hq1) ?_
    refine V_lx (v2 := some (.long ((FP.dadd (now.2.1 c1) (now.2.2.1 c1)).toInt64))) (rest := []) ok (c_X2_bits_ok g a now spare K nw sts rf pg c1 r1 hi1) 1 twm_L_50 twi_yX2_bits twv_yX2_bits twin_X2 twc_yX2_bits yok_X2_bits (by decide) ⟨rfl, rfl⟩ dL_law_346 rfl rfl rfl (Nat.le_of_ble_eq_true rfl) ⟨by decide, by decide⟩ ?_
    refine V_aload_n ok dL_law_349 rfl 1 rfl ?_
    refine V_aload_n ok dL_law_350 rfl 3 rfl ?_
    refine V_iload_n ok dL_law_351 rfl 0 rfl ?_
    refine V_iconst (v := nI 1) ok dL_law_352 rfl ?_
    refine V_iaddN (a := p) (b := 1) (c := p + 1) ok dL_law_353 (by first | rfl | omega) ?_
    refine V_sald (f := xs) ok (p + 1) s_X s_A s_z dL_law_354 rfl (by omega) (by omega) ?_
    refine V_top_int (b := nI c1) (hq1) ?_
    refine V_lm (rest := [.long ((FP.dadd (now.2.1 c1) (now.2.2.1 c1)).toInt64)]) ok surge_len rfl rfl (c_X3_bits_ok g b now wv ah pa pw ai aw sts rf pg.1 pg.2.1 pl ord lr nu hsh c1 r1 r2 hi1) 1 twm_L_53 twi_yX3_bits twv_yX3_bits twin_X3 twc_yX3_bits yok_X3_bits (by decide) ⟨rfl, rfl⟩ dL_law_355 rfl rfl rfl (Nat.le_of_ble_eq_true rfl) ⟨by decide, by decide⟩ (fun _ _ hh => by obtain ⟨-, rfl⟩ := hh; rfl) (fun v_ w_ hh => ?_)
    obtain ⟨rfl, rfl⟩ := hh
    refine V_lcmp_eq (tgt := 637) ok dL_law_358 dL_law_359 (by decide) (fun h358 => ?_) (fun h358 => absurd rfl h358)
    refine V_iinc (q := 0) (v := nI (p + 4)) (lv2 := [(3, .int (nI (p + 4))), (2, .ref (b 0)), (1, .ref (a 0)), (0, .ref sc)]) ok dL_law_637 rfl (nI_inc p 4) (by decide) rfl ?_
    refine V_goto (tgt := 18) ok dL_law_640 (by decide) ?_
    refine V_lv [0, 1, 2, 3] rfl ?_
    exact ih (L - (p + 4)) (by omega) (p + 4) now spare K nw sts rf pg wv ah pa pw ai aw pl ord lr nu hsh (by omega) rfl hR
  · refine V_aload_n ok dL_law_340 rfl 2 rfl ?_
    refine V_aload_n ok dL_law_341 rfl 3 rfl ?_
    refine V_iload_n ok dL_law_342 rfl 0 rfl ?_
    refine V_iconst (v := nI 1) ok dL_law_343 rfl ?_
    refine V_iaddN (a := p) (b := 1) (c := p + 1) ok dL_law_344 (by first | rfl | omega) ?_
    refine V_sald (f := xs) ok (p + 1) s_X s_A s_z dL_law_345 rfl (by omega) (by omega) ?_
    refine V_top_int (b := q1) (hq1) ?_
    refine V_lx (v2 := some (.long (-9000000000000000))) (rest := []) ok (c_X2_bits_bad g a now spare K nw sts rf pg q1 ho) 1 twm_L_50 twi_yX2_bits twv_yX2_bits twin_X2 twc_yX2_bits yok_X2_bits (by decide) ⟨rfl, rfl⟩ dL_law_346 rfl rfl rfl (Nat.le_of_ble_eq_true rfl) ⟨by decide, by decide⟩ ?_
    refine V_aload_n ok dL_law_349 rfl 1 rfl ?_
    refine V_aload_n ok dL_law_350 rfl 3 rfl ?_
    refine V_iload_n ok dL_law_351 rfl 0 rfl ?_
    refine V_iconst (v := nI 1) ok dL_law_352 rfl ?_
    refine V_iaddN (a := p) (b := 1) (c := p + 1) ok dL_law_353 (by first | rfl | omega) ?_
    refine V_sald (f := xs) ok (p + 1) s_X s_A s_z dL_law_354 rfl (by omega) (by omega) ?_
    refine V_top_int (b := q1) (hq1) ?_
    refine V_lm (rest := [.long (-9000000000000000)]) ok surge_len rfl rfl (c_X3_bits_bad g b now.1 wv ah pa pw ai aw sts rf pg.1 pg.2.1 pl ord lr nu hsh q1 ho) 1 twm_L_53 twi_yX3_bits twv_yX3_bits twin_X3 twc_yX3_bits yok_X3_bits (by decide) ⟨rfl, rfl⟩ dL_law_355 rfl rfl rfl (Nat.le_of_ble_eq_true rfl) ⟨by decide, by decide⟩ (fun _ _ hh => by obtain ⟨-, rfl⟩ := hh; rfl) (fun v_ w_ hh => ?_)
    obtain ⟨rfl, rfl⟩ := hh
    refine V_lcmp_eq (tgt := 637) ok dL_law_358 dL_law_359 (by decide) (fun h358 => ?_) (fun h358 => absurd rfl h358)
    refine V_iinc (q := 0) (v := nI (p + 4)) (lv2 := [(3, .int (nI (p + 4))), (2, .ref (b 0)), (1, .ref (a 0)), (0, .ref sc)]) ok dL_law_637 rfl (nI_inc p 4) (by decide) rfl ?_
    refine V_goto (tgt := 18) ok dL_law_640 (by decide) ?_
    refine V_lv [0, 1, 2, 3] rfl ?_
    exact ih (L - (p + 4)) (by omega) (p + 4) now spare K nw sts (rfU rf (-2)) pg wv ah pa pw ai aw pl ord lr nu hsh (by omega) rfl hR
set_option maxHeartbeats 4000000 in
set_option maxRecDepth 100000 in
theorem law_9 {g : Glob} {Γ : Ctx} {nm : String} (ok : OK g Γ ⟨RL, nm, ""⟩ cL_law 4 (some .boolean) room_1 (fun r _ => r = some (.int 1))) {a b : Nat → Nat} {sc L : Nat} {xs : Nat → Int32} (s_X : va_X sc L xs (kS Γ) (kS Γ).heap) (s_A : ¬ kO Γ sc) (s_z : sc < (kS Γ).heap.size) (hL : L ≤ 2048) (p : Nat) (now : LineSt) (spare : LineSt) (K : Nat → LineSt) (nw : Nat) (sts : Nat) (rf : Nat → Int32) (pg : PageSt) (wv : Nat → UInt64) (ah : Nat → UInt64) (pa : Nat → Int32) (pw : Nat → UInt64) (ai : Nat → Int32) (aw : Nat → UInt64) (pl : Nat) (ord : Nat) (lr : Nat → Int32) (nu : Nat → Int32) (hsh : Int64) (ih : ∀ (n2 : Nat), n2 < L - p → ∀ (p : Nat) (now : LineSt) (spare : LineSt) (K : Nat → LineSt) (nw : Nat) (sts : Nat) (rf : Nat → Int32) (pg : PageSt) (wv : Nat → UInt64) (ah : Nat → UInt64) (pa : Nat → Int32) (pw : Nat → UInt64) (ai : Nat → Int32) (aw : Nat → UInt64) (pl : Nat) (ord : Nat) (lr : Nat → Int32) (nu : Nat → Int32) (hsh : Int64), p ≤ L → n2 = L - p → Rel now K nw sts pg wv pa pw pg.1 pg.2.1 → V g Γ 4 53 1103 18 (surgeW g a now spare K nw sts rf pg ++ modelW g b now.1 wv ah pa pw ai aw sts rf pg.1 pg.2.1 pl ord lr nu hsh) [(3, .int (nI p)), (2, .ref (b 0)), (1, .ref (a 0)), (0, .ref sc)] []) (hp : p + 4 ≤ L) (hR : Rel now K nw sts pg wv pa pw pg.1 pg.2.1) : V g Γ 4 53 1103 364 (surgeW g a now spare K nw sts rf pg ++ modelW g b now.1 wv ah pa pw ai aw sts rf pg.1 pg.2.1 pl ord lr nu hsh) [(3, .int (nI p)), (2, .ref (b 0)), (1, .ref (a 0)), (0, .ref sc)] [] := by
  obtain ⟨r1, r2, r3, r4, r5, r6, r7, -, -, r10⟩ := id hR
  obtain ⟨q1, hq1⟩ : ∃ q, xs (p + 1) = q := ⟨_, rfl⟩
  obtain ⟨q2, hq2⟩ : ∃ q, xs (p + 2) = q := ⟨_, rfl⟩
  obtain ⟨q3, hq3⟩ : ∃ q, xs (p + 3) = q := ⟨_, rfl⟩
  by_cases ho : ¬ isLawB q1 q2 = true ∨ ¬ wiB q3 (nI 0) (nI 9999) = true
  · refine V_aload_n ok dL_law_364 rfl 2 rfl ?_
    refine V_aload_n ok dL_law_365 rfl 3 rfl ?_
    refine V_iload_n ok dL_law_366 rfl 0 rfl ?_
    refine V_iconst (v := nI 1) ok dL_law_367 rfl ?_
    refine V_iaddN (a := p) (b := 1) (c := p + 1) ok dL_law_368 (by first | rfl | omega) ?_
    refine V_sald (f := xs) ok (p + 1) s_X s_A s_z dL_law_369 rfl (by omega) (by omega) ?_
    refine V_top_int (b := q1) (hq1) ?_
    refine V_aload_n ok dL_law_370 rfl 3 rfl ?_
    refine V_iload_n ok dL_law_371 rfl 0 rfl ?_
    refine V_iconst (v := nI 2) ok dL_law_372 rfl ?_
    refine V_iaddN (a := p) (b := 2) (c := p + 2) ok dL_law_373 (by first | rfl | omega) ?_
    refine V_sald (f := xs) ok (p + 2) s_X s_A s_z dL_law_374 rfl (by omega) (by omega) ?_
    refine V_top_int (b := q2) (hq2) ?_
    refine V_aload_n ok dL_law_375 rfl 3 rfl ?_
    refine V_iload_n ok dL_law_376 rfl 0 rfl ?_
    refine V_iconst (v := nI 3) ok dL_law_377 rfl ?_
    refine V_iaddN (a := p) (b := 3) (c := p + 3) ok dL_law_378 (by first | rfl | omega) ?_
    refine V_sald (f := xs) ok (p + 3) s_X s_A s_z dL_law_379 rfl (by omega) (by omega) ?_
    refine V_top_int (b := q3) (hq3) ?_
    refine V_lx (v2 := some (.long (-9000000000000000))) (rest := []) ok (c_X2_lets_bad g a now spare K nw sts rf pg q1 q2 q3 (ho.imp id wi_not)) 3 twm_L_54 twi_yX2_lets twv_yX2_lets twin_X2 twc_yX2_lets yok_X2_lets (by decide) ⟨rfl, rfl⟩ dL_law_380 rfl rfl rfl (Nat.le_of_ble_eq_true rfl) ⟨by decide, by decide⟩ ?_
    refine V_aload_n ok dL_law_383 rfl 1 rfl ?_
    refine V_aload_n ok dL_law_384 rfl 3 rfl ?_
    refine V_iload_n ok dL_law_385 rfl 0 rfl ?_
    refine V_iconst (v := nI 1) ok dL_law_386 rfl ?_
    refine V_iaddN (a := p) (b := 1) (c := p + 1) ok dL_law_387 (by first | rfl | omega) ?_
    refine V_sald (f := xs) ok (p + 1) s_X s_A s_z dL_law_388 rfl (by omega) (by omega) ?_
    refine V_top_int (b := q1) (hq1) ?_
    refine V_aload_n ok dL_law_389 rfl 3 rfl ?_
    refine V_iload_n ok dL_law_390 rfl 0 rfl ?_
    refine V_iconst (v := nI 2) ok dL_law_391 rfl ?_
    refine V_iaddN (a := p) (b := 2) (c := p + 2) ok dL_law_392 (by first | rfl | omega) ?_
    refine V_sald (f := xs) ok (p + 2) s_X s_A s_z dL_law_393 rfl (by omega) (by omega) ?_
    refine V_top_int (b := q2) (hq2) ?_
    refine V_aload_n ok dL_law_394 rfl 3 rfl ?_
    refine V_iload_n ok dL_law_395 rfl 0 rfl ?_
    refine V_iconst (v := nI 3) ok dL_law_396 rfl ?_
    refine V_iaddN (a := p) (b := 3) (c := p + 3) ok dL_law_397 (by first | rfl | omega) ?_
    refine V_sald (f := xs) ok (p + 3) s_X s_A s_z dL_law_398 rfl (by omega) (by omega) ?_
    refine V_top_int (b := q3) (hq3) ?_
    refine V_lm (rest := [.long (-9000000000000000)]) ok surge_len rfl rfl (c_X3_lets_bad g b now.1 wv ah pa pw ai aw sts rf pg.1 pg.2.1 pl ord lr nu hsh q1 q2 q3 (ho.imp (fun z w => z ((law_fits _ _).symm.trans w)) id)) 3 twm_L_58 twi_yX3_lets twv_yX3_lets twin_X3 twc_yX3_lets yok_X3_lets (by decide) ⟨rfl, rfl⟩ dL_law_399 rfl rfl rfl (Nat.le_of_ble_eq_true rfl) ⟨by decide, by decide⟩ (fun _ _ hh => by obtain ⟨-, rfl⟩ := hh; rfl) (fun v_ w_ hh => ?_)
    obtain ⟨rfl, rfl⟩ := hh
    refine V_lcmp_eq (tgt := 637) ok dL_law_402 dL_law_403 (by decide) (fun h402 => ?_) (fun h402 => absurd rfl h402)
    refine V_iinc (q := 0) (v := nI (p + 4)) (lv2 := [(3, .int (nI (p + 4))), (2, .ref (b 0)), (1, .ref (a 0)), (0, .ref sc)]) ok dL_law_637 rfl (nI_inc p 4) (by decide) rfl ?_
    refine V_goto (tgt := 18) ok dL_law_640 (by decide) ?_
    refine V_lv [0, 1, 2, 3] rfl ?_
    exact ih (L - (p + 4)) (by omega) (p + 4) now spare K nw sts (rfU rf (-2)) pg wv ah pa pw ai aw pl ord lr nu hsh (by omega) rfl hR
  · rw [not_or, Classical.not_not, Classical.not_not] at ho
    obtain ⟨hl, ho⟩ := ho
    obtain ⟨k1, k2⟩ := isLaw_ok hl
    obtain ⟨c1, rfl, h6⟩ : ∃ c, q1 = nI c ∧ c ≤ 5 := ⟨_, k1.1, k1.2⟩
    obtain ⟨c2, rfl, h71, h72⟩ : ∃ c, q2 = nI c ∧ 1 ≤ c ∧ c ≤ 60 := ⟨_, k2.1, k2.2.1, k2.2.2⟩
    obtain ⟨c3, rfl, -, hi3⟩ := wi_nat ho (by decide)
    refine V_aload_n ok dL_law_364 rfl 2 rfl ?_
    refine V_aload_n ok dL_law_365 rfl 3 rfl ?_
    refine V_iload_n ok dL_law_366 rfl 0 rfl ?_
    refine V_iconst (v := nI 1) ok dL_law_367 rfl ?_
    refine V_iaddN (a := p) (b := 1) (c := p + 1) ok dL_law_368 (by first | rfl | omega) ?_
    refine V_sald (f := xs) ok (p + 1) s_X s_A s_z dL_law_369 rfl (by omega) (by omega) ?_
    refine V_top_int (b := nI c1) (hq1) ?_
    refine V_aload_n ok dL_law_370 rfl 3 rfl ?_
    refine V_iload_n ok dL_law_371 rfl 0 rfl ?_
    refine V_iconst (v := nI 2) ok dL_law_372 rfl ?_
    refine V_iaddN (a := p) (b := 2) (c := p + 2) ok dL_law_373 (by first | rfl | omega) ?_
    refine V_sald (f := xs) ok (p + 2) s_X s_A s_z dL_law_374 rfl (by omega) (by omega) ?_
    refine V_top_int (b := nI c2) (hq2) ?_
    refine V_aload_n ok dL_law_375 rfl 3 rfl ?_
    refine V_iload_n ok dL_law_376 rfl 0 rfl ?_
    refine V_iconst (v := nI 3) ok dL_law_377 rfl ?_
    refine V_iaddN (a := p) (b := 3) (c := p + 3) ok dL_law_378 (by first | rfl | omega) ?_
    refine V_sald (f := xs) ok (p + 3) s_X s_A s_z dL_law_379 rfl (by omega) (by omega) ?_
    refine V_top_int (b := nI c3) (hq3) ?_
    refine V_lx (v2 := some (.long (tf (letF c1 c2 c3 (now.1 2))))) (rest := []) ok (c_X2_lets_ok g a now spare K nw sts rf pg c1 c2 c3 hl h6 h71 h72 hi3 r1) 3 twm_L_54 twi_yX2_lets twv_yX2_lets twin_X2 twc_yX2_lets yok_X2_lets (by decide) ⟨rfl, rfl⟩ dL_law_380 rfl rfl rfl (Nat.le_of_ble_eq_true rfl) ⟨by decide, by decide⟩ ?_
    refine V_aload_n ok dL_law_383 rfl 1 rfl ?_
    refine V_aload_n ok dL_law_384 rfl 3 rfl ?_
    refine V_iload_n ok dL_law_385 rfl 0 rfl ?_
    refine V_iconst (v := nI 1) ok dL_law_386 rfl ?_
    refine V_iaddN (a := p) (b := 1) (c := p + 1) ok dL_law_387 (by first | rfl | omega) ?_
    refine V_sald (f := xs) ok (p + 1) s_X s_A s_z dL_law_388 rfl (by omega) (by omega) ?_
    refine V_top_int (b := nI c1) (hq1) ?_
    refine V_aload_n ok dL_law_389 rfl 3 rfl ?_
    refine V_iload_n ok dL_law_390 rfl 0 rfl ?_
    refine V_iconst (v := nI 2) ok dL_law_391 rfl ?_
    refine V_iaddN (a := p) (b := 2) (c := p + 2) ok dL_law_392 (by first | rfl | omega) ?_
    refine V_sald (f := xs) ok (p + 2) s_X s_A s_z dL_law_393 rfl (by omega) (by omega) ?_
    refine V_top_int (b := nI c2) (hq2) ?_
    refine V_aload_n ok dL_law_394 rfl 3 rfl ?_
    refine V_iload_n ok dL_law_395 rfl 0 rfl ?_
    refine V_iconst (v := nI 3) ok dL_law_396 rfl ?_
    refine V_iaddN (a := p) (b := 3) (c := p + 3) ok dL_law_397 (by first | rfl | omega) ?_
    refine V_sald (f := xs) ok (p + 3) s_X s_A s_z dL_law_398 rfl (by omega) (by omega) ?_
    refine V_top_int (b := nI c3) (hq3) ?_
    refine V_lm (rest := [.long (tf (letF c1 c2 c3 (now.1 2)))]) ok surge_len rfl rfl (c_X3_lets_ok g b now.1 wv ah pa pw ai aw sts rf pg.1 pg.2.1 pl ord lr nu hsh c1 c2 c3 ((law_fits _ _).trans hl) h6 h71 h72 hi3 r1.1) 3 twm_L_58 twi_yX3_lets twv_yX3_lets twin_X3 twc_yX3_lets yok_X3_lets (by decide) ⟨rfl, rfl⟩ dL_law_399 rfl rfl rfl (Nat.le_of_ble_eq_true rfl) ⟨by decide, by decide⟩ (fun _ _ hh => by obtain ⟨-, rfl⟩ := hh; rfl) (fun v_ w_ hh => ?_)
    obtain ⟨rfl, rfl⟩ := hh
    refine V_lcmp_eq (tgt := 637) ok dL_law_402 dL_law_403 (by decide) (fun h402 => ?_) (fun h402 => absurd rfl h402)
    refine V_iinc (q := 0) (v := nI (p + 4)) (lv2 := [(3, .int (nI (p + 4))), (2, .ref (b 0)), (1, .ref (a 0)), (0, .ref sc)]) ok dL_law_637 rfl (nI_inc p 4) (by decide) rfl ?_
    refine V_goto (tgt := 18) ok dL_law_640 (by decide) ?_
    refine V_lv [0, 1, 2, 3] rfl ?_
    exact ih (L - (p + 4)) (by omega) (p + 4) now spare K nw sts rf pg wv ah pa pw ai aw pl ord lr nu hsh (by omega) rfl hR
set_option maxHeartbeats 4000000 in
set_option maxRecDepth 100000 in
theorem law_10 {g : Glob} {Γ : Ctx} {nm : String} (ok : OK g Γ ⟨RL, nm, ""⟩ cL_law 4 (some .boolean) room_1 (fun r _ => r = some (.int 1))) {a b : Nat → Nat} {sc L : Nat} {xs : Nat → Int32} (s_X : va_X sc L xs (kS Γ) (kS Γ).heap) (s_A : ¬ kO Γ sc) (s_z : sc < (kS Γ).heap.size) (hL : L ≤ 2048) (p : Nat) (now : LineSt) (spare : LineSt) (K : Nat → LineSt) (nw : Nat) (sts : Nat) (rf : Nat → Int32) (pg : PageSt) (wv : Nat → UInt64) (ah : Nat → UInt64) (pa : Nat → Int32) (pw : Nat → UInt64) (ai : Nat → Int32) (aw : Nat → UInt64) (pl : Nat) (ord : Nat) (lr : Nat → Int32) (nu : Nat → Int32) (hsh : Int64) (ih : ∀ (n2 : Nat), n2 < L - p → ∀ (p : Nat) (now : LineSt) (spare : LineSt) (K : Nat → LineSt) (nw : Nat) (sts : Nat) (rf : Nat → Int32) (pg : PageSt) (wv : Nat → UInt64) (ah : Nat → UInt64) (pa : Nat → Int32) (pw : Nat → UInt64) (ai : Nat → Int32) (aw : Nat → UInt64) (pl : Nat) (ord : Nat) (lr : Nat → Int32) (nu : Nat → Int32) (hsh : Int64), p ≤ L → n2 = L - p → Rel now K nw sts pg wv pa pw pg.1 pg.2.1 → V g Γ 4 53 1103 18 (surgeW g a now spare K nw sts rf pg ++ modelW g b now.1 wv ah pa pw ai aw sts rf pg.1 pg.2.1 pl ord lr nu hsh) [(3, .int (nI p)), (2, .ref (b 0)), (1, .ref (a 0)), (0, .ref sc)] []) (hp : p + 4 ≤ L) (hR : Rel now K nw sts pg wv pa pw pg.1 pg.2.1) : V g Γ 4 53 1103 408 (surgeW g a now spare K nw sts rf pg ++ modelW g b now.1 wv ah pa pw ai aw sts rf pg.1 pg.2.1 pl ord lr nu hsh) [(3, .int (nI p)), (2, .ref (b 0)), (1, .ref (a 0)), (0, .ref sc)] [] := by
  obtain ⟨r1, r2, r3, r4, r5, r6, r7, -, -, r10⟩ := id hR
  obtain ⟨q1, hq1⟩ : ∃ q, xs (p + 1) = q := ⟨_, rfl⟩
  obtain ⟨q2, hq2⟩ : ∃ q, xs (p + 2) = q := ⟨_, rfl⟩
  obtain ⟨q3, hq3⟩ : ∃ q, xs (p + 3) = q := ⟨_, rfl⟩
  by_cases ho : ¬ isLawB q1 q2 = true ∨ ¬ trialB q3 = true
  · refine V_aload_n ok dL_law_408 rfl 2 rfl ?_
    refine V_aload_n ok dL_law_409 rfl 3 rfl ?_
    refine V_iload_n ok dL_law_410 rfl 0 rfl ?_
    refine V_iconst (v := nI 1) ok dL_law_411 rfl ?_
    refine V_iaddN (a := p) (b := 1) (c := p + 1) ok dL_law_412 (by first | rfl | omega) ?_
    refine V_sald (f := xs) ok (p + 1) s_X s_A s_z dL_law_413 rfl (by omega) (by omega) ?_
    refine V_top_int (b := q1) (hq1) ?_
    refine V_aload_n ok dL_law_414 rfl 3 rfl ?_
    refine V_iload_n ok dL_law_415 rfl 0 rfl ?_
    refine V_iconst (v := nI 2) ok dL_law_416 rfl ?_
    refine V_iaddN (a := p) (b := 2) (c := p + 2) ok dL_law_417 (by first | rfl | omega) ?_
    refine V_sald (f := xs) ok (p + 2) s_X s_A s_z dL_law_418 rfl (by omega) (by omega) ?_
    refine V_top_int (b := q2) (hq2) ?_
    refine V_aload_n ok dL_law_419 rfl 3 rfl ?_
    refine V_iload_n ok dL_law_420 rfl 0 rfl ?_
    refine V_iconst (v := nI 3) ok dL_law_421 rfl ?_
    refine V_iaddN (a := p) (b := 3) (c := p + 3) ok dL_law_422 (by first | rfl | omega) ?_
    refine V_sald (f := xs) ok (p + 3) s_X s_A s_z dL_law_423 rfl (by omega) (by omega) ?_
    refine V_top_int (b := q3) (hq3) ?_
    refine V_lx (v2 := some (.long (-9000000000000000))) (rest := []) ok (c_X2_trial_bad g a now spare K nw sts rf pg q1 q2 q3 ho) 3 twm_L_59 twi_yX2_trial twv_yX2_trial twin_X2 twc_yX2_trial yok_X2_trial (by decide) ⟨rfl, rfl⟩ dL_law_424 rfl rfl rfl (Nat.le_of_ble_eq_true rfl) ⟨by decide, by decide⟩ ?_
    refine V_aload_n ok dL_law_427 rfl 1 rfl ?_
    refine V_aload_n ok dL_law_428 rfl 3 rfl ?_
    refine V_iload_n ok dL_law_429 rfl 0 rfl ?_
    refine V_iconst (v := nI 1) ok dL_law_430 rfl ?_
    refine V_iaddN (a := p) (b := 1) (c := p + 1) ok dL_law_431 (by first | rfl | omega) ?_
    refine V_sald (f := xs) ok (p + 1) s_X s_A s_z dL_law_432 rfl (by omega) (by omega) ?_
    refine V_top_int (b := q1) (hq1) ?_
    refine V_aload_n ok dL_law_433 rfl 3 rfl ?_
    refine V_iload_n ok dL_law_434 rfl 0 rfl ?_
    refine V_iconst (v := nI 2) ok dL_law_435 rfl ?_
    refine V_iaddN (a := p) (b := 2) (c := p + 2) ok dL_law_436 (by first | rfl | omega) ?_
    refine V_sald (f := xs) ok (p + 2) s_X s_A s_z dL_law_437 rfl (by omega) (by omega) ?_
    refine V_top_int (b := q2) (hq2) ?_
    refine V_aload_n ok dL_law_438 rfl 3 rfl ?_
    refine V_iload_n ok dL_law_439 rfl 0 rfl ?_
    refine V_iconst (v := nI 3) ok dL_law_440 rfl ?_
    refine V_iaddN (a := p) (b := 3) (c := p + 3) ok dL_law_441 (by first | rfl | omega) ?_
    refine V_sald (f := xs) ok (p + 3) s_X s_A s_z dL_law_442 rfl (by omega) (by omega) ?_
    refine V_top_int (b := q3) (hq3) ?_
    refine V_lm (rest := [.long (-9000000000000000)]) ok surge_len rfl rfl (c_X3_trial_bad g b now.1 wv ah pa pw ai aw sts rf pg.1 pg.2.1 pl ord lr nu hsh q1 q2 q3 (ho.imp (fun z w => z ((law_fits _ _).symm.trans w)) id)) 3 twm_L_62 twi_yX3_trial twv_yX3_trial twin_X3 twc_yX3_trial yok_X3_trial (by decide) ⟨rfl, rfl⟩ dL_law_443 rfl rfl rfl (Nat.le_of_ble_eq_true rfl) ⟨by decide, by decide⟩ (fun _ _ hh => by obtain ⟨-, rfl⟩ := hh; rfl) (fun v_ w_ hh => ?_)
    obtain ⟨rfl, rfl⟩ := hh
    refine V_lcmp_eq (tgt := 637) ok dL_law_446 dL_law_447 (by decide) (fun h446 => ?_) (fun h446 => absurd rfl h446)
    refine V_iinc (q := 0) (v := nI (p + 4)) (lv2 := [(3, .int (nI (p + 4))), (2, .ref (b 0)), (1, .ref (a 0)), (0, .ref sc)]) ok dL_law_637 rfl (nI_inc p 4) (by decide) rfl ?_
    refine V_goto (tgt := 18) ok dL_law_640 (by decide) ?_
    refine V_lv [0, 1, 2, 3] rfl ?_
    exact ih (L - (p + 4)) (by omega) (p + 4) now spare K nw sts (rfU rf (-2)) pg wv ah pa pw ai aw pl ord lr nu hsh (by omega) rfl hR
  · rw [not_or, Classical.not_not, Classical.not_not] at ho
    obtain ⟨hl, ho⟩ := ho
    obtain ⟨c3, rfl, -, hi3⟩ := wi_nat (lo := 0) (hi := 100) ho (by decide)
    refine V_aload_n ok dL_law_408 rfl 2 rfl ?_
    refine V_aload_n ok dL_law_409 rfl 3 rfl ?_
    refine V_iload_n ok dL_law_410 rfl 0 rfl ?_
    refine V_iconst (v := nI 1) ok dL_law_411 rfl ?_
    refine V_iaddN (a := p) (b := 1) (c := p + 1) ok dL_law_412 (by first | rfl | omega) ?_
    refine V_sald (f := xs) ok (p + 1) s_X s_A s_z dL_law_413 rfl (by omega) (by omega) ?_
    refine V_top_int (b := q1) (hq1) ?_
    refine V_aload_n ok dL_law_414 rfl 3 rfl ?_
    refine V_iload_n ok dL_law_415 rfl 0 rfl ?_
    refine V_iconst (v := nI 2) ok dL_law_416 rfl ?_
    refine V_iaddN (a := p) (b := 2) (c := p + 2) ok dL_law_417 (by first | rfl | omega) ?_
    refine V_sald (f := xs) ok (p + 2) s_X s_A s_z dL_law_418 rfl (by omega) (by omega) ?_
    refine V_top_int (b := q2) (hq2) ?_
    refine V_aload_n ok dL_law_419 rfl 3 rfl ?_
    refine V_iload_n ok dL_law_420 rfl 0 rfl ?_
    refine V_iconst (v := nI 3) ok dL_law_421 rfl ?_
    refine V_iaddN (a := p) (b := 3) (c := p + 3) ok dL_law_422 (by first | rfl | omega) ?_
    refine V_sald (f := xs) ok (p + 3) s_X s_A s_z dL_law_423 rfl (by omega) (by omega) ?_
    refine V_top_int (b := nI c3) (hq3) ?_
    refine V_lx (v2 := some (.long (tf (advL c3 (settleL (tryV now.1 q1 q2, spare.2))).2.2.2.2.2.1))) (rest := []) ok (c_X2_trial_ok g a now spare K nw sts rf pg q1 q2 c3 hl hi3 r1) 3 twm_L_59 twi_yX2_trial twv_yX2_trial twin_X2 twc_yX2_trial yok_X2_trial (by decide) ⟨rfl, rfl⟩ dL_law_424 rfl rfl rfl (Nat.le_of_ble_eq_true rfl) ⟨by decide, by decide⟩ ?_
    refine V_aload_n ok dL_law_427 rfl 1 rfl ?_
    refine V_aload_n ok dL_law_428 rfl 3 rfl ?_
    refine V_iload_n ok dL_law_429 rfl 0 rfl ?_
    refine V_iconst (v := nI 1) ok dL_law_430 rfl ?_
    refine V_iaddN (a := p) (b := 1) (c := p + 1) ok dL_law_431 (by first | rfl | omega) ?_
    refine V_sald (f := xs) ok (p + 1) s_X s_A s_z dL_law_432 rfl (by omega) (by omega) ?_
    refine V_top_int (b := q1) (hq1) ?_
    refine V_aload_n ok dL_law_433 rfl 3 rfl ?_
    refine V_iload_n ok dL_law_434 rfl 0 rfl ?_
    refine V_iconst (v := nI 2) ok dL_law_435 rfl ?_
    refine V_iaddN (a := p) (b := 2) (c := p + 2) ok dL_law_436 (by first | rfl | omega) ?_
    refine V_sald (f := xs) ok (p + 2) s_X s_A s_z dL_law_437 rfl (by omega) (by omega) ?_
    refine V_top_int (b := q2) (hq2) ?_
    refine V_aload_n ok dL_law_438 rfl 3 rfl ?_
    refine V_iload_n ok dL_law_439 rfl 0 rfl ?_
    refine V_iconst (v := nI 3) ok dL_law_440 rfl ?_
    refine V_iaddN (a := p) (b := 3) (c := p + 3) ok dL_law_441 (by first | rfl | omega) ?_
    refine V_sald (f := xs) ok (p + 3) s_X s_A s_z dL_law_442 rfl (by omega) (by omega) ?_
    refine V_top_int (b := nI c3) (hq3) ?_
    refine V_lm (rest := [.long (tf (advL c3 (settleL (tryV now.1 q1 q2, spare.2))).2.2.2.2.2.1)]) ok surge_len rfl rfl (c_X3_trial_ok g b now wv ah pa pw ai aw sts rf pg.1 pg.2.1 pl ord lr nu hsh q1 q2 c3 spare ((law_fits _ _).trans hl) (r1.1.try (isLaw_ok hl).1 (isLaw_ok hl).2) hi3) 3 twm_L_62 twi_yX3_trial twv_yX3_trial twin_X3 twc_yX3_trial yok_X3_trial (by decide) ⟨rfl, rfl⟩ dL_law_443 rfl rfl rfl (Nat.le_of_ble_eq_true rfl) ⟨by decide, by decide⟩ (fun _ _ hh => by obtain ⟨-, _, rfl⟩ := hh; rfl) (fun v_ w_ hh => ?_)
    obtain ⟨rfl, ah2, rfl⟩ := hh
    refine V_lcmp_eq (tgt := 637) ok dL_law_446 dL_law_447 (by decide) (fun h446 => ?_) (fun h446 => absurd rfl h446)
    refine V_iinc (q := 0) (v := nI (p + 4)) (lv2 := [(3, .int (nI (p + 4))), (2, .ref (b 0)), (1, .ref (a 0)), (0, .ref sc)]) ok dL_law_637 rfl (nI_inc p 4) (by decide) rfl ?_
    refine V_goto (tgt := 18) ok dL_law_640 (by decide) ?_
    refine V_lv [0, 1, 2, 3] rfl ?_
    exact ih (L - (p + 4)) (by omega) (p + 4) now (advL c3 (settleL (tryV now.1 q1 q2, spare.2))) K nw sts rf pg wv ah2 pa pw now.1 wv pl ord lr nu hsh (by omega) rfl hR
set_option maxHeartbeats 4000000 in
set_option maxRecDepth 100000 in
theorem law_11 {g : Glob} {Γ : Ctx} {nm : String} (ok : OK g Γ ⟨RL, nm, ""⟩ cL_law 4 (some .boolean) room_1 (fun r _ => r = some (.int 1))) {a b : Nat → Nat} {sc L : Nat} {xs : Nat → Int32} (s_X : va_X sc L xs (kS Γ) (kS Γ).heap) (s_A : ¬ kO Γ sc) (s_z : sc < (kS Γ).heap.size) (hL : L ≤ 2048) (p : Nat) (now : LineSt) (spare : LineSt) (K : Nat → LineSt) (nw : Nat) (sts : Nat) (rf : Nat → Int32) (pg : PageSt) (wv : Nat → UInt64) (ah : Nat → UInt64) (pa : Nat → Int32) (pw : Nat → UInt64) (ai : Nat → Int32) (aw : Nat → UInt64) (pl : Nat) (ord : Nat) (lr : Nat → Int32) (nu : Nat → Int32) (hsh : Int64) (ih : ∀ (n2 : Nat), n2 < L - p → ∀ (p : Nat) (now : LineSt) (spare : LineSt) (K : Nat → LineSt) (nw : Nat) (sts : Nat) (rf : Nat → Int32) (pg : PageSt) (wv : Nat → UInt64) (ah : Nat → UInt64) (pa : Nat → Int32) (pw : Nat → UInt64) (ai : Nat → Int32) (aw : Nat → UInt64) (pl : Nat) (ord : Nat) (lr : Nat → Int32) (nu : Nat → Int32) (hsh : Int64), p ≤ L → n2 = L - p → Rel now K nw sts pg wv pa pw pg.1 pg.2.1 → V g Γ 4 53 1103 18 (surgeW g a now spare K nw sts rf pg ++ modelW g b now.1 wv ah pa pw ai aw sts rf pg.1 pg.2.1 pl ord lr nu hsh) [(3, .int (nI p)), (2, .ref (b 0)), (1, .ref (a 0)), (0, .ref sc)] []) (hp : p + 4 ≤ L) (hR : Rel now K nw sts pg wv pa pw pg.1 pg.2.1) : V g Γ 4 53 1103 452 (surgeW g a now spare K nw sts rf pg ++ modelW g b now.1 wv ah pa pw ai aw sts rf pg.1 pg.2.1 pl ord lr nu hsh) [(3, .int (nI p)), (2, .ref (b 0)), (1, .ref (a 0)), (0, .ref sc)] [] := by
  obtain ⟨r1, r2, r3, r4, r5, r6, r7, -, -, r10⟩ := id hR
  obtain ⟨q1, hq1⟩ : ∃ q, xs (p + 1) = q := ⟨_, rfl⟩
  obtain ⟨q2, hq2⟩ : ∃ q, xs (p + 2) = q := ⟨_, rfl⟩
  obtain ⟨q3, hq3⟩ : ∃ q, xs (p + 3) = q := ⟨_, rfl⟩
  have f6 : wiB q1 (nI 0) (nI 5) = fitsB (nI 6) q1 := bool_iff (wiB_iff.trans (fitsB_iff (w := 6) (by decide)).symm)
  by_cases ho : ¬ fitsB (nI 6) q1 = true ∨ ¬ boundB q2 = true ∨ ¬ trialB q3 = true
  · refine V_aload_n ok dL_law_452 rfl 2 rfl ?_
    refine V_aload_n ok dL_law_453 rfl 3 rfl ?_
    refine V_iload_n ok dL_law_454 rfl 0 rfl ?_
    refine V_iconst (v := nI 1) ok dL_law_455 rfl ?_
    refine V_iaddN (a := p) (b := 1) (c := p + 1) ok dL_law_456 (by first | rfl | omega) ?_
    refine V_sald (f := xs) ok (p + 1) s_X s_A s_z dL_law_457 rfl (by omega) (by omega) ?_
    refine V_top_int (b := q1) (hq1) ?_
    refine V_aload_n ok dL_law_458 rfl 3 rfl ?_
    refine V_iload_n ok dL_law_459 rfl 0 rfl ?_
    refine V_iconst (v := nI 2) ok dL_law_460 rfl ?_
    refine V_iaddN (a := p) (b := 2) (c := p + 2) ok dL_law_461 (by first | rfl | omega) ?_
    refine V_sald (f := xs) ok (p + 2) s_X s_A s_z dL_law_462 rfl (by omega) (by omega) ?_
    refine V_top_int (b := q2) (hq2) ?_
    refine V_aload_n ok dL_law_463 rfl 3 rfl ?_
    refine V_iload_n ok dL_law_464 rfl 0 rfl ?_
    refine V_iconst (v := nI 3) ok dL_law_465 rfl ?_
    refine V_iaddN (a := p) (b := 3) (c := p + 3) ok dL_law_466 (by first | rfl | omega) ?_
    refine V_sald (f := xs) ok (p + 3) s_X s_A s_z dL_law_467 rfl (by omega) (by omega) ?_
    refine V_top_int (b := q3) (hq3) ?_
    refine V_lx (v2 := some (.int (-2))) (rest := []) ok (c_X2_soonest_bad g a now spare K nw sts rf pg q1 q2 q3 ho) 3 twm_L_63 twi_yX2_soonest twv_yX2_soonest twin_X2 twc_yX2_soonest yok_X2_soonest (by decide) ⟨rfl, rfl⟩ dL_law_468 rfl rfl rfl (Nat.le_of_ble_eq_true rfl) ⟨by decide, by decide⟩ ?_
    refine V_aload_n ok dL_law_471 rfl 1 rfl ?_
    refine V_aload_n ok dL_law_472 rfl 3 rfl ?_
    refine V_iload_n ok dL_law_473 rfl 0 rfl ?_
    refine V_iconst (v := nI 1) ok dL_law_474 rfl ?_
    refine V_iaddN (a := p) (b := 1) (c := p + 1) ok dL_law_475 (by first | rfl | omega) ?_
    refine V_sald (f := xs) ok (p + 1) s_X s_A s_z dL_law_476 rfl (by omega) (by omega) ?_
    refine V_top_int (b := q1) (hq1) ?_
    refine V_aload_n ok dL_law_477 rfl 3 rfl ?_
    refine V_iload_n ok dL_law_478 rfl 0 rfl ?_
    refine V_iconst (v := nI 2) ok dL_law_479 rfl ?_
    refine V_iaddN (a := p) (b := 2) (c := p + 2) ok dL_law_480 (by first | rfl | omega) ?_
    refine V_sald (f := xs) ok (p + 2) s_X s_A s_z dL_law_481 rfl (by omega) (by omega) ?_
    refine V_top_int (b := q2) (hq2) ?_
    refine V_aload_n ok dL_law_482 rfl 3 rfl ?_
    refine V_iload_n ok dL_law_483 rfl 0 rfl ?_
    refine V_iconst (v := nI 3) ok dL_law_484 rfl ?_
    refine V_iaddN (a := p) (b := 3) (c := p + 3) ok dL_law_485 (by first | rfl | omega) ?_
    refine V_sald (f := xs) ok (p + 3) s_X s_A s_z dL_law_486 rfl (by omega) (by omega) ?_
    refine V_top_int (b := q3) (hq3) ?_
    refine V_lm (rest := [.int (-2)]) ok surge_len rfl rfl (c_X3_soonest_bad g b now.1 wv ah pa pw ai aw sts rf pg.1 pg.2.1 pl ord lr nu hsh q1 q2 q3 (ho.imp (fun z w => z (f6.symm.trans w)) id)) 3 twm_L_67 twi_yX3_soonest twv_yX3_soonest twin_X3 twc_yX3_soonest yok_X3_soonest (by decide) ⟨rfl, rfl⟩ dL_law_487 rfl rfl rfl (Nat.le_of_ble_eq_true rfl) ⟨by decide, by decide⟩ (fun _ _ hh => by obtain ⟨-, rfl⟩ := hh; rfl) (fun v_ w_ hh => ?_)
    obtain ⟨rfl, rfl⟩ := hh
    refine V_icmp_eq (tgt := 637) ok dL_law_490 (by decide) (fun h490 => ?_) (fun h490 => absurd rfl h490)
    refine V_iinc (q := 0) (v := nI (p + 4)) (lv2 := [(3, .int (nI (p + 4))), (2, .ref (b 0)), (1, .ref (a 0)), (0, .ref sc)]) ok dL_law_637 rfl (nI_inc p 4) (by decide) rfl ?_
    refine V_goto (tgt := 18) ok dL_law_640 (by decide) ?_
    refine V_lv [0, 1, 2, 3] rfl ?_
    exact ih (L - (p + 4)) (by omega) (p + 4) now spare K nw sts (rfU rf (-2)) pg wv ah pa pw ai aw pl ord lr nu hsh (by omega) rfl hR
  · rw [not_or, not_or, Classical.not_not, Classical.not_not, Classical.not_not] at ho
    obtain ⟨h1, h2, ho⟩ := ho
    obtain ⟨c3, rfl, -, hi3⟩ := wi_nat (lo := 0) (hi := 100) ho (by decide)
    refine V_aload_n ok dL_law_452 rfl 2 rfl ?_
    refine V_aload_n ok dL_law_453 rfl 3 rfl ?_
    refine V_iload_n ok dL_law_454 rfl 0 rfl ?_
    refine V_iconst (v := nI 1) ok dL_law_455 rfl ?_
    refine V_iaddN (a := p) (b := 1) (c := p + 1) ok dL_law_456 (by first | rfl | omega) ?_
    refine V_sald (f := xs) ok (p + 1) s_X s_A s_z dL_law_457 rfl (by omega) (by omega) ?_
    refine V_top_int (b := q1) (hq1) ?_
    refine V_aload_n ok dL_law_458 rfl 3 rfl ?_
    refine V_iload_n ok dL_law_459 rfl 0 rfl ?_
    refine V_iconst (v := nI 2) ok dL_law_460 rfl ?_
    refine V_iaddN (a := p) (b := 2) (c := p + 2) ok dL_law_461 (by first | rfl | omega) ?_
    refine V_sald (f := xs) ok (p + 2) s_X s_A s_z dL_law_462 rfl (by omega) (by omega) ?_
    refine V_top_int (b := q2) (hq2) ?_
    refine V_aload_n ok dL_law_463 rfl 3 rfl ?_
    refine V_iload_n ok dL_law_464 rfl 0 rfl ?_
    refine V_iconst (v := nI 3) ok dL_law_465 rfl ?_
    refine V_iaddN (a := p) (b := 3) (c := p + 3) ok dL_law_466 (by first | rfl | omega) ?_
    refine V_sald (f := xs) ok (p + 3) s_X s_A s_z dL_law_467 rfl (by omega) (by omega) ?_
    refine V_top_int (b := nI c3) (hq3) ?_
    refine V_lx (v2 := some (.int ((soonN now.1 q1 q2 c3 60 1 spare).1))) (rest := []) ok (c_X2_soonest_ok g a now spare K nw sts rf pg q1 q2 c3 h1 h2 hi3 r1) 3 twm_L_63 twi_yX2_soonest twv_yX2_soonest twin_X2 twc_yX2_soonest yok_X2_soonest (by decide) ⟨rfl, rfl⟩ dL_law_468 rfl rfl rfl (Nat.le_of_ble_eq_true rfl) ⟨by decide, by decide⟩ ?_
    refine V_aload_n ok dL_law_471 rfl 1 rfl ?_
    refine V_aload_n ok dL_law_472 rfl 3 rfl ?_
    refine V_iload_n ok dL_law_473 rfl 0 rfl ?_
    refine V_iconst (v := nI 1) ok dL_law_474 rfl ?_
    refine V_iaddN (a := p) (b := 1) (c := p + 1) ok dL_law_475 (by first | rfl | omega) ?_
    refine V_sald (f := xs) ok (p + 1) s_X s_A s_z dL_law_476 rfl (by omega) (by omega) ?_
    refine V_top_int (b := q1) (hq1) ?_
    refine V_aload_n ok dL_law_477 rfl 3 rfl ?_
    refine V_iload_n ok dL_law_478 rfl 0 rfl ?_
    refine V_iconst (v := nI 2) ok dL_law_479 rfl ?_
    refine V_iaddN (a := p) (b := 2) (c := p + 2) ok dL_law_480 (by first | rfl | omega) ?_
    refine V_sald (f := xs) ok (p + 2) s_X s_A s_z dL_law_481 rfl (by omega) (by omega) ?_
    refine V_top_int (b := q2) (hq2) ?_
    refine V_aload_n ok dL_law_482 rfl 3 rfl ?_
    refine V_iload_n ok dL_law_483 rfl 0 rfl ?_
    refine V_iconst (v := nI 3) ok dL_law_484 rfl ?_
    refine V_iaddN (a := p) (b := 3) (c := p + 3) ok dL_law_485 (by first | rfl | omega) ?_
    refine V_sald (f := xs) ok (p + 3) s_X s_A s_z dL_law_486 rfl (by omega) (by omega) ?_
    refine V_top_int (b := nI c3) (hq3) ?_
    refine V_lm (rest := [.int ((soonN now.1 q1 q2 c3 60 1 spare).1)]) ok surge_len rfl rfl (c_X3_soonest_ok g b now wv ah pa pw ai aw sts rf pg.1 pg.2.1 pl ord lr nu hsh q1 q2 c3 (f6.trans h1) h2 r1.1 (fits_ok (by decide) h1) hi3) 3 twm_L_67 twi_yX3_soonest twv_yX3_soonest twin_X3 twc_yX3_soonest yok_X3_soonest (by decide) ⟨rfl, rfl⟩ dL_law_487 rfl rfl rfl (Nat.le_of_ble_eq_true rfl) ⟨by decide, by decide⟩ (fun _ _ hh => by obtain ⟨-, _, _, _, rfl⟩ := hh; rfl) (fun v_ w_ hh => ?_)
    obtain ⟨rfl, ai2, aw2, ah2, rfl⟩ := hh
    refine V_top_int (b := (soonN now.1 q1 q2 c3 60 1 spare).1) ((soon_eq r1.1 (fits_ok (by decide) h1) q2 c3 60 1 spare (by decide) (by decide)).symm) ?_
    refine V_icmp_eq (tgt := 637) ok dL_law_490 (by decide) (fun h490 => ?_) (fun h490 => absurd rfl h490)
    refine V_iinc (q := 0) (v := nI (p + 4)) (lv2 := [(3, .int (nI (p + 4))), (2, .ref (b 0)), (1, .ref (a 0)), (0, .ref sc)]) ok dL_law_637 rfl (nI_inc p 4) (by decide) rfl ?_
    refine V_goto (tgt := 18) ok dL_law_640 (by decide) ?_
    refine V_lv [0, 1, 2, 3] rfl ?_
    exact ih (L - (p + 4)) (by omega) (p + 4) now ((soonN now.1 q1 q2 c3 60 1 spare).2) K nw sts rf pg wv ah2 pa pw ai2 aw2 pl ord lr nu hsh (by omega) rfl hR
set_option maxHeartbeats 4000000 in
set_option maxRecDepth 100000 in
theorem law_12 {g : Glob} {Γ : Ctx} {nm : String} (ok : OK g Γ ⟨RL, nm, ""⟩ cL_law 4 (some .boolean) room_1 (fun r _ => r = some (.int 1))) {a b : Nat → Nat} {sc L : Nat} {xs : Nat → Int32} (s_X : va_X sc L xs (kS Γ) (kS Γ).heap) (s_A : ¬ kO Γ sc) (s_z : sc < (kS Γ).heap.size) (hL : L ≤ 2048) (p : Nat) (now : LineSt) (spare : LineSt) (K : Nat → LineSt) (nw : Nat) (sts : Nat) (rf : Nat → Int32) (pg : PageSt) (wv : Nat → UInt64) (ah : Nat → UInt64) (pa : Nat → Int32) (pw : Nat → UInt64) (ai : Nat → Int32) (aw : Nat → UInt64) (pl : Nat) (ord : Nat) (lr : Nat → Int32) (nu : Nat → Int32) (hsh : Int64) (ih : ∀ (n2 : Nat), n2 < L - p → ∀ (p : Nat) (now : LineSt) (spare : LineSt) (K : Nat → LineSt) (nw : Nat) (sts : Nat) (rf : Nat → Int32) (pg : PageSt) (wv : Nat → UInt64) (ah : Nat → UInt64) (pa : Nat → Int32) (pw : Nat → UInt64) (ai : Nat → Int32) (aw : Nat → UInt64) (pl : Nat) (ord : Nat) (lr : Nat → Int32) (nu : Nat → Int32) (hsh : Int64), p ≤ L → n2 = L - p → Rel now K nw sts pg wv pa pw pg.1 pg.2.1 → V g Γ 4 53 1103 18 (surgeW g a now spare K nw sts rf pg ++ modelW g b now.1 wv ah pa pw ai aw sts rf pg.1 pg.2.1 pl ord lr nu hsh) [(3, .int (nI p)), (2, .ref (b 0)), (1, .ref (a 0)), (0, .ref sc)] []) (hp : p + 4 ≤ L) (hR : Rel now K nw sts pg wv pa pw pg.1 pg.2.1) : V g Γ 4 53 1103 495 (surgeW g a now spare K nw sts rf pg ++ modelW g b now.1 wv ah pa pw ai aw sts rf pg.1 pg.2.1 pl ord lr nu hsh) [(3, .int (nI p)), (2, .ref (b 0)), (1, .ref (a 0)), (0, .ref sc)] [] := by
  obtain ⟨r1, r2, r3, r4, r5, r6, r7, -, -, r10⟩ := id hR
  obtain ⟨q1, hq1⟩ : ∃ q, xs (p + 1) = q := ⟨_, rfl⟩
  obtain ⟨q2, hq2⟩ : ∃ q, xs (p + 2) = q := ⟨_, rfl⟩
  obtain ⟨q3, hq3⟩ : ∃ q, xs (p + 3) = q := ⟨_, rfl⟩
  by_cases ho : ¬ boundB q1 = true ∨ ¬ trialB q2 = true ∨ ¬ wiB q3 (nI 0) (nI 1) = true
  · refine V_aload_n ok dL_law_495 rfl 2 rfl ?_
    refine V_aload_n ok dL_law_496 rfl 3 rfl ?_
    refine V_iload_n ok dL_law_497 rfl 0 rfl ?_
    refine V_iconst (v := nI 1) ok dL_law_498 rfl ?_
    refine V_iaddN (a := p) (b := 1) (c := p + 1) ok dL_law_499 (by first | rfl | omega) ?_
    refine V_sald (f := xs) ok (p + 1) s_X s_A s_z dL_law_500 rfl (by omega) (by omega) ?_
    refine V_top_int (b := q1) (hq1) ?_
    refine V_aload_n ok dL_law_501 rfl 3 rfl ?_
    refine V_iload_n ok dL_law_502 rfl 0 rfl ?_
    refine V_iconst (v := nI 2) ok dL_law_503 rfl ?_
    refine V_iaddN (a := p) (b := 2) (c := p + 2) ok dL_law_504 (by first | rfl | omega) ?_
    refine V_sald (f := xs) ok (p + 2) s_X s_A s_z dL_law_505 rfl (by omega) (by omega) ?_
    refine V_top_int (b := q2) (hq2) ?_
    refine V_aload_n ok dL_law_506 rfl 3 rfl ?_
    refine V_iload_n ok dL_law_507 rfl 0 rfl ?_
    refine V_iconst (v := nI 3) ok dL_law_508 rfl ?_
    refine V_iaddN (a := p) (b := 3) (c := p + 3) ok dL_law_509 (by first | rfl | omega) ?_
    refine V_sald (f := xs) ok (p + 3) s_X s_A s_z dL_law_510 rfl (by omega) (by omega) ?_
    refine V_top_int (b := q3) (hq3) ?_
    refine V_lx (v2 := some (.int (-2))) (rest := []) ok (c_X2_best_bad g a now spare K nw sts rf pg q1 q2 q3 (ho.imp id (Or.imp id wi_not))) 3 twm_L_68 twi_yX2_best twv_yX2_best twin_X2 twc_yX2_best yok_X2_best (by decide) ⟨rfl, rfl⟩ dL_law_511 rfl rfl rfl (Nat.le_of_ble_eq_true rfl) ⟨by decide, by decide⟩ ?_
    refine V_aload_n ok dL_law_514 rfl 1 rfl ?_
    refine V_aload_n ok dL_law_515 rfl 3 rfl ?_
    refine V_iload_n ok dL_law_516 rfl 0 rfl ?_
    refine V_iconst (v := nI 1) ok dL_law_517 rfl ?_
    refine V_iaddN (a := p) (b := 1) (c := p + 1) ok dL_law_518 (by first | rfl | omega) ?_
    refine V_sald (f := xs) ok (p + 1) s_X s_A s_z dL_law_519 rfl (by omega) (by omega) ?_
    refine V_top_int (b := q1) (hq1) ?_
    refine V_aload_n ok dL_law_520 rfl 3 rfl ?_
    refine V_iload_n ok dL_law_521 rfl 0 rfl ?_
    refine V_iconst (v := nI 2) ok dL_law_522 rfl ?_
    refine V_iaddN (a := p) (b := 2) (c := p + 2) ok dL_law_523 (by first | rfl | omega) ?_
    refine V_sald (f := xs) ok (p + 2) s_X s_A s_z dL_law_524 rfl (by omega) (by omega) ?_
    refine V_top_int (b := q2) (hq2) ?_
    refine V_aload_n ok dL_law_525 rfl 3 rfl ?_
    refine V_iload_n ok dL_law_526 rfl 0 rfl ?_
    refine V_iconst (v := nI 3) ok dL_law_527 rfl ?_
    refine V_iaddN (a := p) (b := 3) (c := p + 3) ok dL_law_528 (by first | rfl | omega) ?_
    refine V_sald (f := xs) ok (p + 3) s_X s_A s_z dL_law_529 rfl (by omega) (by omega) ?_
    refine V_top_int (b := q3) (hq3) ?_
    refine V_lm (rest := [.int (-2)]) ok surge_len rfl rfl (c_X3_best_bad g b now.1 wv ah pa pw ai aw sts rf pg.1 pg.2.1 pl ord lr nu hsh q1 q2 q3 ho) 3 twm_L_71 twi_yX3_best twv_yX3_best twin_X3 twc_yX3_best yok_X3_best (by decide) ⟨rfl, rfl⟩ dL_law_530 rfl rfl rfl (Nat.le_of_ble_eq_true rfl) ⟨by decide, by decide⟩ (fun _ _ hh => by obtain ⟨-, rfl⟩ := hh; rfl) (fun v_ w_ hh => ?_)
    obtain ⟨rfl, rfl⟩ := hh
    refine V_icmp_eq (tgt := 637) ok dL_law_533 (by decide) (fun h533 => ?_) (fun h533 => absurd rfl h533)
    refine V_iinc (q := 0) (v := nI (p + 4)) (lv2 := [(3, .int (nI (p + 4))), (2, .ref (b 0)), (1, .ref (a 0)), (0, .ref sc)]) ok dL_law_637 rfl (nI_inc p 4) (by decide) rfl ?_
    refine V_goto (tgt := 18) ok dL_law_640 (by decide) ?_
    refine V_lv [0, 1, 2, 3] rfl ?_
    exact ih (L - (p + 4)) (by omega) (p + 4) now spare K nw sts (rfU rf (-2)) pg wv ah pa pw ai aw pl ord lr nu hsh (by omega) rfl hR
  · rw [not_or, not_or, Classical.not_not, Classical.not_not, Classical.not_not] at ho
    obtain ⟨h1, h2, ho⟩ := ho
    obtain ⟨c2, rfl, -, hi2⟩ := wi_nat (lo := 0) (hi := 100) h2 (by decide)
    obtain ⟨c3, rfl, -, hi3⟩ := wi_nat ho (by decide)
    refine V_aload_n ok dL_law_495 rfl 2 rfl ?_
    refine V_aload_n ok dL_law_496 rfl 3 rfl ?_
    refine V_iload_n ok dL_law_497 rfl 0 rfl ?_
    refine V_iconst (v := nI 1) ok dL_law_498 rfl ?_
    refine V_iaddN (a := p) (b := 1) (c := p + 1) ok dL_law_499 (by first | rfl | omega) ?_
    refine V_sald (f := xs) ok (p + 1) s_X s_A s_z dL_law_500 rfl (by omega) (by omega) ?_
    refine V_top_int (b := q1) (hq1) ?_
    refine V_aload_n ok dL_law_501 rfl 3 rfl ?_
    refine V_iload_n ok dL_law_502 rfl 0 rfl ?_
    refine V_iconst (v := nI 2) ok dL_law_503 rfl ?_
    refine V_iaddN (a := p) (b := 2) (c := p + 2) ok dL_law_504 (by first | rfl | omega) ?_
    refine V_sald (f := xs) ok (p + 2) s_X s_A s_z dL_law_505 rfl (by omega) (by omega) ?_
    refine V_top_int (b := nI c2) (hq2) ?_
    refine V_aload_n ok dL_law_506 rfl 3 rfl ?_
    refine V_iload_n ok dL_law_507 rfl 0 rfl ?_
    refine V_iconst (v := nI 3) ok dL_law_508 rfl ?_
    refine V_iaddN (a := p) (b := 3) (c := p + 3) ok dL_law_509 (by first | rfl | omega) ?_
    refine V_sald (f := xs) ok (p + 3) s_X s_A s_z dL_law_510 rfl (by omega) (by omega) ?_
    refine V_top_int (b := nI c3) (hq3) ?_
    refine V_lx (v2 := some (.int (bestA c3 (bestN now.1 q1 c2 240 0 spare).1))) (rest := []) ok (c_X2_best_ok g a now spare K nw sts rf pg q1 c2 c3 h1 hi2 hi3 r1) 3 twm_L_68 twi_yX2_best twv_yX2_best twin_X2 twc_yX2_best yok_X2_best (by decide) ⟨rfl, rfl⟩ dL_law_511 rfl rfl rfl (Nat.le_of_ble_eq_true rfl) ⟨by decide, by decide⟩ ?_
    refine V_aload_n ok dL_law_514 rfl 1 rfl ?_
    refine V_aload_n ok dL_law_515 rfl 3 rfl ?_
    refine V_iload_n ok dL_law_516 rfl 0 rfl ?_
    refine V_iconst (v := nI 1) ok dL_law_517 rfl ?_
    refine V_iaddN (a := p) (b := 1) (c := p + 1) ok dL_law_518 (by first | rfl | omega) ?_
    refine V_sald (f := xs) ok (p + 1) s_X s_A s_z dL_law_519 rfl (by omega) (by omega) ?_
    refine V_top_int (b := q1) (hq1) ?_
    refine V_aload_n ok dL_law_520 rfl 3 rfl ?_
    refine V_iload_n ok dL_law_521 rfl 0 rfl ?_
    refine V_iconst (v := nI 2) ok dL_law_522 rfl ?_
    refine V_iaddN (a := p) (b := 2) (c := p + 2) ok dL_law_523 (by first | rfl | omega) ?_
    refine V_sald (f := xs) ok (p + 2) s_X s_A s_z dL_law_524 rfl (by omega) (by omega) ?_
    refine V_top_int (b := nI c2) (hq2) ?_
    refine V_aload_n ok dL_law_525 rfl 3 rfl ?_
    refine V_iload_n ok dL_law_526 rfl 0 rfl ?_
    refine V_iconst (v := nI 3) ok dL_law_527 rfl ?_
    refine V_iaddN (a := p) (b := 3) (c := p + 3) ok dL_law_528 (by first | rfl | omega) ?_
    refine V_sald (f := xs) ok (p + 3) s_X s_A s_z dL_law_529 rfl (by omega) (by omega) ?_
    refine V_top_int (b := nI c3) (hq3) ?_
    refine V_lm (rest := [.int (bestA c3 (bestN now.1 q1 c2 240 0 spare).1)]) ok surge_len rfl rfl (c_X3_best_ok g b now wv ah pa pw ai aw sts rf pg.1 pg.2.1 pl ord lr nu hsh q1 c2 c3 h1 r1.1 hi2 hi3) 3 twm_L_71 twi_yX3_best twv_yX3_best twin_X3 twc_yX3_best yok_X3_best (by decide) ⟨rfl, rfl⟩ dL_law_530 rfl rfl rfl (Nat.le_of_ble_eq_true rfl) ⟨by decide, by decide⟩ (fun _ _ hh => by obtain ⟨-, _, _, _, rfl⟩ := hh; rfl) (fun v_ w_ hh => ?_)
    obtain ⟨rfl, ai2, aw2, ah2, rfl⟩ := hh
    refine V_top_int (b := bestA c3 (bestN now.1 q1 c2 240 0 spare).1) ((best_eq r1.1 q1 c2 c3 hi3 spare).symm) ?_
    refine V_icmp_eq (tgt := 637) ok dL_law_533 (by decide) (fun h533 => ?_) (fun h533 => absurd rfl h533)
    refine V_iinc (q := 0) (v := nI (p + 4)) (lv2 := [(3, .int (nI (p + 4))), (2, .ref (b 0)), (1, .ref (a 0)), (0, .ref sc)]) ok dL_law_637 rfl (nI_inc p 4) (by decide) rfl ?_
    refine V_goto (tgt := 18) ok dL_law_640 (by decide) ?_
    refine V_lv [0, 1, 2, 3] rfl ?_
    exact ih (L - (p + 4)) (by omega) (p + 4) now ((bestN now.1 q1 c2 240 0 spare).2) K nw sts rf pg wv ah2 pa pw ai2 aw2 pl ord lr nu hsh (by omega) rfl hR
set_option maxHeartbeats 4000000 in
set_option maxRecDepth 100000 in
theorem law_13 {g : Glob} {Γ : Ctx} {nm : String} (ok : OK g Γ ⟨RL, nm, ""⟩ cL_law 4 (some .boolean) room_1 (fun r _ => r = some (.int 1))) {a b : Nat → Nat} {sc L : Nat} {xs : Nat → Int32} (s_X : va_X sc L xs (kS Γ) (kS Γ).heap) (s_A : ¬ kO Γ sc) (s_z : sc < (kS Γ).heap.size) (hL : L ≤ 2048) (p : Nat) (now : LineSt) (spare : LineSt) (K : Nat → LineSt) (nw : Nat) (sts : Nat) (rf : Nat → Int32) (pg : PageSt) (wv : Nat → UInt64) (ah : Nat → UInt64) (pa : Nat → Int32) (pw : Nat → UInt64) (ai : Nat → Int32) (aw : Nat → UInt64) (pl : Nat) (ord : Nat) (lr : Nat → Int32) (nu : Nat → Int32) (hsh : Int64) (ih : ∀ (n2 : Nat), n2 < L - p → ∀ (p : Nat) (now : LineSt) (spare : LineSt) (K : Nat → LineSt) (nw : Nat) (sts : Nat) (rf : Nat → Int32) (pg : PageSt) (wv : Nat → UInt64) (ah : Nat → UInt64) (pa : Nat → Int32) (pw : Nat → UInt64) (ai : Nat → Int32) (aw : Nat → UInt64) (pl : Nat) (ord : Nat) (lr : Nat → Int32) (nu : Nat → Int32) (hsh : Int64), p ≤ L → n2 = L - p → Rel now K nw sts pg wv pa pw pg.1 pg.2.1 → V g Γ 4 53 1103 18 (surgeW g a now spare K nw sts rf pg ++ modelW g b now.1 wv ah pa pw ai aw sts rf pg.1 pg.2.1 pl ord lr nu hsh) [(3, .int (nI p)), (2, .ref (b 0)), (1, .ref (a 0)), (0, .ref sc)] []) (hp : p + 4 ≤ L) (hR : Rel now K nw sts pg wv pa pw pg.1 pg.2.1) : V g Γ 4 53 1103 538 (surgeW g a now spare K nw sts rf pg ++ modelW g b now.1 wv ah pa pw ai aw sts rf pg.1 pg.2.1 pl ord lr nu hsh) [(3, .int (nI p)), (2, .ref (b 0)), (1, .ref (a 0)), (0, .ref sc)] [] := by
  obtain ⟨r1, r2, r3, r4, r5, r6, r7, -, -, r10⟩ := id hR
  obtain ⟨q1, hq1⟩ : ∃ q, xs (p + 1) = q := ⟨_, rfl⟩
  by_cases ho : wiB q1 (nI 0) (nI 127) = true
  · obtain ⟨c1, rfl, -, hi1⟩ := wi_nat ho (by decide)
    by_cases hl : pLen pg < 100
    · refine V_aload_n ok dL_law_538 rfl 2 rfl ?_
      refine V_aload_n ok dL_law_539 rfl 3 rfl ?_
      refine V_iload_n ok dL_law_540 rfl 0 rfl ?_
      refine V_iconst (v := nI 1) ok dL_law_541 rfl ?_
      refine V_iaddN (a := p) (b := 1) (c := p + 1) ok dL_law_542 (by first | rfl | omega) ?_
      refine V_sald (f := xs) ok (p + 1) s_X s_A s_z dL_law_543 rfl (by omega) (by omega) ?_
      refine V_top_int (b := nI c1) (hq1) ?_
      refine V_lx (v2 := some (.int (nI (pLen pg + 1)))) (rest := []) ok (c_X2_type_ok g a now spare K nw sts rf pg c1 hi1 r7 hl) 1 twm_L_72 twi_yX2_type twv_yX2_type twin_X2 twc_yX2_type yok_X2_type (by decide) ⟨rfl, rfl⟩ dL_law_544 rfl rfl rfl (Nat.le_of_ble_eq_true rfl) ⟨by decide, by decide⟩ ?_
      refine V_aload_n ok dL_law_547 rfl 1 rfl ?_
      refine V_aload_n ok dL_law_548 rfl 3 rfl ?_
      refine V_iload_n ok dL_law_549 rfl 0 rfl ?_
      refine V_iconst (v := nI 1) ok dL_law_550 rfl ?_
      refine V_iaddN (a := p) (b := 1) (c := p + 1) ok dL_law_551 (by first | rfl | omega) ?_
      refine V_sald (f := xs) ok (p + 1) s_X s_A s_z dL_law_552 rfl (by omega) (by omega) ?_
      refine V_top_int (b := nI c1) (hq1) ?_
      refine V_lm (rest := [.int (nI (pLen pg + 1))]) ok surge_len rfl rfl (c_X3_type_ok g b now.1 wv ah pa pw ai aw sts rf pg.1 pg.2.1 pl ord lr nu hsh (nI c1) ho hl) 1 twm_L_75 twi_yX3_type twv_yX3_type twin_X3 twc_yX3_type yok_X3_type (by decide) ⟨rfl, rfl⟩ dL_law_553 rfl rfl rfl (Nat.le_of_ble_eq_true rfl) ⟨by decide, by decide⟩ (fun _ _ hh => by obtain ⟨-, rfl⟩ := hh; rfl) (fun v_ w_ hh => ?_)
      obtain ⟨rfl, rfl⟩ := hh
      refine V_ws (w2 := surgeW g a now spare K nw sts rf (appendF pg (nI c1)) ++ modelW g b now.1 wv ah pa pw ai aw sts rf ((appendF pg (nI c1)).1) ((appendF pg (nI c1)).2.1) pl ord lr nu hsh) (by rw [show (appendF pg (nI c1)).1 = upd pg.1 pg.2.1 (nI c1) from congrArg (upd pg.1 pg.2.1) (byte_c hi1)]; rfl) ?_
      refine V_icmp_eq (tgt := 637) ok dL_law_556 (by decide) (fun h556 => ?_) (fun h556 => absurd rfl h556)
      refine V_iinc (q := 0) (v := nI (p + 4)) (lv2 := [(3, .int (nI (p + 4))), (2, .ref (b 0)), (1, .ref (a 0)), (0, .ref sc)]) ok dL_law_637 rfl (nI_inc p 4) (by decide) rfl ?_
      refine V_goto (tgt := 18) ok dL_law_640 (by decide) ?_
      refine V_lv [0, 1, 2, 3] rfl ?_
      exact ih (L - (p + 4)) (by omega) (p + 4) now spare K nw sts rf (appendF pg (nI c1)) wv ah pa pw ai aw pl ord lr nu hsh (by omega) rfl (⟨r1, r2, r3, r4, r5, r6, hl, rfl, rfl, type_tx r10 hi1⟩)
    · refine V_aload_n ok dL_law_538 rfl 2 rfl ?_
      refine V_aload_n ok dL_law_539 rfl 3 rfl ?_
      refine V_iload_n ok dL_law_540 rfl 0 rfl ?_
      refine V_iconst (v := nI 1) ok dL_law_541 rfl ?_
      refine V_iaddN (a := p) (b := 1) (c := p + 1) ok dL_law_542 (by first | rfl | omega) ?_
      refine V_sald (f := xs) ok (p + 1) s_X s_A s_z dL_law_543 rfl (by omega) (by omega) ?_
      refine V_top_int (b := nI c1) (hq1) ?_
      refine V_lx (v2 := some (.int (-4))) (rest := []) ok (c_X2_type_full g a now spare K nw sts rf pg c1 hi1 r7 hl) 1 twm_L_72 twi_yX2_type twv_yX2_type twin_X2 twc_yX2_type yok_X2_type (by decide) ⟨rfl, rfl⟩ dL_law_544 rfl rfl rfl (Nat.le_of_ble_eq_true rfl) ⟨by decide, by decide⟩ ?_
      refine V_aload_n ok dL_law_547 rfl 1 rfl ?_
      refine V_aload_n ok dL_law_548 rfl 3 rfl ?_
      refine V_iload_n ok dL_law_549 rfl 0 rfl ?_
      refine V_iconst (v := nI 1) ok dL_law_550 rfl ?_
      refine V_iaddN (a := p) (b := 1) (c := p + 1) ok dL_law_551 (by first | rfl | omega) ?_
      refine V_sald (f := xs) ok (p + 1) s_X s_A s_z dL_law_552 rfl (by omega) (by omega) ?_
      refine V_top_int (b := nI c1) (hq1) ?_
      refine V_lm (rest := [.int (-4)]) ok surge_len rfl rfl (c_X3_type_full g b now.1 wv ah pa pw ai aw sts rf pg.1 pg.2.1 pl ord lr nu hsh (nI c1) ho (by have := r7; have : ¬ pg.2.1 < 100 := hl; omega)) 1 twm_L_75 twi_yX3_type twv_yX3_type twin_X3 twc_yX3_type yok_X3_type (by decide) ⟨rfl, rfl⟩ dL_law_553 rfl rfl rfl (Nat.le_of_ble_eq_true rfl) ⟨by decide, by decide⟩ (fun _ _ hh => by obtain ⟨-, rfl⟩ := hh; rfl) (fun v_ w_ hh => ?_)
      obtain ⟨rfl, rfl⟩ := hh
      refine V_icmp_eq (tgt := 637) ok dL_law_556 (by decide) (fun h556 => ?_) (fun h556 => absurd rfl h556)
      refine V_iinc (q := 0) (v := nI (p + 4)) (lv2 := [(3, .int (nI (p + 4))), (2, .ref (b 0)), (1, .ref (a 0)), (0, .ref sc)]) ok dL_law_637 rfl (nI_inc p 4) (by decide) rfl ?_
      refine V_goto (tgt := 18) ok dL_law_640 (by decide) ?_
      refine V_lv [0, 1, 2, 3] rfl ?_
      exact ih (L - (p + 4)) (by omega) (p + 4) now spare K nw sts (rfU rf (-4)) pg wv ah pa pw ai aw pl ord lr nu hsh (by omega) rfl hR
  · refine V_aload_n ok dL_law_538 rfl 2 rfl ?_
    refine V_aload_n ok dL_law_539 rfl 3 rfl ?_
    refine V_iload_n ok dL_law_540 rfl 0 rfl ?_
    refine V_iconst (v := nI 1) ok dL_law_541 rfl ?_
    refine V_iaddN (a := p) (b := 1) (c := p + 1) ok dL_law_542 (by first | rfl | omega) ?_
    refine V_sald (f := xs) ok (p + 1) s_X s_A s_z dL_law_543 rfl (by omega) (by omega) ?_
    refine V_top_int (b := q1) (hq1) ?_
    refine V_lx (v2 := some (.int (-2))) (rest := []) ok (c_X2_type_bad g a now spare K nw sts rf pg q1 (wi_not ho)) 1 twm_L_72 twi_yX2_type twv_yX2_type twin_X2 twc_yX2_type yok_X2_type (by decide) ⟨rfl, rfl⟩ dL_law_544 rfl rfl rfl (Nat.le_of_ble_eq_true rfl) ⟨by decide, by decide⟩ ?_
    refine V_aload_n ok dL_law_547 rfl 1 rfl ?_
    refine V_aload_n ok dL_law_548 rfl 3 rfl ?_
    refine V_iload_n ok dL_law_549 rfl 0 rfl ?_
    refine V_iconst (v := nI 1) ok dL_law_550 rfl ?_
    refine V_iaddN (a := p) (b := 1) (c := p + 1) ok dL_law_551 (by first | rfl | omega) ?_
    refine V_sald (f := xs) ok (p + 1) s_X s_A s_z dL_law_552 rfl (by omega) (by omega) ?_
    refine V_top_int (b := q1) (hq1) ?_
    refine V_lm (rest := [.int (-2)]) ok surge_len rfl rfl (c_X3_type_bad g b now.1 wv ah pa pw ai aw sts rf pg.1 pg.2.1 pl ord lr nu hsh q1 ho) 1 twm_L_75 twi_yX3_type twv_yX3_type twin_X3 twc_yX3_type yok_X3_type (by decide) ⟨rfl, rfl⟩ dL_law_553 rfl rfl rfl (Nat.le_of_ble_eq_true rfl) ⟨by decide, by decide⟩ (fun _ _ hh => by obtain ⟨-, rfl⟩ := hh; rfl) (fun v_ w_ hh => ?_)
    obtain ⟨rfl, rfl⟩ := hh
    refine V_icmp_eq (tgt := 637) ok dL_law_556 (by decide) (fun h556 => ?_) (fun h556 => absurd rfl h556)
    refine V_iinc (q := 0) (v := nI (p + 4)) (lv2 := [(3, .int (nI (p + 4))), (2, .ref (b 0)), (1, .ref (a 0)), (0, .ref sc)]) ok dL_law_637 rfl (nI_inc p 4) (by decide) rfl ?_
    refine V_goto (tgt := 18) ok dL_law_640 (by decide) ?_
    refine V_lv [0, 1, 2, 3] rfl ?_
    exact ih (L - (p + 4)) (by omega) (p + 4) now spare K nw sts (rfU rf (-2)) pg wv ah pa pw ai aw pl ord lr nu hsh (by omega) rfl hR
set_option maxHeartbeats 4000000 in
set_option maxRecDepth 100000 in
theorem law_14 {g : Glob} {Γ : Ctx} {nm : String} (ok : OK g Γ ⟨RL, nm, ""⟩ cL_law 4 (some .boolean) room_1 (fun r _ => r = some (.int 1))) {a b : Nat → Nat} {sc L : Nat} {xs : Nat → Int32} (s_X : va_X sc L xs (kS Γ) (kS Γ).heap) (s_A : ¬ kO Γ sc) (s_z : sc < (kS Γ).heap.size) (hL : L ≤ 2048) (p : Nat) (now : LineSt) (spare : LineSt) (K : Nat → LineSt) (nw : Nat) (sts : Nat) (rf : Nat → Int32) (pg : PageSt) (wv : Nat → UInt64) (ah : Nat → UInt64) (pa : Nat → Int32) (pw : Nat → UInt64) (ai : Nat → Int32) (aw : Nat → UInt64) (pl : Nat) (ord : Nat) (lr : Nat → Int32) (nu : Nat → Int32) (hsh : Int64) (ih : ∀ (n2 : Nat), n2 < L - p → ∀ (p : Nat) (now : LineSt) (spare : LineSt) (K : Nat → LineSt) (nw : Nat) (sts : Nat) (rf : Nat → Int32) (pg : PageSt) (wv : Nat → UInt64) (ah : Nat → UInt64) (pa : Nat → Int32) (pw : Nat → UInt64) (ai : Nat → Int32) (aw : Nat → UInt64) (pl : Nat) (ord : Nat) (lr : Nat → Int32) (nu : Nat → Int32) (hsh : Int64), p ≤ L → n2 = L - p → Rel now K nw sts pg wv pa pw pg.1 pg.2.1 → V g Γ 4 53 1103 18 (surgeW g a now spare K nw sts rf pg ++ modelW g b now.1 wv ah pa pw ai aw sts rf pg.1 pg.2.1 pl ord lr nu hsh) [(3, .int (nI p)), (2, .ref (b 0)), (1, .ref (a 0)), (0, .ref sc)] []) (hp : p + 4 ≤ L) (hR : Rel now K nw sts pg wv pa pw pg.1 pg.2.1) : V g Γ 4 53 1103 561 (surgeW g a now spare K nw sts rf pg ++ modelW g b now.1 wv ah pa pw ai aw sts rf pg.1 pg.2.1 pl ord lr nu hsh) [(3, .int (nI p)), (2, .ref (b 0)), (1, .ref (a 0)), (0, .ref sc)] [] := by
  obtain ⟨r1, r2, r3, r4, r5, r6, r7, -, -, r10⟩ := id hR
  refine V_aload_n ok dL_law_561 rfl 2 rfl ?_
  refine V_lx (v2 := some (.int (nI (pLen pg)))) (rest := []) ok (c_X2_clear g a now spare K nw sts rf pg) 0 twm_L_76 twi_yX2_clear twv_yX2_clear twin_X2 twc_yX2_clear yok_X2_clear (by decide) ⟨rfl, rfl⟩ dL_law_562 rfl rfl rfl (Nat.le_of_ble_eq_true rfl) ⟨by decide, by decide⟩ ?_
  refine V_aload_n ok dL_law_565 rfl 1 rfl ?_
  refine V_lm (rest := [.int (nI (pLen pg))]) ok surge_len rfl rfl (c_X3_clear g b now.1 wv ah pa pw ai aw sts rf pg.1 pg.2.1 pl ord lr nu hsh) 0 twm_L_79 twi_yX3_clear twv_yX3_clear twin_X3 twc_yX3_clear yok_X3_clear (by decide) ⟨rfl, rfl⟩ dL_law_566 rfl rfl rfl (Nat.le_of_ble_eq_true rfl) ⟨by decide, by decide⟩ (fun _ _ hh => by obtain ⟨-, rfl⟩ := hh; rfl) (fun v_ w_ hh => ?_)
  obtain ⟨rfl, rfl⟩ := hh
  refine V_icmp_eq (tgt := 637) ok dL_law_569 (by decide) (fun h569 => ?_) (fun h569 => absurd rfl h569)
  refine V_iinc (q := 0) (v := nI (p + 4)) (lv2 := [(3, .int (nI (p + 4))), (2, .ref (b 0)), (1, .ref (a 0)), (0, .ref sc)]) ok dL_law_637 rfl (nI_inc p 4) (by decide) rfl ?_
  refine V_goto (tgt := 18) ok dL_law_640 (by decide) ?_
  refine V_lv [0, 1, 2, 3] rfl ?_
  exact ih (L - (p + 4)) (by omega) (p + 4) now spare K nw sts rf (pg.1, 0, pg.2.2) wv ah pa pw ai aw pl ord lr nu hsh (by omega) rfl (⟨r1, r2, r3, r4, r5, r6, Nat.zero_le _, rfl, rfl, fun _ hp => absurd hp (Nat.not_lt_zero _)⟩)
