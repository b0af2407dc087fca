theorem plc_le {tx : Nat → Int32} {len : Nat} : ∀ j, plc tx len j ≤ len
  | 0 => (skipP_le (Nat.zero_le _)).2
  | j + 1 => (skipP_le (moF_le (plc_le j)).1).2
theorem rdP_le {tx : Nat → Int32} {len : Nat} : rdP tx len ≤ len := by
  unfold rdP
  split
  · exact plc_le _
  · exact (moF_le (plc_le _)).1
theorem reads_rows : ∀ (f i : Nat) (y : LineSt) (Q : PageSt), PG Q → (readsN f i y Q).2.2.1 = Q.1 ∧ (readsN f i y Q).2.2.2.1 = Q.2.1
  | 0, _, _, _, _ => ⟨rfl, rfl⟩
  | f + 1, i, y, Q, h => by
    have hr := nx_rows Q h
    simp only [readsN]
    split
    · split
      · have k := reads_rows f (i + 1) (obeyF y (pLet (nextOrderF Q).2) (pFst (nextOrderF Q).2) (pSnd (nextOrderF Q).2)).2 _ (PG.next h).1
        exact ⟨k.1.trans hr.1, k.2.trans hr.2.1⟩
      · exact ⟨hr.1, hr.2.1⟩
    · exact ⟨hr.1, hr.2.1⟩
theorem reads_LG : ∀ (f i : Nat) (y : LineSt) (Q : PageSt), LG y → LG (readsN f i y Q).2.1
  | 0, _, _, _, h => h
  | f + 1, i, y, Q, h => by
    simp only [readsN]
    split
    · split
      · exact reads_LG f _ _ _ (obey_LG h _ _ _)
      · exact h
    · exact h
set_option maxHeartbeats 4000000 in
set_option maxRecDepth 100000 in
theorem law_15 {g : Glob} {Γ : Ctx} {nm : String} (ok : OK g Γ ⟨RL, nm, ""⟩ cL_law 4 (some .boolean) room_1 (fun r _ => r = some (.int 1))) {a b : Nat → Nat} {sc L : Nat} {xs : Nat → Int32} (s_X : va_X sc L xs (kS Γ) (kS Γ).heap) (s_A : ¬ kO Γ sc) (s_z : sc < (kS Γ).heap.size) (hL : L ≤ 2048) (p : Nat) (now : LineSt) (spare : LineSt) (K : Nat → LineSt) (nw : Nat) (sts : Nat) (rf : Nat → Int32) (pg : PageSt) (wv : Nat → UInt64) (ah : Nat → UInt64) (pa : Nat → Int32) (pw : Nat → UInt64) (ai : Nat → Int32) (aw : Nat → UInt64) (pl : Nat) (ord : Nat) (lr : Nat → Int32) (nu : Nat → Int32) (hsh : Int64) (ih : ∀ (n2 : Nat), n2 < L - p → ∀ (p : Nat) (now : LineSt) (spare : LineSt) (K : Nat → LineSt) (nw : Nat) (sts : Nat) (rf : Nat → Int32) (pg : PageSt) (wv : Nat → UInt64) (ah : Nat → UInt64) (pa : Nat → Int32) (pw : Nat → UInt64) (ai : Nat → Int32) (aw : Nat → UInt64) (pl : Nat) (ord : Nat) (lr : Nat → Int32) (nu : Nat → Int32) (hsh : Int64), p ≤ L → n2 = L - p → Rel now K nw sts pg wv pa pw pg.1 pg.2.1 → V g Γ 4 53 1103 18 (surgeW g a now spare K nw sts rf pg ++ modelW g b now.1 wv ah pa pw ai aw sts rf pg.1 pg.2.1 pl ord lr nu hsh) [(3, .int (nI p)), (2, .ref (b 0)), (1, .ref (a 0)), (0, .ref sc)] []) (hp : p + 4 ≤ L) (hR : Rel now K nw sts pg wv pa pw pg.1 pg.2.1) : V g Γ 4 53 1103 574 (surgeW g a now spare K nw sts rf pg ++ modelW g b now.1 wv ah pa pw ai aw sts rf pg.1 pg.2.1 pl ord lr nu hsh) [(3, .int (nI p)), (2, .ref (b 0)), (1, .ref (a 0)), (0, .ref sc)] [] := by
  obtain ⟨r1, r2, r3, r4, r5, r6, r7, -, -, r10⟩ := id hR
  have pf := PG.find r7
  by_cases hf : (rdF pg.1 pg.2.1).1 = true
  · have fd := (find_rdF r7).1 hf
    have hQ0 : PG (setPl (findFaultF pg).2 0) := ⟨pf.1.1, Nat.zero_le _⟩
    have rr0 := reads_rows (findFaultF pg).2.2.2.1 0 now _ hQ0
    have rr : (readsN (findFaultF pg).2.2.2.1 0 now (setPl (findFaultF pg).2 0)).2.2.1 = pg.1 ∧ (readsN (findFaultF pg).2.2.2.1 0 now (setPl (findFaultF pg).2 0)).2.2.2.1 = pg.2.1 := ⟨rr0.1.trans pf.2.1, rr0.2.trans pf.2.2.1⟩
    cases hRR : (readsN (findFaultF pg).2.2.2.1 0 now (setPl (findFaultF pg).2 0)).1 with
    | some j =>
      refine V_aload_n ok dL_law_574 rfl 2 rfl ?_
      refine V_lx (v2 := some (.int ((-1000) - nI j))) (rest := []) ok (c_X2_reads_stop g a now spare K nw sts rf pg j r7 r1 fd.1 hRR) 0 twm_L_80 twi_yX2_reads twv_yX2_reads twin_X2 twc_yX2_reads yok_X2_reads (by decide) ⟨rfl, rfl⟩ dL_law_575 rfl rfl rfl (Nat.le_of_ble_eq_true rfl) ⟨by decide, by decide⟩ ?_
      refine V_aload_n ok dL_law_578 rfl 1 rfl ?_
      refine V_lm (rest := [.int ((-1000) - nI j)]) ok surge_len rfl rfl (c_X3_reads_stop g b now wv ah pa pw ai aw sts rf pg.1 pg.2.1 pl ord lr nu hsh j pg rfl rfl r7 r7 r10 hf r1 r2 (by rw [← fd.2]; exact hRR)) 0 twm_L_83 twi_yX3_reads twv_yX3_reads twin_X3 twc_yX3_reads yok_X3_reads (by decide) ⟨rfl, rfl⟩ dL_law_579 rfl rfl rfl (Nat.le_of_ble_eq_true rfl) ⟨by decide, by decide⟩ (fun _ _ hh => by obtain ⟨-, _, _, _, rfl⟩ := hh; rfl) (fun v_ w_ hh => ?_)
      obtain ⟨rfl, ah2, lr2, nu2, rfl⟩ := hh
      refine V_ws (w2 := surgeW g a now now K nw sts rf ((readsN (findFaultF pg).2.2.2.1 0 now (setPl (findFaultF pg).2 0)).2.2) ++ modelW g b now.1 wv ah2 pa pw now.1 wv sts rf ((readsN (findFaultF pg).2.2.2.1 0 now (setPl (findFaultF pg).2 0)).2.2.1) ((readsN (findFaultF pg).2.2.2.1 0 now (setPl (findFaultF pg).2 0)).2.2.2.1) (rdP pg.1 pg.2.1) ((rdF pg.1 pg.2.1).2) lr2 nu2 hsh) (by rw [rr.1, rr.2]) ?_
      refine V_icmp_eq (tgt := 637) ok dL_law_582 (by decide) (fun h582 => ?_) (fun h582 => absurd rfl h582)
      refine V_iinc (q := 0) (v := nI (p + 4)) (lv2 := [(3, .int (nI (p + 4))), (2, .ref (b 0)), (1, .ref (a 0)), (0, .ref sc)]) ok dL_law_637 rfl (nI_inc p 4) (by decide) rfl ?_
      refine V_goto (tgt := 18) ok dL_law_640 (by decide) ?_
      refine V_lv [0, 1, 2, 3] rfl ?_
      exact ih (L - (p + 4)) (by omega) (p + 4) now now K nw sts rf ((readsN (findFaultF pg).2.2.2.1 0 now (setPl (findFaultF pg).2 0)).2.2) wv ah2 pa pw now.1 wv (rdP pg.1 pg.2.1) ((rdF pg.1 pg.2.1).2) lr2 nu2 hsh (by omega) rfl (⟨(hR).1, (hR).2.1, (hR).2.2.1, (hR).2.2.2.1, (hR).2.2.2.2.1, (hR).2.2.2.2.2.1, by rw [rr.2]; exact r7, rfl, rfl, fun p hp => by rw [rr.1]; rw [rr.2] at hp; exact r10 p hp⟩)
    | none =>
      refine V_aload_n ok dL_law_574 rfl 2 rfl ?_
      refine V_lx (v2 := some (.int (nI (readsN (findFaultF pg).2.2.2.1 0 now (setPl (findFaultF pg).2 0)).2.2.2.2.1))) (rest := []) ok (c_X2_reads_ok g a now spare K nw sts rf pg r7 r1 fd.1 hRR r5 r6) 0 twm_L_80 twi_yX2_reads twv_yX2_reads twin_X2 twc_yX2_reads yok_X2_reads (by decide) ⟨rfl, rfl⟩ dL_law_575 rfl rfl rfl (Nat.le_of_ble_eq_true rfl) ⟨by decide, by decide⟩ ?_
      refine V_aload_n ok dL_law_578 rfl 1 rfl ?_
      refine V_lm (rest := [.int (nI (readsN (findFaultF pg).2.2.2.1 0 now (setPl (findFaultF pg).2 0)).2.2.2.2.1)]) ok surge_len rfl rfl (c_X3_reads_ok g b now wv ah pa pw ai aw sts rf pg.1 pg.2.1 pl ord lr nu hsh pg rfl rfl r7 r7 r10 hf r1 r2 (by rw [← fd.2]; exact hRR) r6) 0 twm_L_83 twi_yX3_reads twv_yX3_reads twin_X3 twc_yX3_reads yok_X3_reads (by decide) ⟨rfl, rfl⟩ dL_law_579 rfl rfl rfl (Nat.le_of_ble_eq_true rfl) ⟨by decide, by decide⟩ (fun _ _ hh => by obtain ⟨-, _, _, _, _, _, rfl⟩ := hh; rfl) (fun v_ w_ hh => ?_)
      obtain ⟨rfl, wv2, ah2, lr2, nu2, hw2, rfl⟩ := hh
      refine V_top_int (b := nI (readsN (findFaultF pg).2.2.2.1 0 now (setPl (findFaultF pg).2 0)).2.2.2.2.1) (by rw [reads_ord _ _ _ _ hQ0]; exact congrArg nI fd.2.symm) ?_
      refine V_ws (w2 := surgeW g a ((readsN (findFaultF pg).2.2.2.1 0 now (setPl (findFaultF pg).2 0)).2.1) now (ringU K nw now) ((nw + 1) % 4) (stsU sts) rf ((readsN (findFaultF pg).2.2.2.1 0 now (setPl (findFaultF pg).2 0)).2.2) ++ modelW g b (((readsN (findFaultF pg).2.2.2.1 0 now (setPl (findFaultF pg).2 0)).2.1).1) wv2 ah2 (leaI pa sts now.1) (leaD pw sts wv) now.1 wv (stsU sts) rf ((readsN (findFaultF pg).2.2.2.1 0 now (setPl (findFaultF pg).2 0)).2.2.1) ((readsN (findFaultF pg).2.2.2.1 0 now (setPl (findFaultF pg).2 0)).2.2.2.1) (rdP pg.1 pg.2.1) ((rdF pg.1 pg.2.1).2) lr2 nu2 hsh) (by rw [rr.1, rr.2, fd.2]) ?_
      refine V_icmp_eq (tgt := 637) ok dL_law_582 (by decide) (fun h582 => ?_) (fun h582 => absurd rfl h582)
      refine V_iinc (q := 0) (v := nI (p + 4)) (lv2 := [(3, .int (nI (p + 4))), (2, .ref (b 0)), (1, .ref (a 0)), (0, .ref sc)]) ok dL_law_637 rfl (nI_inc p 4) (by decide) rfl ?_
      refine V_goto (tgt := 18) ok dL_law_640 (by decide) ?_
      refine V_lv [0, 1, 2, 3] rfl ?_
      exact ih (L - (p + 4)) (by omega) (p + 4) ((readsN (findFaultF pg).2.2.2.1 0 now (setPl (findFaultF pg).2 0)).2.1) now (ringU K nw now) ((nw + 1) % 4) (stsU sts) rf ((readsN (findFaultF pg).2.2.2.1 0 now (setPl (findFaultF pg).2 0)).2.2) wv2 ah2 (leaI pa sts now.1) (leaD pw sts wv) now.1 wv (rdP pg.1 pg.2.1) ((rdF pg.1 pg.2.1).2) lr2 nu2 hsh (by omega) rfl (⟨(hR.kept (reads_LG _ _ _ _ r1) (show WR (readsN (findFaultF pg).2.2.2.1 0 now (setPl (findFaultF pg).2 0)).2.1 wv2 by rw [fd.2]; exact hw2)).1, (hR.kept (reads_LG _ _ _ _ r1) (show WR (readsN (findFaultF pg).2.2.2.1 0 now (setPl (findFaultF pg).2 0)).2.1 wv2 by rw [fd.2]; exact hw2)).2.1, (hR.kept (reads_LG _ _ _ _ r1) (show WR (readsN (findFaultF pg).2.2.2.1 0 now (setPl (findFaultF pg).2 0)).2.1 wv2 by rw [fd.2]; exact hw2)).2.2.1, (hR.kept (reads_LG _ _ _ _ r1) (show WR (readsN (findFaultF pg).2.2.2.1 0 now (setPl (findFaultF pg).2 0)).2.1 wv2 by rw [fd.2]; exact hw2)).2.2.2.1, (hR.kept (reads_LG _ _ _ _ r1) (show WR (readsN (findFaultF pg).2.2.2.1 0 now (setPl (findFaultF pg).2 0)).2.1 wv2 by rw [fd.2]; exact hw2)).2.2.2.2.1, (hR.kept (reads_LG _ _ _ _ r1) (show WR (readsN (findFaultF pg).2.2.2.1 0 now (setPl (findFaultF pg).2 0)).2.1 wv2 by rw [fd.2]; exact hw2)).2.2.2.2.2.1, by rw [rr.2]; exact r7, rfl, rfl, fun p hp => by rw [rr.1]; rw [rr.2] at hp; exact r10 p hp⟩)
  · have hff : (rdF pg.1 pg.2.1).1 = false := Bool.eq_false_iff.mpr hf
    have fn := (find_rdF r7).2 hff
    refine V_aload_n ok dL_law_574 rfl 2 rfl ?_
    refine V_lx (v2 := some (.int ((-10) - (findFaultF pg).1))) (rest := []) ok (c_X2_reads_fault g a now spare K nw sts rf pg r7 (by rw [fn]; exact nI_m1 (by have := rdP_le (tx := pg.1) (len := pg.2.1); omega))) 0 twm_L_80 twi_yX2_reads twv_yX2_reads twin_X2 twc_yX2_reads yok_X2_reads (by decide) ⟨rfl, rfl⟩ dL_law_575 rfl rfl rfl (Nat.le_of_ble_eq_true rfl) ⟨by decide, by decide⟩ ?_
    refine V_aload_n ok dL_law_578 rfl 1 rfl ?_
    refine V_lm (rest := [.int ((-10) - (findFaultF pg).1)]) ok surge_len rfl rfl (c_X3_reads_fault g b now.1 wv ah pa pw ai aw sts rf pg.1 pg.2.1 pl ord lr nu hsh r7 r10 hff) 0 twm_L_83 twi_yX3_reads twv_yX3_reads twin_X3 twc_yX3_reads yok_X3_reads (by decide) ⟨rfl, rfl⟩ dL_law_579 rfl rfl rfl (Nat.le_of_ble_eq_true rfl) ⟨by decide, by decide⟩ (fun _ _ hh => by obtain ⟨-, _, _, rfl⟩ := hh; rfl) (fun v_ w_ hh => ?_)
    obtain ⟨rfl, lr2, nu2, rfl⟩ := hh
    refine V_top_int (b := (-10) - (findFaultF pg).1) (by rw [fn]) ?_
    refine V_ws (w2 := surgeW g a now spare K nw sts rf ((findFaultF pg).2) ++ modelW g b now.1 wv ah pa pw ai aw sts rf ((findFaultF pg).2.1) ((findFaultF pg).2.2.1) (rdP pg.1 pg.2.1) ((rdF pg.1 pg.2.1).2) lr2 nu2 hsh) (by rw [pf.2.1, pf.2.2.1]) ?_
    refine V_icmp_eq (tgt := 637) ok dL_law_582 (by decide) (fun h582 => ?_) (fun h582 => absurd rfl h582)
    refine V_iinc (q := 0) (v := nI (p + 4)) (lv2 := [(3, .int (nI (p + 4))), (2, .ref (b 0)), (1, .ref (a 0)), (0, .ref sc)]) ok dL_law_637 rfl (nI_inc p 4) (by decide) rfl ?_
    refine V_goto (tgt := 18) ok dL_law_640 (by decide) ?_
    refine V_lv [0, 1, 2, 3] rfl ?_
    exact ih (L - (p + 4)) (by omega) (p + 4) now spare K nw sts rf ((findFaultF pg).2) wv ah pa pw ai aw (rdP pg.1 pg.2.1) ((rdF pg.1 pg.2.1).2) lr2 nu2 hsh (by omega) rfl (⟨(hR).1, (hR).2.1, (hR).2.2.1, (hR).2.2.2.1, (hR).2.2.2.2.1, (hR).2.2.2.2.2.1, by rw [pf.2.2.1]; exact r7, rfl, rfl, fun p hp => by rw [pf.2.1]; rw [pf.2.2.1] at hp; exact r10 p hp⟩)
set_option maxHeartbeats 4000000 in
set_option maxRecDepth 100000 in
theorem law_16 {g : Glob} {Γ : Ctx} {nm : String} (ok : OK g Γ ⟨RL, nm, ""⟩ cL_law 4 (some .boolean) room_1 (fun r _ => r = some (.int 1))) {a b : Nat → Nat} {sc L : Nat} {xs : Nat → Int32} (s_X : va_X sc L xs (kS Γ) (kS Γ).heap) (s_A : ¬ kO Γ sc) (s_z : sc < (kS Γ).heap.size) (hL : L ≤ 2048) (p : Nat) (now : LineSt) (spare : LineSt) (K : Nat → LineSt) (nw : Nat) (sts : Nat) (rf : Nat → Int32) (pg : PageSt) (wv : Nat → UInt64) (ah : Nat → UInt64) (pa : Nat → Int32) (pw : Nat → UInt64) (ai : Nat → Int32) (aw : Nat → UInt64) (pl : Nat) (ord : Nat) (lr : Nat → Int32) (nu : Nat → Int32) (hsh : Int64) (ih : ∀ (n2 : Nat), n2 < L - p → ∀ (p : Nat) (now : LineSt) (spare : LineSt) (K : Nat → LineSt) (nw : Nat) (sts : Nat) (rf : Nat → Int32) (pg : PageSt) (wv : Nat → UInt64) (ah : Nat → UInt64) (pa : Nat → Int32) (pw : Nat → UInt64) (ai : Nat → Int32) (aw : Nat → UInt64) (pl : Nat) (ord : Nat) (lr : Nat → Int32) (nu : Nat → Int32) (hsh : Int64), p ≤ L → n2 = L - p → Rel now K nw sts pg wv pa pw pg.1 pg.2.1 → V g Γ 4 53 1103 18 (surgeW g a now spare K nw sts rf pg ++ modelW g b now.1 wv ah pa pw ai aw sts rf pg.1 pg.2.1 pl ord lr nu hsh) [(3, .int (nI p)), (2, .ref (b 0)), (1, .ref (a 0)), (0, .ref sc)] []) (hp : p + 4 ≤ L) (hR : Rel now K nw sts pg wv pa pw pg.1 pg.2.1) : V g Γ 4 53 1103 587 (surgeW g a now spare K nw sts rf pg ++ modelW g b now.1 wv ah pa pw ai aw sts rf pg.1 pg.2.1 pl ord lr nu hsh) [(3, .int (nI p)), (2, .ref (b 0)), (1, .ref (a 0)), (0, .ref sc)] [] := by
  obtain ⟨r1, r2, r3, r4, r5, r6, r7, -, -, r10⟩ := id hR
  cases sts with
  | zero =>
    refine V_aload_n ok dL_law_587 rfl 2 rfl ?_
    refine V_lx (v2 := some (.int (-3))) (rest := []) ok (c_X2_back_none g a now spare K nw rf pg) 0 twm_L_84 twi_yX2_back twv_yX2_back twin_X2 twc_yX2_back yok_X2_back (by decide) ⟨rfl, rfl⟩ dL_law_588 rfl rfl rfl (Nat.le_of_ble_eq_true rfl) ⟨by decide, by decide⟩ ?_
    refine V_aload_n ok dL_law_591 rfl 1 rfl ?_
    refine V_lm (rest := [.int (-3)]) ok surge_len rfl rfl (c_X3_back_none g b now.1 wv ah pa pw ai aw 0 rf pg.1 pg.2.1 pl ord lr nu hsh rfl) 0 twm_L_87 twi_yX3_back twv_yX3_back twin_X3 twc_yX3_back yok_X3_back (by decide) ⟨rfl, rfl⟩ dL_law_592 rfl rfl rfl (Nat.le_of_ble_eq_true rfl) ⟨by decide, by decide⟩ (fun _ _ hh => by obtain ⟨-, rfl⟩ := hh; rfl) (fun v_ w_ hh => ?_)
    obtain ⟨rfl, rfl⟩ := hh
    refine V_icmp_eq (tgt := 637) ok dL_law_595 (by decide) (fun h595 => ?_) (fun h595 => absurd rfl h595)
    refine V_iinc (q := 0) (v := nI (p + 4)) (lv2 := [(3, .int (nI (p + 4))), (2, .ref (b 0)), (1, .ref (a 0)), (0, .ref sc)]) ok dL_law_637 rfl (nI_inc p 4) (by decide) rfl ?_
    refine V_goto (tgt := 18) ok dL_law_640 (by decide) ?_
    refine V_lv [0, 1, 2, 3] rfl ?_
    exact ih (L - (p + 4)) (by omega) (p + 4) now spare K nw 0 (rfU rf (-3)) pg wv ah pa pw ai aw pl ord lr nu hsh (by omega) rfl hR
  | succ s =>
    have hq := r3 s (Nat.lt_succ_self s)
    rw [show (nw + 5 + s - (s + 1)) % 4 = nw by omega] at hq
    refine V_aload_n ok dL_law_587 rfl 2 rfl ?_
    refine V_lx (v2 := some (.int (nI s))) (rest := []) ok (c_X2_back_ok g a now spare K nw s rf pg r5 (by omega)) 0 twm_L_84 twi_yX2_back twv_yX2_back twin_X2 twc_yX2_back yok_X2_back (by decide) ⟨rfl, rfl⟩ dL_law_588 rfl rfl rfl (Nat.le_of_ble_eq_true rfl) ⟨by decide, by decide⟩ ?_
    refine V_aload_n ok dL_law_591 rfl 1 rfl ?_
    refine V_lm (rest := [.int (nI s)]) ok surge_len rfl rfl (c_X3_back_ok g b now.1 wv ah pa pw ai aw (s + 1) rf pg.1 pg.2.1 pl ord lr nu hsh s (K nw) rfl (by omega) hq.1) 0 twm_L_87 twi_yX3_back twv_yX3_back twin_X3 twc_yX3_back yok_X3_back (by decide) ⟨rfl, rfl⟩ dL_law_592 rfl rfl rfl (Nat.le_of_ble_eq_true rfl) ⟨by decide, by decide⟩ (fun _ _ hh => by obtain ⟨-, rfl⟩ := hh; rfl) (fun v_ w_ hh => ?_)
    obtain ⟨rfl, rfl⟩ := hh
    refine V_icmp_eq (tgt := 637) ok dL_law_595 (by decide) (fun h595 => ?_) (fun h595 => absurd rfl h595)
    refine V_iinc (q := 0) (v := nI (p + 4)) (lv2 := [(3, .int (nI (p + 4))), (2, .ref (b 0)), (1, .ref (a 0)), (0, .ref sc)]) ok dL_law_637 rfl (nI_inc p 4) (by decide) rfl ?_
    refine V_goto (tgt := 18) ok dL_law_640 (by decide) ?_
    refine V_lv [0, 1, 2, 3] rfl ?_
    exact ih (L - (p + 4)) (by omega) (p + 4) (K nw) spare K ((nw + 3) % 4) s rf pg (fun j => pw (45 * s + j)) ah pa pw ai aw pl ord lr nu hsh (by omega) rfl (⟨r4 nw r5, hq.2, r3.drop (by omega), r4, Nat.mod_lt _ (by decide), by omega, r7, rfl, rfl, r10⟩)
set_option maxHeartbeats 4000000 in
set_option maxRecDepth 100000 in
theorem law_17 {g : Glob} {Γ : Ctx} {nm : String} (ok : OK g Γ ⟨RL, nm, ""⟩ cL_law 4 (some .boolean) room_1 (fun r _ => r = some (.int 1))) {a b : Nat → Nat} {sc L : Nat} {xs : Nat → Int32} (s_X : va_X sc L xs (kS Γ) (kS Γ).heap) (s_A : ¬ kO Γ sc) (s_z : sc < (kS Γ).heap.size) (hL : L ≤ 2048) (p : Nat) (now : LineSt) (spare : LineSt) (K : Nat → LineSt) (nw : Nat) (sts : Nat) (rf : Nat → Int32) (pg : PageSt) (wv : Nat → UInt64) (ah : Nat → UInt64) (pa : Nat → Int32) (pw : Nat → UInt64) (ai : Nat → Int32) (aw : Nat → UInt64) (pl : Nat) (ord : Nat) (lr : Nat → Int32) (nu : Nat → Int32) (hsh : Int64) (ih : ∀ (n2 : Nat), n2 < L - p → ∀ (p : Nat) (now : LineSt) (spare : LineSt) (K : Nat → LineSt) (nw : Nat) (sts : Nat) (rf : Nat → Int32) (pg : PageSt) (wv : Nat → UInt64) (ah : Nat → UInt64) (pa : Nat → Int32) (pw : Nat → UInt64) (ai : Nat → Int32) (aw : Nat → UInt64) (pl : Nat) (ord : Nat) (lr : Nat → Int32) (nu : Nat → Int32) (hsh : Int64), p ≤ L → n2 = L - p → Rel now K nw sts pg wv pa pw pg.1 pg.2.1 → V g Γ 4 53 1103 18 (surgeW g a now spare K nw sts rf pg ++ modelW g b now.1 wv ah pa pw ai aw sts rf pg.1 pg.2.1 pl ord lr nu hsh) [(3, .int (nI p)), (2, .ref (b 0)), (1, .ref (a 0)), (0, .ref sc)] []) (hp : p + 4 ≤ L) (hR : Rel now K nw sts pg wv pa pw pg.1 pg.2.1) : V g Γ 4 53 1103 600 (surgeW g a now spare K nw sts rf pg ++ modelW g b now.1 wv ah pa pw ai aw sts rf pg.1 pg.2.1 pl ord lr nu hsh) [(3, .int (nI p)), (2, .ref (b 0)), (1, .ref (a 0)), (0, .ref sc)] [] := by
  obtain ⟨r1, r2, r3, r4, r5, r6, r7, -, -, r10⟩ := id hR
  obtain ⟨q1, hq1⟩ : ∃ q, xs (p + 1) = q := ⟨_, rfl⟩
  by_cases ho : wiB q1 (nI 0) (nI 13) = true
  · obtain ⟨c1, rfl, -, hi1⟩ := wi_nat ho (by decide)
    refine V_aload_n ok dL_law_600 rfl 2 rfl ?_
    refine V_aload_n ok dL_law_601 rfl 3 rfl ?_
    refine V_iload_n ok dL_law_602 rfl 0 rfl ?_
    refine V_iconst (v := nI 1) ok dL_law_603 rfl ?_
    refine V_iaddN (a := p) (b := 1) (c := p + 1) ok dL_law_604 (by first | rfl | omega) ?_
    refine V_sald (f := xs) ok (p + 1) s_X s_A s_z dL_law_605 rfl (by omega) (by omega) ?_
    refine V_top_int (b := nI c1) (hq1) ?_
    refine V_lx (v2 := some (.int (toldV now.1 rf pg.2.1 sts c1))) (rest := []) ok (c_X2_told_ok g a now spare K nw sts rf pg c1 hi1) 1 twm_L_88 twi_yX2_told twv_yX2_told twin_X2 twc_yX2_told yok_X2_told (by decide) ⟨rfl, rfl⟩ dL_law_606 rfl rfl rfl (Nat.le_of_ble_eq_true rfl) ⟨by decide, by decide⟩ ?_
    refine V_aload_n ok dL_law_609 rfl 1 rfl ?_
    refine V_aload_n ok dL_law_610 rfl 3 rfl ?_
    refine V_iload_n ok dL_law_611 rfl 0 rfl ?_
    refine V_iconst (v := nI 1) ok dL_law_612 rfl ?_
    refine V_iaddN (a := p) (b := 1) (c := p + 1) ok dL_law_613 (by first | rfl | omega) ?_
    refine V_sald (f := xs) ok (p + 1) s_X s_A s_z dL_law_614 rfl (by omega) (by omega) ?_
    refine V_top_int (b := nI c1) (hq1) ?_
    refine V_lm (rest := [.int (toldV now.1 rf pg.2.1 sts c1)]) ok surge_len rfl rfl (c_X3_told_ok g b now.1 wv ah pa pw ai aw sts rf pg.1 pg.2.1 pl ord lr nu hsh c1 hi1) 1 twm_L_91 twi_yX3_told twv_yX3_told twin_X3 twc_yX3_told yok_X3_told (by decide) ⟨rfl, rfl⟩ dL_law_615 rfl rfl rfl (Nat.le_of_ble_eq_true rfl) ⟨by decide, by decide⟩ (fun _ _ hh => by obtain ⟨-, rfl⟩ := hh; rfl) (fun v_ w_ hh => ?_)
    obtain ⟨rfl, rfl⟩ := hh
    refine V_icmp_eq (tgt := 637) ok dL_law_618 (by decide) (fun h618 => ?_) (fun h618 => absurd rfl h618)
    refine V_iinc (q := 0) (v := nI (p + 4)) (lv2 := [(3, .int (nI (p + 4))), (2, .ref (b 0)), (1, .ref (a 0)), (0, .ref sc)]) ok dL_law_637 rfl (nI_inc p 4) (by decide) rfl ?_
    refine V_goto (tgt := 18) ok dL_law_640 (by decide) ?_
    refine V_lv [0, 1, 2, 3] rfl ?_
    exact ih (L - (p + 4)) (by omega) (p + 4) now spare K nw sts rf pg wv ah pa pw ai aw pl ord lr nu hsh (by omega) rfl hR
  · refine V_aload_n ok dL_law_600 rfl 2 rfl ?_
    refine V_aload_n ok dL_law_601 rfl 3 rfl ?_
    refine V_iload_n ok dL_law_602 rfl 0 rfl ?_
    refine V_iconst (v := nI 1) ok dL_law_603 rfl ?_
    refine V_iaddN (a := p) (b := 1) (c := p + 1) ok dL_law_604 (by first | rfl | omega) ?_
    refine V_sald (f := xs) ok (p + 1) s_X s_A s_z dL_law_605 rfl (by omega) (by omega) ?_
    refine V_top_int (b := q1) (hq1) ?_
    refine V_lx (v2 := some (.int (-2))) (rest := []) ok (c_X2_told_bad g a now spare K nw sts rf pg q1 (wi_not ho)) 1 twm_L_88 twi_yX2_told twv_yX2_told twin_X2 twc_yX2_told yok_X2_told (by decide) ⟨rfl, rfl⟩ dL_law_606 rfl rfl rfl (Nat.le_of_ble_eq_true rfl) ⟨by decide, by decide⟩ ?_
    refine V_aload_n ok dL_law_609 rfl 1 rfl ?_
    refine V_aload_n ok dL_law_610 rfl 3 rfl ?_
    refine V_iload_n ok dL_law_611 rfl 0 rfl ?_
    refine V_iconst (v := nI 1) ok dL_law_612 rfl ?_
    refine V_iaddN (a := p) (b := 1) (c := p + 1) ok dL_law_613 (by first | rfl | omega) ?_
    refine V_sald (f := xs) ok (p + 1) s_X s_A s_z dL_law_614 rfl (by omega) (by omega) ?_
    refine V_top_int (b := q1) (hq1) ?_
    refine V_lm (rest := [.int (-2)]) ok surge_len rfl rfl (c_X3_told_bad g b now.1 wv ah pa pw ai aw sts rf pg.1 pg.2.1 pl ord lr nu hsh q1 ho) 1 twm_L_91 twi_yX3_told twv_yX3_told twin_X3 twc_yX3_told yok_X3_told (by decide) ⟨rfl, rfl⟩ dL_law_615 rfl rfl rfl (Nat.le_of_ble_eq_true rfl) ⟨by decide, by decide⟩ (fun _ _ hh => by obtain ⟨-, rfl⟩ := hh; rfl) (fun v_ w_ hh => ?_)
    obtain ⟨rfl, rfl⟩ := hh
    refine V_icmp_eq (tgt := 637) ok dL_law_618 (by decide) (fun h618 => ?_) (fun h618 => absurd rfl h618)
    refine V_iinc (q := 0) (v := nI (p + 4)) (lv2 := [(3, .int (nI (p + 4))), (2, .ref (b 0)), (1, .ref (a 0)), (0, .ref sc)]) ok dL_law_637 rfl (nI_inc p 4) (by decide) rfl ?_
    refine V_goto (tgt := 18) ok dL_law_640 (by decide) ?_
    refine V_lv [0, 1, 2, 3] rfl ?_
    exact ih (L - (p + 4)) (by omega) (p + 4) now spare K nw sts (rfU rf (-2)) pg wv ah pa pw ai aw pl ord lr nu hsh (by omega) rfl hR
set_option maxHeartbeats 4000000 in
set_option maxRecDepth 100000 in
theorem law_18 {g : Glob} {Γ : Ctx} {nm : String} (ok : OK g Γ ⟨RL, nm, ""⟩ cL_law 4 (some .boolean) room_1 (fun r _ => r = some (.int 1))) {a b : Nat → Nat} {sc L : Nat} {xs : Nat → Int32} (s_X : va_X sc L xs (kS Γ) (kS Γ).heap) (s_A : ¬ kO Γ sc) (s_z : sc < (kS Γ).heap.size) (hL : L ≤ 2048) (p : Nat) (now : LineSt) (spare : LineSt) (K : Nat → LineSt) (nw : Nat) (sts : Nat) (rf : Nat → Int32) (pg : PageSt) (wv : Nat → UInt64) (ah : Nat → UInt64) (pa : Nat → Int32) (pw : Nat → UInt64) (ai : Nat → Int32) (aw : Nat → UInt64) (pl : Nat) (ord : Nat) (lr : Nat → Int32) (nu : Nat → Int32) (hsh : Int64) (ih : ∀ (n2 : Nat), n2 < L - p → ∀ (p : Nat) (now : LineSt) (spare : LineSt) (K : Nat → LineSt) (nw : Nat) (sts : Nat) (rf : Nat → Int32) (pg : PageSt) (wv : Nat → UInt64) (ah : Nat → UInt64) (pa : Nat → Int32) (pw : Nat → UInt64) (ai : Nat → Int32) (aw : Nat → UInt64) (pl : Nat) (ord : Nat) (lr : Nat → Int32) (nu : Nat → Int32) (hsh : Int64), p ≤ L → n2 = L - p → Rel now K nw sts pg wv pa pw pg.1 pg.2.1 → V g Γ 4 53 1103 18 (surgeW g a now spare K nw sts rf pg ++ modelW g b now.1 wv ah pa pw ai aw sts rf pg.1 pg.2.1 pl ord lr nu hsh) [(3, .int (nI p)), (2, .ref (b 0)), (1, .ref (a 0)), (0, .ref sc)] []) (hp : p + 4 ≤ L) (hR : Rel now K nw sts pg wv pa pw pg.1 pg.2.1) : V g Γ 4 53 1103 623 (surgeW g a now spare K nw sts rf pg ++ modelW g b now.1 wv ah pa pw ai aw sts rf pg.1 pg.2.1 pl ord lr nu hsh) [(3, .int (nI p)), (2, .ref (b 0)), (1, .ref (a 0)), (0, .ref sc)] [] := by
  obtain ⟨r1, r2, r3, r4, r5, r6, r7, -, -, r10⟩ := id hR
  refine V_aload_n ok dL_law_623 rfl 2 rfl ?_
  refine V_lx (v2 := some (.long (31 * (dig2 now (dig1 now.1 rf pg.2.1 sts)) + tf (advL 20 (settleL (tryV now.1 (nI 2) (now.1 7), spare.2))).2.2.2.2.2.1))) (rest := []) ok (c_X2_digest g a now spare K nw sts rf pg r1) 0 twm_L_92 twi_yX2_digest twv_yX2_digest twin_X2 twc_yX2_digest yok_X2_digest (by decide) ⟨rfl, rfl⟩ dL_law_624 rfl rfl rfl (Nat.le_of_ble_eq_true rfl) ⟨by decide, by decide⟩ ?_
  refine V_aload_n ok dL_law_627 rfl 1 rfl ?_
  refine V_lm (rest := [.long (31 * (dig2 now (dig1 now.1 rf pg.2.1 sts)) + tf (advL 20 (settleL (tryV now.1 (nI 2) (now.1 7), spare.2))).2.2.2.2.2.1)]) ok surge_len rfl rfl (c_X3_digest g b now wv ah pa pw ai aw sts rf pg.1 pg.2.1 pl ord lr nu hsh spare r1 r2) 0 twm_L_96 twi_yX3_digest twv_yX3_digest twin_X3 twc_yX3_digest yok_X3_digest (by decide) ⟨rfl, rfl⟩ dL_law_628 rfl rfl rfl (Nat.le_of_ble_eq_true rfl) ⟨by decide, by decide⟩ (fun _ _ hh => by obtain ⟨-, _, rfl⟩ := hh; rfl) (fun v_ w_ hh => ?_)
  obtain ⟨rfl, ah2, rfl⟩ := hh
  refine V_lcmp_eq (tgt := 637) ok dL_law_631 dL_law_632 (by decide) (fun h631 => ?_) (fun h631 => absurd rfl h631)
  refine V_iinc (q := 0) (v := nI (p + 4)) (lv2 := [(3, .int (nI (p + 4))), (2, .ref (b 0)), (1, .ref (a 0)), (0, .ref sc)]) ok dL_law_637 rfl (nI_inc p 4) (by decide) rfl ?_
  refine V_goto (tgt := 18) ok dL_law_640 (by decide) ?_
  refine V_lv [0, 1, 2, 3] rfl ?_
  exact ih (L - (p + 4)) (by omega) (p + 4) now (advL 20 (settleL (tryV now.1 (nI 2) (now.1 7), spare.2))) K nw sts rf pg wv ah2 pa pw now.1 wv pl ord lr nu (31 * (dig2 now (dig1 now.1 rf pg.2.1 sts)) + tf (advL 20 (settleL (tryV now.1 (nI 2) (now.1 7), spare.2))).2.2.2.2.2.1) (by omega) rfl hR
