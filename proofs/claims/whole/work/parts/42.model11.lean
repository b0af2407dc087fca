theorem mo_let {tx : Nat → Int32} {len p : Nat} (h : (moF tx len p).1 = true) : letB (hereP tx len p) = true := by
  by_cases q : letB (hereP tx len p) = true
  · exact q
  · rw [show moF tx len p = _ from if_neg q] at h; exact absurd h Bool.false_ne_true
theorem obey_any {x : LineSt} {c f s t : Int32} (h : ¬ c = nI 119) : obeyF x c f s = obeyF x c f t := by
  unfold obeyF; rw [if_neg h, if_neg h]
/-- one order, read again -/
theorem step_rd {tx : Nat → Int32} {len n i : Nat} {lr nu : Nat → Int32} (hR : Rec tx len n lr nu) (hi : i < n) {Q : PageSt} (hQ : PG Q) (e1 : Q.1 = tx) (e2 : Q.2.1 = len) (hp : skipP tx len (pPl Q) = plc tx len i) (y : LineSt) :
    (nextOrderF Q).1 = true ∧ obeyF y (pLet (nextOrderF Q).2) (pFst (nextOrderF Q).2) (pSnd (nextOrderF Q).2) = obeyF y (lr i) (nu (2 * i)) (nu (2 * i + 1)) ∧ PG (nextOrderF Q).2 ∧ (nextOrderF Q).2.1 = tx ∧ (nextOrderF Q).2.2.1 = len ∧ skipP tx len (pPl (nextOrderF Q).2) = plc tx len (i + 1) := by
  have hn := nx Q
  rw [e1, e2, hp] at hn
  obtain ⟨n1, n2, n3⟩ := hn
  obtain ⟨r1, r2, r3, r4⟩ := hR i hi
  have hr := nx_rows Q hQ
  obtain ⟨m1, m2, m3⟩ := n3 r1
  rw [if_pos r1] at n2
  refine ⟨n1.trans r1, ?_, (PG.next hQ).1, hr.1.trans e1, hr.2.1.trans e2, ?_⟩
  · rw [m1, m2, r2, r3]
    by_cases hc : hereP tx len (plc tx len i) = nI 119
    · rw [m3 hc, r4 hc]
    · exact obey_any hc
  · rw [n2]; exact skip_idem _ _ (Nat.le_refl _)
theorem reads_go {f i : Nat} {y z : LineSt} {Q : PageSt} (h1 : (nextOrderF Q).1 = true) {o : Bool × LineSt} (h2 : obeyF y (pLet (nextOrderF Q).2) (pFst (nextOrderF Q).2) (pSnd (nextOrderF Q).2) = o) (h3 : o.1 = true) : readsN (f + 1) i y Q = readsN f (i + 1) o.2 (nextOrderF Q).2 := by
  subst h2; exact (if_pos h1).trans (if_pos h3)
theorem reads_no {f i : Nat} {y : LineSt} {Q : PageSt} (h1 : (nextOrderF Q).1 = true) {o : Bool × LineSt} (h2 : obeyF y (pLet (nextOrderF Q).2) (pFst (nextOrderF Q).2) (pSnd (nextOrderF Q).2) = o) (h3 : ¬ o.1 = true) : (readsN (f + 1) i y Q).1 = some i := by
  subst h2; rw [show readsN (f + 1) i y Q = _ from (if_pos h1).trans (if_neg h3)]
theorem reads_ord : ∀ (f i : Nat) (y : LineSt) (Q : PageSt), PG Q → (readsN f i y Q).2.2.2.2.1 = Q.2.2.1
  | 0, _, _, _, _ => rfl
  | f + 1, i, y, Q, h => by
    have hr := nx_rows Q h
    simp only [readsN]
    split
    · split
      · rw [reads_ord f _ _ _ (PG.next h).1]; exact hr.2.2
      · exact hr.2.2
    · exact hr.2.2
set_option maxHeartbeats 4000000 in
set_option maxRecDepth 100000 in
theorem c_X3_reads_fault (g : Glob) (b : Nat → Nat) (nw : Nat → Int32) (wv : Nat → UInt64) (ah : Nat → UInt64) (pa : Nat → Int32) (pw : Nat → UInt64) (ai : Nat → Int32) (aw : Nat → UInt64) (sts : Nat) (rf : Nat → Int32) (tx : Nat → Int32) (len : Nat) (pl : Nat) (ord : Nat) (lr : Nat → Int32) (nu : Nat → Int32) (hsh : Int64) (hl : len ≤ 100) (htx : ∀ p, p < len → ¬ tx p = (-1)) (hf : (rdF tx len).1 = false) : Con g yX3_reads cX3_reads 2 (some .int) ({ frames := 5, cells := 0, slots := 0, locals := 127 } : Room) [.ref (b 0)] (modelW g b nw wv ah pa pw ai aw sts rf tx len pl ord lr nu hsh) (fun r_ w_ => r_ = (some (.int ((-10) - nI (rdP tx len)))) ∧ ∃ lr2 : Nat → Int32, ∃ nu2 : Nat → Int32,  w_ = modelW g b nw wv ah pa pw ai aw sts rf tx len (rdP tx len) ((rdF tx len).2) lr2 nu2 hsh) := by
  refine con_of_V ypl_X3_reads (Nat.le_of_ble_eq_true rfl) [(0, .ref (b 0))] rfl (fun Γ ok => ?_)
  refine V_aload_n ok dX3_reads_0 rfl 0 rfl ?_
  refine V_cX (rest := []) ok 0 3 (c_X3_isRead g b nw wv ah pa pw ai aw sts rf tx len pl ord lr nu hsh hl htx) 0 twm_X3_179 twi_yX3_isRead twv_yX3_isRead twin_X3 twc_yX3_isRead yok_X3_isRead (by decide) ⟨rfl, rfl⟩ dX3_reads_1 rfl rfl rfl rfl (Nat.le_of_ble_eq_true rfl) ⟨Nat.zero_le _, Nat.zero_le _⟩ (fun v_ w_ hh => ?_)
  obtain ⟨rfl, lr1, nu1, hw1, rfl⟩ := hh
  refine V_ifB_ne (tgt := 15) ok dX3_reads_4 (by decide) (fun h4 => absurd h4 (by rw [hf]; exact Bool.false_ne_true)) (fun h4 => ?_)
  refine V_bipush (v := (-10)) ok dX3_reads_7 rfl ?_
  refine V_aload_n ok dX3_reads_9 rfl 0 rfl ?_
  refine V_get (v := .int (nI (rdP tx len))) ok 0 11 tw_X3 twf_X3_155 rfl rfl (by decide) dX3_reads_10 rfl rfl ?_
  refine V_isub ok dX3_reads_13 ?_
  exact V_iret ok dX3_reads_14 (Nat.zero_le _) (Nat.zero_le _) ⟨rfl, _, _, rfl⟩
set_option maxHeartbeats 4000000 in
set_option maxRecDepth 100000 in
theorem c_X3_reads_stop (g : Glob) (b : Nat → Nat) (x : LineSt) (wv : Nat → UInt64) (ah : Nat → UInt64) (pa : Nat → Int32) (pw : Nat → UInt64) (ai : Nat → Int32) (aw : Nat → UInt64) (sts : Nat) (rf : Nat → Int32) (tx : Nat → Int32) (len : Nat) (pl : Nat) (ord : Nat) (lr : Nat → Int32) (nu : Nat → Int32) (hsh : Int64) (j : Nat) (pg : PageSt) (e1 : pg.1 = tx) (e2 : pg.2.1 = len) (hpg : pg.2.1 ≤ 100) (hl : len ≤ 100) (htx : ∀ p, p < len → ¬ tx p = (-1)) (hf : (rdF tx len).1 = true) (hx : LG x) (hw : WR x wv) (hRR : (readsN (rdF tx len).2 0 x (setPl (findFaultF pg).2 0)).1 = some j) : Con g yX3_reads cX3_reads 2 (some .int) ({ frames := 5, cells := 0, slots := 0, locals := 127 } : Room) [.ref (b 0)] (modelW g b x.1 wv ah pa pw ai aw sts rf tx len pl ord lr nu hsh) (fun r_ w_ => r_ = (some (.int ((-1000) - nI j))) ∧ ∃ ah2 : Nat → UInt64, ∃ lr2 : Nat → Int32, ∃ nu2 : Nat → Int32,  w_ = modelW g b x.1 wv ah2 pa pw x.1 wv sts rf tx len (rdP tx len) ((rdF tx len).2) lr2 nu2 hsh) := by
  refine con_of_V ypl_X3_reads (Nat.le_of_ble_eq_true rfl) [(0, .ref (b 0))] rfl (fun Γ ok => ?_)
  refine V_aload_n ok dX3_reads_0 rfl 0 rfl ?_
  refine V_cX (rest := []) ok 0 3 (c_X3_isRead g b x.1 wv ah pa pw ai aw sts rf tx len pl ord lr nu hsh hl htx) 0 twm_X3_179 twi_yX3_isRead twv_yX3_isRead twin_X3 twc_yX3_isRead yok_X3_isRead (by decide) ⟨rfl, rfl⟩ dX3_reads_1 rfl rfl rfl rfl (Nat.le_of_ble_eq_true rfl) ⟨Nat.zero_le _, Nat.zero_le _⟩ (fun v_ w_ hh => ?_)
  obtain ⟨rfl, lr1, nu1, hw1, rfl⟩ := hh
  refine V_ifB_ne (tgt := 15) ok dX3_reads_4 (by decide) (fun h4 => ?_) (fun h4 => absurd hf h4)
  refine V_aload_n ok dX3_reads_15 rfl 0 rfl ?_
  refine V_cW (v2 := none) (w2 := modelW g b x.1 wv ah pa pw x.1 wv sts rf tx len (rdP tx len) ((rdF tx len).2) lr1 nu1 hsh) (rest := []) ok 0 3 (c_X3_laysAside g b x.1 wv ah pa pw ai aw sts rf tx len (rdP tx len) ((rdF tx len).2) lr1 nu1 hsh) 0 twm_X3_139 twi_yX3_laysAside twv_yX3_laysAside twin_X3 twc_yX3_laysAside yok_X3_laysAside (by decide) ⟨rfl, rfl⟩ dX3_reads_16 rfl rfl rfl rfl (Nat.le_of_ble_eq_true rfl) ⟨Nat.zero_le _, Nat.zero_le _⟩ ?_
  refine V_iconst (v := nI 0) ok dX3_reads_19 rfl ?_
  refine V_istore_n (lv2 := [(1, .int (nI 0)), (0, .ref (b 0))]) ok dX3_reads_20 rfl (by decide) rfl ?_
  obtain ⟨hRec, hn50⟩ := hw1
  have hfi := (find_rdF hpg)
  rw [e1, e2] at hfi
  have hpf := PG.find hpg
  have HL : ∀ (n i : Nat) (y : LineSt) (Q : PageSt) (wv1 : Nat → UInt64) (ah1 : Nat → UInt64), i ≤ (rdF tx len).2 → n = (rdF tx len).2 - i → (LG y ∧ WR y wv1 ∧ PG Q ∧ Q.1 = tx ∧ Q.2.1 = len ∧ skipP tx len (pPl Q) = plc tx len i ∧ readsN ((rdF tx len).2 - i) i y Q = (readsN (rdF tx len).2 0 x (setPl (findFaultF pg).2 0))) → V g Γ 2 0 0 21 (modelW g b y.1 wv1 ah1 pa pw x.1 wv sts rf tx len (rdP tx len) ((rdF tx len).2) lr1 nu1 hsh) [(1, .int (nI i)), (0, .ref (b 0))] [] := by
    intro n
    induction n using Nat.strongRecOn with
    | ind n ih =>
    intro i y Q wv1 ah1 hi hn hI
    subst hn
    refine V_iload_n ok dX3_reads_21 rfl 0 rfl ?_
    refine V_aload_n ok dX3_reads_22 rfl 1 rfl ?_
    refine V_get (v := .int (nI ((rdF tx len).2))) ok 0 12 tw_X3 twf_X3_168 rfl rfl (by decide) dX3_reads_23 rfl rfl ?_
    refine V_icmpN_ge (tgt := 43) ok dX3_reads_26 (by decide) (by omega) (by omega) (fun h26 => ?_) (fun h26 => ?_)
    · have hiN : i = (rdF tx len).2 := by omega
      have hRN : readsN 0 i y Q = (readsN (rdF tx len).2 0 x (setPl (findFaultF pg).2 0)) := by rw [← hI.2.2.2.2.2.2, hiN, Nat.sub_self]
      exact absurd (hRR.symm.trans (congrArg Prod.fst hRN.symm)) (by intro z; cases z)
    · obtain ⟨s1, s2, s3, s4, s5, s6⟩ := step_rd hRec (i := i) (by omega) hI.2.2.1 hI.2.2.2.1 hI.2.2.2.2.1 hI.2.2.2.2.2.1 y
      refine V_aload_n ok dX3_reads_29 rfl 1 rfl ?_
      refine V_iload_n ok dX3_reads_30 rfl 0 rfl ?_
      refine V_cX (rest := []) ok 0 3 (c_X3_isDone g b y wv1 ah1 pa pw x.1 wv sts rf tx len (rdP tx len) ((rdF tx len).2) lr1 nu1 hsh i (by omega) (by rw [(hRec i (by omega)).2.1]; exact mo_let (hRec i (by omega)).1) hI.1 hI.2.1) 1 twm_X3_182 twi_yX3_isDone twv_yX3_isDone twin_X3 twc_yX3_isDone yok_X3_isDone (by decide) ⟨rfl, rfl⟩ dX3_reads_31 rfl rfl rfl rfl (Nat.le_of_ble_eq_true rfl) ⟨Nat.zero_le _, Nat.zero_le _⟩ (fun v_ w_ hh => ?_)
      obtain ⟨rfl, wv31, ah31, hw31, rfl⟩ := hh
      refine V_ifB_eq (tgt := 43) ok dX3_reads_34 (by decide) (fun h34 => ?_) (fun h34 => ?_)
      · have hno : (readsN (rdF tx len).2 0 x (setPl (findFaultF pg).2 0)).1 = some i := by rw [← hI.2.2.2.2.2.2, show (rdF tx len).2 - i = ((rdF tx len).2 - (i + 1)) + 1 by omega]; exact reads_no s1 s2 h34
        refine V_iload_n ok dX3_reads_43 rfl 0 rfl ?_
        refine V_aload_n ok dX3_reads_44 rfl 1 rfl ?_
        refine V_get (v := .int (nI ((rdF tx len).2))) ok 0 12 tw_X3 twf_X3_168 rfl rfl (by decide) dX3_reads_45 rfl rfl ?_
        refine V_icmpN_ge (tgt := 61) ok dX3_reads_48 (by decide) (by omega) (by omega) (fun h48 => absurd h48 (by omega)) (fun h48 => ?_)
        refine V_aload_n ok dX3_reads_51 rfl 1 rfl ?_
        refine V_cW (v2 := none) (w2 := modelW g b x.1 wv ah31 pa pw x.1 wv sts rf tx len (rdP tx len) ((rdF tx len).2) lr1 nu1 hsh) (rest := []) ok 0 3 (c_X3_becomesAside g b (((obeyF y (lr1 i) (nu1 (2 * i)) (nu1 (2 * i + 1))).2).1) wv31 ah31 pa pw x.1 wv sts rf tx len (rdP tx len) ((rdF tx len).2) lr1 nu1 hsh) 0 twm_X3_142 twi_yX3_becomesAside twv_yX3_becomesAside twin_X3 twc_yX3_becomesAside yok_X3_becomesAside (by decide) ⟨rfl, rfl⟩ dX3_reads_52 rfl rfl rfl rfl (Nat.le_of_ble_eq_true rfl) ⟨Nat.zero_le _, Nat.zero_le _⟩ ?_
        refine V_sipush (v := (-1000)) ok dX3_reads_55 rfl ?_
        refine V_iload_n ok dX3_reads_58 rfl 0 rfl ?_
        refine V_isub ok dX3_reads_59 ?_
        exact V_iret ok dX3_reads_60 (Nat.zero_le _) (Nat.zero_le _) ⟨by rw [Option.some.inj (hRR.symm.trans hno)], _, _, _, rfl⟩
      · refine V_iinc (q := 0) (v := nI (i + 1)) (lv2 := [(1, .int (nI (i + 1))), (0, .ref (b 0))]) ok dX3_reads_37 rfl (nI_inc i 1) (by decide) rfl ?_
        refine V_goto (tgt := 21) ok dX3_reads_40 (by decide) ?_
        refine V_lv [0, 1] rfl ?_
        exact ih ((rdF tx len).2 - (i + 1)) (by omega) (i + 1) (obeyF y (lr1 i) (nu1 (2 * i)) (nu1 (2 * i + 1))).2 (nextOrderF Q).2 wv31 ah31 (by omega) rfl ⟨obey_LG hI.1 _ _ _, hw31, s3, s4, s5, s6, by rw [← hI.2.2.2.2.2.2, show (rdF tx len).2 - i = ((rdF tx len).2 - (i + 1)) + 1 by omega]; exact (reads_go (z := y) s1 s2 h34).symm⟩
  refine V_lv [0, 1] rfl ?_
  exact HL (rdF tx len).2 0 x (setPl (findFaultF pg).2 0) wv ah (Nat.zero_le _) rfl ⟨hx, hw, ⟨by show (findFaultF pg).2.2.1 ≤ 100; rw [hpf.2.2.1]; exact hpg, Nat.zero_le _⟩, hpf.2.1.trans e1, hpf.2.2.1.trans e2, rfl, rfl⟩
set_option maxHeartbeats 4000000 in
set_option maxRecDepth 100000 in
theorem c_X3_reads_ok (g : Glob) (b : Nat → Nat) (x : LineSt) (wv : Nat → UInt64) (ah : Nat → UInt64) (pa : Nat → Int32) (pw : Nat → UInt64) (ai : Nat → Int32) (aw : Nat → UInt64) (sts : Nat) (rf : Nat → Int32) (tx : Nat → Int32) (len : Nat) (pl : Nat) (ord : Nat) (lr : Nat → Int32) (nu : Nat → Int32) (hsh : Int64) (pg : PageSt) (e1 : pg.1 = tx) (e2 : pg.2.1 = len) (hpg : pg.2.1 ≤ 100) (hl : len ≤ 100) (htx : ∀ p, p < len → ¬ tx p = (-1)) (hf : (rdF tx len).1 = true) (hx : LG x) (hw : WR x wv) (hRR : (readsN (rdF tx len).2 0 x (setPl (findFaultF pg).2 0)).1 = none) (hst : sts ≤ 4) : Con g yX3_reads cX3_reads 2 (some .int) ({ frames := 5, cells := 0, slots := 0, locals := 127 } : Room) [.ref (b 0)] (modelW g b x.1 wv ah pa pw ai aw sts rf tx len pl ord lr nu hsh) (fun r_ w_ => r_ = (some (.int (nI (rdF tx len).2))) ∧ ∃ wv2 : Nat → UInt64, ∃ ah2 : Nat → UInt64, ∃ lr2 : Nat → Int32, ∃ nu2 : Nat → Int32, (WR (readsN (rdF tx len).2 0 x (setPl (findFaultF pg).2 0)).2.1 wv2) ∧  w_ = modelW g b ((readsN (rdF tx len).2 0 x (setPl (findFaultF pg).2 0)).2.1.1) wv2 ah2 (leaI pa sts x.1) (leaD pw sts wv) x.1 wv (stsU sts) rf tx len (rdP tx len) ((rdF tx len).2) lr2 nu2 hsh) := by
  refine con_of_V ypl_X3_reads (Nat.le_of_ble_eq_true rfl) [(0, .ref (b 0))] rfl (fun Γ ok => ?_)
  refine V_aload_n ok dX3_reads_0 rfl 0 rfl ?_
  refine V_cX (rest := []) ok 0 3 (c_X3_isRead g b x.1 wv ah pa pw ai aw sts rf tx len pl ord lr nu hsh hl htx) 0 twm_X3_179 twi_yX3_isRead twv_yX3_isRead twin_X3 twc_yX3_isRead yok_X3_isRead (by decide) ⟨rfl, rfl⟩ dX3_reads_1 rfl rfl rfl rfl (Nat.le_of_ble_eq_true rfl) ⟨Nat.zero_le _, Nat.zero_le _⟩ (fun v_ w_ hh => ?_)
  obtain ⟨rfl, lr1, nu1, hw1, rfl⟩ := hh
  refine V_ifB_ne (tgt := 15) ok dX3_reads_4 (by decide) (fun h4 => ?_) (fun h4 => absurd hf h4)
  refine V_aload_n ok dX3_reads_15 rfl 0 rfl ?_
  refine V_cW (v2 := none) (w2 := modelW g b x.1 wv ah pa pw x.1 wv sts rf tx len (rdP tx len) ((rdF tx len).2) lr1 nu1 hsh) (rest := []) ok 0 3 (c_X3_laysAside g b x.1 wv ah pa pw ai aw sts rf tx len (rdP tx len) ((rdF tx len).2) lr1 nu1 hsh) 0 twm_X3_139 twi_yX3_laysAside twv_yX3_laysAside twin_X3 twc_yX3_laysAside yok_X3_laysAside (by decide) ⟨rfl, rfl⟩ dX3_reads_16 rfl rfl rfl rfl (Nat.le_of_ble_eq_true rfl) ⟨Nat.zero_le _, Nat.zero_le _⟩ ?_
  refine V_iconst (v := nI 0) ok dX3_reads_19 rfl ?_
  refine V_istore_n (lv2 := [(1, .int (nI 0)), (0, .ref (b 0))]) ok dX3_reads_20 rfl (by decide) rfl ?_
  obtain ⟨hRec, hn50⟩ := hw1
  have hfi := (find_rdF hpg)
  rw [e1, e2] at hfi
  have hpf := PG.find hpg
  have HL : ∀ (n i : Nat) (y : LineSt) (Q : PageSt) (wv1 : Nat → UInt64) (ah1 : Nat → UInt64), i ≤ (rdF tx len).2 → n = (rdF tx len).2 - i → (LG y ∧ WR y wv1 ∧ PG Q ∧ Q.1 = tx ∧ Q.2.1 = len ∧ skipP tx len (pPl Q) = plc tx len i ∧ readsN ((rdF tx len).2 - i) i y Q = (readsN (rdF tx len).2 0 x (setPl (findFaultF pg).2 0))) → V g Γ 2 0 0 21 (modelW g b y.1 wv1 ah1 pa pw x.1 wv sts rf tx len (rdP tx len) ((rdF tx len).2) lr1 nu1 hsh) [(1, .int (nI i)), (0, .ref (b 0))] [] := by
    intro n
    induction n using Nat.strongRecOn with
    | ind n ih =>
    intro i y Q wv1 ah1 hi hn hI
    subst hn
    refine V_iload_n ok dX3_reads_21 rfl 0 rfl ?_
    refine V_aload_n ok dX3_reads_22 rfl 1 rfl ?_
    refine V_get (v := .int (nI ((rdF tx len).2))) ok 0 12 tw_X3 twf_X3_168 rfl rfl (by decide) dX3_reads_23 rfl rfl ?_
    refine V_icmpN_ge (tgt := 43) ok dX3_reads_26 (by decide) (by omega) (by omega) (fun h26 => ?_) (fun h26 => ?_)
    · have hiN : i = (rdF tx len).2 := by omega
      have hRN : readsN 0 i y Q = (readsN (rdF tx len).2 0 x (setPl (findFaultF pg).2 0)) := by rw [← hI.2.2.2.2.2.2, hiN, Nat.sub_self]
      refine V_iload_n ok dX3_reads_43 rfl 0 rfl ?_
      refine V_aload_n ok dX3_reads_44 rfl 1 rfl ?_
      refine V_get (v := .int (nI ((rdF tx len).2))) ok 0 12 tw_X3 twf_X3_168 rfl rfl (by decide) dX3_reads_45 rfl rfl ?_
      refine V_icmpN_ge (tgt := 61) ok dX3_reads_48 (by decide) (by omega) (by omega) (fun h48 => ?_) (fun h48 => absurd (Nat.le_of_eq hiN.symm) h48)
      refine V_aload_n ok dX3_reads_61 rfl 1 rfl ?_
      refine V_cW (v2 := none) (w2 := modelW g b x.1 wv ah1 pa pw y.1 wv1 sts rf tx len (rdP tx len) ((rdF tx len).2) lr1 nu1 hsh) (rest := []) ok 0 3 (c_X3_swapsAside g b y.1 wv1 ah1 pa pw x.1 wv sts rf tx len (rdP tx len) ((rdF tx len).2) lr1 nu1 hsh) 0 twm_X3_185 twi_yX3_swapsAside twv_yX3_swapsAside twin_X3 twc_yX3_swapsAside yok_X3_swapsAside (by decide) ⟨rfl, rfl⟩ dX3_reads_62 rfl rfl rfl rfl (Nat.le_of_ble_eq_true rfl) ⟨Nat.zero_le _, Nat.zero_le _⟩ ?_
      refine V_aload_n ok dX3_reads_65 rfl 1 rfl ?_
      refine V_cW (v2 := none) (w2 := modelW g b x.1 wv ah1 (leaI pa sts x.1) (leaD pw sts wv) y.1 wv1 (stsU sts) rf tx len (rdP tx len) ((rdF tx len).2) lr1 nu1 hsh) (rest := []) ok 0 3 (c_X3_leaves g b x.1 wv ah1 pa pw y.1 wv1 sts rf tx len (rdP tx len) ((rdF tx len).2) lr1 nu1 hsh hst) 0 twm_X3_85 twi_yX3_leaves twv_yX3_leaves twin_X3 twc_yX3_leaves yok_X3_leaves (by decide) ⟨rfl, rfl⟩ dX3_reads_66 rfl rfl rfl rfl (Nat.le_of_ble_eq_true rfl) ⟨Nat.zero_le _, Nat.zero_le _⟩ ?_
      refine V_aload_n ok dX3_reads_69 rfl 1 rfl ?_
      refine V_cW (v2 := none) (w2 := modelW g b y.1 wv1 ah1 (leaI pa sts x.1) (leaD pw sts wv) x.1 wv (stsU sts) rf tx len (rdP tx len) ((rdF tx len).2) lr1 nu1 hsh) (rest := []) ok 0 3 (c_X3_swapsAside g b x.1 wv ah1 (leaI pa sts x.1) (leaD pw sts wv) y.1 wv1 (stsU sts) rf tx len (rdP tx len) ((rdF tx len).2) lr1 nu1 hsh) 0 twm_X3_185 twi_yX3_swapsAside twv_yX3_swapsAside twin_X3 twc_yX3_swapsAside yok_X3_swapsAside (by decide) ⟨rfl, rfl⟩ dX3_reads_70 rfl rfl rfl rfl (Nat.le_of_ble_eq_true rfl) ⟨Nat.zero_le _, Nat.zero_le _⟩ ?_
      refine V_aload_n ok dX3_reads_73 rfl 1 rfl ?_
      refine V_get (v := .int (nI ((rdF tx len).2))) ok 0 12 tw_X3 twf_X3_168 rfl rfl (by decide) dX3_reads_74 rfl rfl ?_
      exact V_iret ok dX3_reads_77 (Nat.zero_le _) (Nat.zero_le _) ⟨rfl, _, _, _, _, by rw [← hRN]; exact hI.2.1, by rw [← hRN]; rfl⟩
    · obtain ⟨s1, s2, s3, s4, s5, s6⟩ := step_rd hRec (i := i) (by omega) hI.2.2.1 hI.2.2.2.1 hI.2.2.2.2.1 hI.2.2.2.2.2.1 y
      refine V_aload_n ok dX3_reads_29 rfl 1 rfl ?_
      refine V_iload_n ok dX3_reads_30 rfl 0 rfl ?_
      refine V_cX (rest := []) ok 0 3 (c_X3_isDone g b y wv1 ah1 pa pw x.1 wv sts rf tx len (rdP tx len) ((rdF tx len).2) lr1 nu1 hsh i (by omega) (by rw [(hRec i (by omega)).2.1]; exact mo_let (hRec i (by omega)).1) hI.1 hI.2.1) 1 twm_X3_182 twi_yX3_isDone twv_yX3_isDone twin_X3 twc_yX3_isDone yok_X3_isDone (by decide) ⟨rfl, rfl⟩ dX3_reads_31 rfl rfl rfl rfl (Nat.le_of_ble_eq_true rfl) ⟨Nat.zero_le _, Nat.zero_le _⟩ (fun v_ w_ hh => ?_)
      obtain ⟨rfl, wv31, ah31, hw31, rfl⟩ := hh
      refine V_ifB_eq (tgt := 43) ok dX3_reads_34 (by decide) (fun h34 => ?_) (fun h34 => ?_)
      · have hno : (readsN (rdF tx len).2 0 x (setPl (findFaultF pg).2 0)).1 = some i := by rw [← hI.2.2.2.2.2.2, show (rdF tx len).2 - i = ((rdF tx len).2 - (i + 1)) + 1 by omega]; exact reads_no s1 s2 h34
        exact absurd (hRR.symm.trans hno) (by intro z; cases z)
      · refine V_iinc (q := 0) (v := nI (i + 1)) (lv2 := [(1, .int (nI (i + 1))), (0, .ref (b 0))]) ok dX3_reads_37 rfl (nI_inc i 1) (by decide) rfl ?_
        refine V_goto (tgt := 21) ok dX3_reads_40 (by decide) ?_
        refine V_lv [0, 1] rfl ?_
        exact ih ((rdF tx len).2 - (i + 1)) (by omega) (i + 1) (obeyF y (lr1 i) (nu1 (2 * i)) (nu1 (2 * i + 1))).2 (nextOrderF Q).2 wv31 ah31 (by omega) rfl ⟨obey_LG hI.1 _ _ _, hw31, s3, s4, s5, s6, by rw [← hI.2.2.2.2.2.2, show (rdF tx len).2 - i = ((rdF tx len).2 - (i + 1)) + 1 by omega]; exact (reads_go (z := y) s1 s2 h34).symm⟩
  refine V_lv [0, 1] rfl ?_
  exact HL (rdF tx len).2 0 x (setPl (findFaultF pg).2 0) wv ah (Nat.zero_le _) rfl ⟨hx, hw, ⟨by show (findFaultF pg).2.2.1 ≤ 100; rw [hpf.2.2.1]; exact hpg, Nat.zero_le _⟩, hpf.2.1.trans e1, hpf.2.2.1.trans e2, rfl, rfl⟩
