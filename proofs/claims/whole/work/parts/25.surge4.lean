/-- an order done, if it may be -/
def obeyF (x : LineSt) (c f s : Int32) : Bool × LineSt :=
  if c = nI 115 then (if stepB f = true then (if timeB x.1 f = true then (true, advL f.toNatClampNeg x) else (false, x)) else (false, x))
  else if c = nI 119 then (if isLawB f s = true then (true, (upd (upd x.1 6 f) 7 s, x.2)) else (false, x))
  else if fitsB (valN c) f = true then (true, settleL (upd x.1 (valN c).toNatClampNeg f, x.2)) else (false, x)
theorem fits_in {w u : Int32} (h : fitsB w u = true) : ∃ j, j < 8 ∧ w = nI j := by
  unfold fitsB at h
  split at h
  · cases h
  · split at h
    · cases h
    · rcases pk_ix w (n := 8) (by decide) with q | q | q
      · exact absurd q ‹_›
      · exact absurd q ‹_›
      · exact q
theorem obey_LG {x : LineSt} (h : LG x) (c f s : Int32) : LG (obeyF x c f s).2 := by
  unfold obeyF
  split
  · split
    · split
      · obtain ⟨e, e1, e2⟩ := stepB_iff ‹_›
        refine (LG.adv h _ ?_).1
        exact (timeB_iff h.1 e2).mp (by rw [← e]; assumption)
      · exact h
    · exact h
  · split
    · split
      · exact LG.law h (isLaw_ok ‹_›).1 (isLaw_ok ‹_›).2
      · exact h
    · split
      · rename_i q
        obtain ⟨j, hj, e⟩ := fits_in q
        rw [e, nI_clamp (by omega)]
        rw [e] at q
        exact LG.settle (h.1.put1 (fits_ok hj q))
      · exact h
theorem obeyF_s {x : LineSt} {c f s : Int32} (h1 : c = nI 115) (h2 : stepB f = true) (h3 : timeB x.1 f = true) : obeyF x c f s = (true, advL f.toNatClampNeg x) := by unfold obeyF; rw [if_pos h1, if_pos h2, if_pos h3]
theorem obeyF_p {x : LineSt} {c f s : Int32} {j : Nat} (h1 : ¬ c = nI 115) (h2 : ¬ c = nI 119) (h3 : fitsB (valN c) f = true) (hj : j < 8) (e : valN c = nI j) : obeyF x c f s = (true, settleL (upd x.1 j f, x.2)) := by unfold obeyF; rw [if_neg h1, if_neg h2, if_pos h3, e, nI_clamp (by omega)]
/-- the orders done one by one, f of them left, the i-th next: which stopped, the pipe, the page -/
def readsN : Nat → Nat → LineSt → PageSt → Option Nat × LineSt × PageSt
  | 0, _, x, P => (none, x, P)
  | f + 1, i, x, P => if (nextOrderF P).1 = true then (if (obeyF x (pLet (nextOrderF P).2) (pFst (nextOrderF P).2) (pSnd (nextOrderF P).2)).1 = true then readsN f (i + 1) (obeyF x (pLet (nextOrderF P).2) (pFst (nextOrderF P).2) (pSnd (nextOrderF P).2)).2 (nextOrderF P).2 else (some i, x, (nextOrderF P).2)) else (some i, x, (nextOrderF P).2)
theorem PG.fault : ∀ (f : Nat) (P : PageSt), PG P → PG (faultN f P).2 ∧ (faultN f P).2.1 = P.1 ∧ (faultN f P).2.2.1 = P.2.1 ∧ (f + P.2.2.1 ≤ 100 → (faultN f P).2.2.2.1 ≤ 100)
  | 0, P, h => ⟨h, rfl, rfl, fun q => by show P.2.2.1 ≤ 100; omega⟩
  | f + 1, P, h => by
    obtain ⟨n1, n2, -, -⟩ := PG.next h
    simp only [faultN]
    split
    · exact ⟨h, rfl, rfl, fun q => by show P.2.2.1 ≤ 100; omega⟩
    · split
      · have e : (nextOrderF P).2.2.2.1 = P.2.2.1 := n2.2.2
        obtain ⟨a1, a2, a3, a4⟩ := PG.fault f (setOrd (nextOrderF P).2 (pOrd (nextOrderF P).2 + 1)) n1
        exact ⟨a1, a2.trans n2.1, a3.trans n2.2.1, fun q => a4 (by show f + ((nextOrderF P).2.2.2.1 + 1) ≤ 100; omega)⟩
      · have e : (nextOrderF P).2.2.2.1 = P.2.2.1 := n2.2.2
        exact ⟨n1, n2.1, n2.2.1, fun q => by show (nextOrderF P).2.2.2.1 ≤ 100; omega⟩
theorem PG.find {P : PageSt} (h : P.2.1 ≤ 100) : PG (findFaultF P).2 ∧ (findFaultF P).2.1 = P.1 ∧ (findFaultF P).2.2.1 = P.2.1 ∧ (findFaultF P).2.2.2.1 ≤ 100 := by
  obtain ⟨a1, a2, a3, a4⟩ := PG.fault 100 (setOrd (setPl P 0) 0) ⟨h, Nat.zero_le _⟩
  exact ⟨a1, a2, a3, a4 (Nat.le_refl _)⟩
set_option maxHeartbeats 4000000 in
set_option maxRecDepth 100000 in
theorem c_X2_obey (g : Glob) (a : Nat → Nat) (now spare : LineSt) (K : Nat → LineSt) (nw sts : Nat) (rf : Nat → Int32) (pg : PageSt) (c f s : Int32) (hx : LG now) : Con g yX2_obey cX2_obey 5 (some .boolean) ({ frames := 3, cells := 0, slots := 0, locals := 75 } : Room) [.ref (a 0), .int c, .int f, .int s] (surgeW g a now spare K nw sts rf pg) (Is (some (.int (bI (obeyF now c f s).1))) (surgeW g a ((obeyF now c f s).2) spare K nw sts rf pg)) := by
  refine con_of_V ypl_X2_obey (Nat.le_of_ble_eq_true rfl) [(0, .ref (a 0)), (1, .int c), (2, .int f), (3, .int s)] rfl (fun Γ ok => ?_)
  have K23 : nI f.toNatClampNeg = f → nv now.1 8 + f.toNatClampNeg ≤ 999 → obeyF now c f s = (true, advL f.toNatClampNeg now) → V g Γ 5 0 0 23 (surgeW g a now spare K nw sts rf pg) [(0, .ref (a 0)), (1, .int c), (2, .int (f)), (3, .int s)] [] := by
    intro e hT hE
    refine V_lv [0, 1, 2, 3] (show lv_pick _ _ = [(0, .ref (a 0)), (1, .int c), (2, .int (nI f.toNatClampNeg)), (3, .int s)] by rw [e]; rfl) ?_
    refine V_aload_n ok dX2_obey_23 rfl 0 rfl ?_
    refine V_get (v := .ref (a 1)) ok 0 0 tw_X2 twf_X2_10 rfl rfl (by decide) dX2_obey_24 sg_at0 rfl ?_
    refine V_iload_n ok dX2_obey_27 rfl 2 rfl ?_
    refine V_cV (v2 := none) (wn := surgeW g a (advL f.toNatClampNeg now) spare K nw sts rf pg) (rest := []) ok 1 0 (c_X0_advance g (fun i => a (1 + i)) now f.toNatClampNeg hx hT) 1 twm_X2_74 twi_yX0_advance twv_yX0_advance twin_X0 twc_yX0_advance yok_X0_advance (by decide) ⟨rfl, rfl⟩ dX2_obey_28 rfl sg_at1 rfl rfl (Nat.le_of_ble_eq_true rfl) ⟨Nat.zero_le _, Nat.zero_le _⟩ (slN 1) rfl sg_sub_1 (Nat.le_of_ble_eq_true rfl) sg_rep_1 ?_
    refine V_iconst (v := nI 1) ok dX2_obey_31 rfl ?_
    exact V_zret ok dX2_obey_32 (Nat.zero_le _) (Nat.zero_le _) rfl ⟨bI_t (by rw [hE]), by rw [hE]⟩
  have K77 : ∀ j, j < 8 → valN c = nI j → fitsB (nI j) f = true → obeyF now c f s = (true, settleL (upd now.1 j f, now.2)) → V g Γ 5 0 0 77 (surgeW g a now spare K nw sts rf pg) [(4, .int (valN c)), (0, .ref (a 0)), (1, .int c), (2, .int f), (3, .int s)] [] := by
    intro j hj e hf hE
    refine V_lv [0, 1, 2, 3, 4] (show lv_pick _ _ = [(4, .int (nI j)), (0, .ref (a 0)), (1, .int c), (2, .int f), (3, .int s)] by rw [e]; rfl) ?_
    refine V_aload_n ok dX2_obey_77 rfl 1 rfl ?_
    refine V_get (v := .ref (a 1)) ok 0 0 tw_X2 twf_X2_10 rfl rfl (by decide) dX2_obey_78 sg_at0 rfl ?_
    refine V_iload ok dX2_obey_81 0 rfl ?_
    refine V_iload_n ok dX2_obey_83 rfl 3 rfl ?_
    refine V_cV (v2 := none) (wn := surgeW g a (settleL (upd now.1 j f, now.2)) spare K nw sts rf pg) (rest := []) ok 1 0 (k_X0_put g (fun i => a (1 + i)) now j f (by omega) (hx.1.put1 (fits_ok hj hf))) 2 twm_X2_204 twi_yX0_put twv_yX0_put twin_X0 twc_yX0_put yok_X0_put (by decide) ⟨rfl, rfl⟩ dX2_obey_84 rfl sg_at1 rfl rfl (Nat.le_of_ble_eq_true rfl) ⟨Nat.zero_le _, Nat.zero_le _⟩ (slN 1) rfl sg_sub_1 (Nat.le_of_ble_eq_true rfl) sg_rep_1 ?_
    refine V_iconst (v := nI 1) ok dX2_obey_87 rfl ?_
    exact V_zret ok dX2_obey_88 (Nat.zero_le _) (Nat.zero_le _) rfl ⟨bI_t (by rw [hE]), by rw [hE]⟩
  refine V_iload_n ok dX2_obey_0 rfl 1 rfl ?_
  refine V_bipush (v := nI 115) ok dX2_obey_1 rfl ?_
  refine V_icmp_ne (tgt := 33) ok dX2_obey_3 (by decide) (fun h3 => ?_) (fun h3 => ?_)
  · refine V_iload_n ok dX2_obey_33 rfl 1 rfl ?_
    refine V_bipush (v := nI 119) ok dX2_obey_34 rfl ?_
    refine V_icmp_ne (tgt := 60) ok dX2_obey_36 (by decide) (fun h36 => ?_) (fun h36 => ?_)
    · refine V_iload_n ok dX2_obey_60 rfl 1 rfl ?_
      refine V_cS (v2 := some (.int (valN c))) (wn := surgeW g a now spare K nw sts rf pg) (rest := []) ok (c_X1_valueNamed g c) 1 twm_X2_207 tws_yX1_valueNamed twin_X1 twc_yX1_valueNamed yok_X1_valueNamed (by decide) ⟨rfl, rfl⟩ dX2_obey_61 rfl rfl (Nat.le_of_ble_eq_true rfl) ⟨Nat.zero_le _, Nat.zero_le _⟩ [] rfl rfl (Nat.le_of_ble_eq_true rfl) (rep_nil _) ?_
      refine V_istore (lv2 := [(4, .int (valN c)), (0, .ref (a 0)), (1, .int c), (2, .int f), (3, .int s)]) ok dX2_obey_64 (by decide) rfl ?_
      refine V_iload ok dX2_obey_66 0 rfl ?_
      refine V_iload_n ok dX2_obey_68 rfl 3 rfl ?_
      refine V_cS (v2 := some (.int (bI (fitsB (valN c) f)))) (wn := surgeW g a now spare K nw sts rf pg) (rest := []) ok (c_X0_fits g (valN c) f) 2 twm_X2_134 tws_yX0_fits twin_X0 twc_yX0_fits yok_X0_fits (by decide) ⟨rfl, rfl⟩ dX2_obey_69 rfl rfl (Nat.le_of_ble_eq_true rfl) ⟨Nat.zero_le _, Nat.zero_le _⟩ [] rfl rfl (Nat.le_of_ble_eq_true rfl) (rep_nil _) ?_
      refine V_ifB_ne (tgt := 77) ok dX2_obey_72 (by decide) (fun h72 => ?_) (fun h72 => ?_)
      · obtain ⟨j, hj, e⟩ := fits_in h72
        have h72j : fitsB (nI j) f = true := by rw [← e]; exact h72
        refine K77 j hj e h72j (obeyF_p h3 h36 h72 hj e)
      · refine V_iconst (v := nI 0) ok dX2_obey_75 rfl ?_
        exact V_zret ok dX2_obey_76 (Nat.zero_le _) (Nat.zero_le _) rfl ⟨bI_f (by unfold obeyF; rw [if_neg h3, if_neg h36, if_neg h72]), by unfold obeyF; rw [if_neg h3, if_neg h36, if_neg h72]⟩
    · refine V_iload_n ok dX2_obey_39 rfl 2 rfl ?_
      refine V_iload_n ok dX2_obey_40 rfl 3 rfl ?_
      refine V_cS (v2 := some (.int (bI (isLawB f s)))) (wn := surgeW g a now spare K nw sts rf pg) (rest := []) ok (c_X0_isLaw g f s) 2 twm_X2_49 tws_yX0_isLaw twin_X0 twc_yX0_isLaw yok_X0_isLaw (by decide) ⟨rfl, rfl⟩ dX2_obey_41 rfl rfl (Nat.le_of_ble_eq_true rfl) ⟨Nat.zero_le _, Nat.zero_le _⟩ [] rfl rfl (Nat.le_of_ble_eq_true rfl) (rep_nil _) ?_
      refine V_ifB_ne (tgt := 49) ok dX2_obey_44 (by decide) (fun h44 => ?_) (fun h44 => ?_)
      · refine V_aload_n ok dX2_obey_49 rfl 0 rfl ?_
        refine V_get (v := .ref (a 1)) ok 0 0 tw_X2 twf_X2_10 rfl rfl (by decide) dX2_obey_50 sg_at0 rfl ?_
        refine V_iload_n ok dX2_obey_53 rfl 2 rfl ?_
        refine V_iload_n ok dX2_obey_54 rfl 3 rfl ?_
        refine V_cV (v2 := none) (wn := surgeW g a (upd (upd now.1 6 f) 7 s, now.2) spare K nw sts rf pg) (rest := []) ok 1 0 (k_X0_govern g (fun i => a (1 + i)) now f s) 2 twm_X2_60 twi_yX0_govern twv_yX0_govern twin_X0 twc_yX0_govern yok_X0_govern (by decide) ⟨rfl, rfl⟩ dX2_obey_55 rfl sg_at1 rfl rfl (Nat.le_of_ble_eq_true rfl) ⟨Nat.zero_le _, Nat.zero_le _⟩ (slN 1) rfl sg_sub_1 (Nat.le_of_ble_eq_true rfl) sg_rep_1 ?_
        refine V_iconst (v := nI 1) ok dX2_obey_58 rfl ?_
        exact V_zret ok dX2_obey_59 (Nat.zero_le _) (Nat.zero_le _) rfl ⟨bI_t (by unfold obeyF; rw [if_neg h3, if_pos h36, if_pos h44]), by unfold obeyF; rw [if_neg h3, if_pos h36, if_pos h44]⟩
      · refine V_iconst (v := nI 0) ok dX2_obey_47 rfl ?_
        exact V_zret ok dX2_obey_48 (Nat.zero_le _) (Nat.zero_le _) rfl ⟨bI_f (by unfold obeyF; rw [if_neg h3, if_pos h36, if_neg h44]), by unfold obeyF; rw [if_neg h3, if_pos h36, if_neg h44]⟩
  · refine V_iload_n ok dX2_obey_6 rfl 2 rfl ?_
    refine V_cS (v2 := some (.int (bI (stepB f)))) (wn := surgeW g a now spare K nw sts rf pg) (rest := []) ok (c_X2_isStepCount g f) 1 twm_X2_67 tws_yX2_isStepCount twin_X2 twc_yX2_isStepCount yok_X2_isStepCount (by decide) ⟨rfl, rfl⟩ dX2_obey_7 rfl rfl (Nat.le_of_ble_eq_true rfl) ⟨Nat.zero_le _, Nat.zero_le _⟩ [] rfl rfl (Nat.le_of_ble_eq_true rfl) (rep_nil _) ?_
    refine V_ifB_eq (tgt := 21) ok dX2_obey_10 (by decide) (fun h10 => ?_) (fun h10 => ?_)
    · refine V_iconst (v := nI 0) ok dX2_obey_21 rfl ?_
      exact V_zret ok dX2_obey_22 (Nat.zero_le _) (Nat.zero_le _) rfl ⟨bI_f (by unfold obeyF; rw [if_pos h3, if_neg h10]), by unfold obeyF; rw [if_pos h3, if_neg h10]⟩
    · refine V_aload_n ok dX2_obey_13 rfl 0 rfl ?_
      refine V_iload_n ok dX2_obey_14 rfl 2 rfl ?_
      refine V_cW (v2 := some (.int (bI (timeB now.1 f)))) (w2 := surgeW g a now spare K nw sts rf pg) (rest := []) ok 0 2 (c_X2_hasTimeFor g a now spare K nw sts rf pg f) 1 twm_X2_71 twi_yX2_hasTimeFor twv_yX2_hasTimeFor twin_X2 twc_yX2_hasTimeFor yok_X2_hasTimeFor (by decide) ⟨rfl, rfl⟩ dX2_obey_15 rfl sg_at0 rfl rfl (Nat.le_of_ble_eq_true rfl) ⟨Nat.zero_le _, Nat.zero_le _⟩ ?_
      refine V_ifB_ne (tgt := 23) ok dX2_obey_18 (by decide) (fun h18 => ?_) (fun h18 => ?_)
      · obtain ⟨e, e1, e2⟩ := stepB_iff h10
        have hT : nv now.1 8 + f.toNatClampNeg ≤ 999 := (timeB_iff hx.1 e2).mp (by rw [← e]; exact h18)
        refine K23 e.symm hT (obeyF_s h3 h10 h18)
      · refine V_iconst (v := nI 0) ok dX2_obey_21 rfl ?_
        exact V_zret ok dX2_obey_22 (Nat.zero_le _) (Nat.zero_le _) rfl ⟨bI_f (by unfold obeyF; rw [if_pos h3, if_pos h10, if_neg h18]), by unfold obeyF; rw [if_pos h3, if_pos h10, if_neg h18]⟩
set_option maxHeartbeats 4000000 in
set_option maxRecDepth 100000 in
theorem c_X2_reads_fault (g : Glob) (a : Nat → Nat) (now spare : LineSt) (K : Nat → LineSt) (nw sts : Nat) (rf : Nat → Int32) (pg : PageSt) (hp : pg.2.1 ≤ 100) (hf : ¬ (findFaultF pg).1 = (-1)) : Con g yX2_reads cX2_reads 3 (some .int) ({ frames := 5, cells := 0, slots := 0, locals := 102 } : Room) [.ref (a 0)] (surgeW g a now spare K nw sts rf pg) (Is (some (.int ((-10) - (findFaultF pg).1))) (surgeW g a now spare K nw sts rf ((findFaultF pg).2))) := by
  refine con_of_V ypl_X2_reads (Nat.le_of_ble_eq_true rfl) [(0, .ref (a 0))] rfl (fun Γ ok => ?_)
  refine V_aload_n ok dX2_reads_0 rfl 0 rfl ?_
  refine V_get (v := .ref (a 39)) ok 0 6 tw_X2 twf_X2_37 rfl rfl (by decide) dX2_reads_1 sg_at0 rfl ?_
  refine V_cV (v2 := some (.int ((findFaultF pg).1))) (wn := surgeW g a now spare K nw sts rf ((findFaultF pg).2)) (rest := []) ok 39 1 (c_X1_findFault g (fun i => a (39 + i)) pg hp) 0 twm_X2_150 twi_yX1_findFault twv_yX1_findFault twin_X1 twc_yX1_findFault yok_X1_findFault (by decide) ⟨rfl, rfl⟩ dX2_reads_4 rfl sg_at39 rfl rfl (Nat.le_of_ble_eq_true rfl) ⟨Nat.zero_le _, Nat.zero_le _⟩ [39, 40] rfl sg_sub_39 (Nat.le_of_ble_eq_true rfl) sg_rep_39 ?_
  generalize hr4 : findFaultF pg = r4
  rw [hr4] at hf
  refine V_istore_n (lv2 := [(1, .int r4.1), (0, .ref (a 0))]) ok dX2_reads_7 rfl (by decide) rfl ?_
  refine V_iload_n ok dX2_reads_8 rfl 0 rfl ?_
  refine V_iconst (v := (-1)) ok dX2_reads_9 rfl ?_
  refine V_icmp_eq (tgt := 18) ok dX2_reads_10 (by decide) (fun h10 => absurd h10 hf) (fun h10 => ?_)
  refine V_bipush (v := (-10)) ok dX2_reads_13 rfl ?_
  refine V_iload_n ok dX2_reads_15 rfl 0 rfl ?_
  refine V_isub ok dX2_reads_16 ?_
  exact V_iret ok dX2_reads_17 (Nat.zero_le _) (Nat.zero_le _) ⟨by rw [hr4], by rw [hr4]⟩
set_option maxHeartbeats 4000000 in
set_option maxRecDepth 100000 in
theorem c_X2_reads_stop (g : Glob) (a : Nat → Nat) (now spare : LineSt) (K : Nat → LineSt) (nw sts : Nat) (rf : Nat → Int32) (pg : PageSt) (j : Nat) (hp : pg.2.1 ≤ 100) (hx : LG now) (hf : (findFaultF pg).1 = (-1)) (hRR : (readsN (findFaultF pg).2.2.2.1 0 now (setPl (findFaultF pg).2 0)).1 = some j) : Con g yX2_reads cX2_reads 3 (some .int) ({ frames := 5, cells := 0, slots := 0, locals := 102 } : Room) [.ref (a 0)] (surgeW g a now spare K nw sts rf pg) (Is (some (.int ((-1000) - nI j))) (surgeW g a now now K nw sts rf ((readsN (findFaultF pg).2.2.2.1 0 now (setPl (findFaultF pg).2 0)).2.2))) := by
  refine con_of_V ypl_X2_reads (Nat.le_of_ble_eq_true rfl) [(0, .ref (a 0))] rfl (fun Γ ok => ?_)
  refine V_aload_n ok dX2_reads_0 rfl 0 rfl ?_
  refine V_get (v := .ref (a 39)) ok 0 6 tw_X2 twf_X2_37 rfl rfl (by decide) dX2_reads_1 sg_at0 rfl ?_
  refine V_cV (v2 := some (.int ((findFaultF pg).1))) (wn := surgeW g a now spare K nw sts rf ((findFaultF pg).2)) (rest := []) ok 39 1 (c_X1_findFault g (fun i => a (39 + i)) pg hp) 0 twm_X2_150 twi_yX1_findFault twv_yX1_findFault twin_X1 twc_yX1_findFault yok_X1_findFault (by decide) ⟨rfl, rfl⟩ dX2_reads_4 rfl sg_at39 rfl rfl (Nat.le_of_ble_eq_true rfl) ⟨Nat.zero_le _, Nat.zero_le _⟩ [39, 40] rfl sg_sub_39 (Nat.le_of_ble_eq_true rfl) sg_rep_39 ?_
  generalize hr4 : findFaultF pg = r4
  have pf := PG.find hp
  rw [hr4] at pf hf hRR
  have pO : r4.2.2.2.1 ≤ 100 := pf.2.2.2
  have HL : ∀ (f i : Nat) (u : Int32) (x : LineSt) (P : PageSt), f + i = P.2.2.1 → LG x → PG P → P.2.2.1 ≤ 100 → readsN f i x P = readsN r4.2.2.2.1 0 now (setPl r4.2 0) → V g Γ 3 0 0 38 (surgeW g a x now K nw sts rf P) [(2, .int (nI i)), (1, .int u), (0, .ref (a 0))] [] := by
    generalize hR : readsN r4.2.2.2.1 0 now (setPl r4.2 0) = RR at hRR ok
    intro f
    induction f using Nat.strongRecOn with
    | ind f ih =>
    cases f with
    | zero =>
      intro i u x P hf hxx hP hO hzz
      refine V_iload_n ok dX2_reads_38 rfl 0 rfl ?_
      refine V_aload_n ok dX2_reads_39 rfl 2 rfl ?_
      refine V_get (v := .ref (a 39)) ok 0 6 tw_X2 twf_X2_37 rfl rfl (by decide) dX2_reads_40 sg_at0 rfl ?_
      refine V_get (v := .int (nI P.2.2.1)) ok 39 2 tw_X1 twf_X2_160 rfl rfl (by decide) dX2_reads_43 sg_at39 rfl ?_
      refine V_icmpN_ge (tgt := 110) ok dX2_reads_46 (by decide) (by omega) (by omega) (fun h46 => ?_) (fun h46 => absurd (by omega) h46)
      have e110 : (none, x, P) = RR := hzz
      rw [← e110] at hRR
      cases hRR
    | succ f =>
      intro i u x P hf hxx hP hO hzz
      refine V_iload_n ok dX2_reads_38 rfl 0 rfl ?_
      refine V_aload_n ok dX2_reads_39 rfl 2 rfl ?_
      refine V_get (v := .ref (a 39)) ok 0 6 tw_X2 twf_X2_37 rfl rfl (by decide) dX2_reads_40 sg_at0 rfl ?_
      refine V_get (v := .int (nI P.2.2.1)) ok 39 2 tw_X1 twf_X2_160 rfl rfl (by decide) dX2_reads_43 sg_at39 rfl ?_
      refine V_icmpN_ge (tgt := 110) ok dX2_reads_46 (by decide) (by omega) (by omega) (fun h46 => absurd h46 (by omega)) (fun h46 => ?_)
      refine V_aload_n ok dX2_reads_49 rfl 2 rfl ?_
      refine V_get (v := .ref (a 39)) ok 0 6 tw_X2 twf_X2_37 rfl rfl (by decide) dX2_reads_50 sg_at0 rfl ?_
      refine V_cV (v2 := some (.int (bI ((nextOrderF P).1)))) (wn := surgeW g a x now K nw sts rf ((nextOrderF P).2)) (rest := []) ok 39 1 (c_X1_nextOrder g (fun i => a (39 + i)) P hP) 0 twm_X2_163 twi_yX1_nextOrder twv_yX1_nextOrder twin_X1 twc_yX1_nextOrder yok_X1_nextOrder (by decide) ⟨rfl, rfl⟩ dX2_reads_53 rfl sg_at39 rfl rfl (Nat.le_of_ble_eq_true rfl) ⟨Nat.zero_le _, Nat.zero_le _⟩ [39, 40] rfl sg_sub_39 (Nat.le_of_ble_eq_true rfl) sg_rep_39 ?_
      generalize hr53 : nextOrderF P = r53
      have nx := PG.next hP
      rw [hr53] at nx
      have n1 : PG r53.2 := nx.1
      have eO : r53.2.2.2.1 = P.2.2.1 := nx.2.1.2.2
      refine V_ifB_eq (tgt := 87) ok dX2_reads_56 (by decide) (fun h56 => ?_) (fun h56 => ?_)
      · have e103 : (some i, x, r53.2) = RR := by rw [← hzz]; simp only [readsN]; rw [hr53, if_neg h56]
        rw [← e103] at hRR
        obtain rfl : i = j := Option.some.inj hRR
        refine V_aload_n ok dX2_reads_87 rfl 2 rfl ?_
        refine V_get (v := .ref (a 1)) ok 0 0 tw_X2 twf_X2_10 rfl rfl (by decide) dX2_reads_88 sg_at0 rfl ?_
        refine V_aload_n ok dX2_reads_91 rfl 2 rfl ?_
        refine V_get (v := .ref (a 7)) ok 0 1 tw_X2 twf_X2_16 rfl rfl (by decide) dX2_reads_92 sg_at0 rfl ?_
        refine V_cV (v2 := none) (wn := surgeW g a now now K nw sts rf r53.2) (rest := []) ok 1 0 (c_X0_copyFrom g (fun i => a (1 + i)) (fun i => a (7 + i)) x now) 1 twm_X2_154 twi_yX0_copyFrom twv_yX0_copyFrom twin_X0 twc_yX0_copyFrom yok_X0_copyFrom (by decide) ⟨rfl, rfl⟩ dX2_reads_95 rfl sg_at1 rfl rfl (Nat.le_of_ble_eq_true rfl) ⟨Nat.zero_le _, Nat.zero_le _⟩ (slN 1 ++ slN 7) rfl (sub_app sg_sub_1 sg_sub_7) (Nat.le_of_ble_eq_true rfl) (rep_app rfl rfl sg_rep_1 sg_rep_7) ?_
        refine V_sipush (v := (-1000)) ok dX2_reads_98 rfl ?_
        refine V_iload_n ok dX2_reads_101 rfl 0 rfl ?_
        refine V_isub ok dX2_reads_102 ?_
        exact V_iret ok dX2_reads_103 (Nat.zero_le _) (Nat.zero_le _) ⟨rfl, by rw [hr4, hR, ← e103]⟩
      · refine V_aload_n ok dX2_reads_59 rfl 2 rfl ?_
        refine V_aload_n ok dX2_reads_60 rfl 2 rfl ?_
        refine V_get (v := .ref (a 39)) ok 0 6 tw_X2 twf_X2_37 rfl rfl (by decide) dX2_reads_61 sg_at0 rfl ?_
        refine V_get (v := .int r53.2.2.2.2.1) ok 39 3 tw_X1 twf_X2_167 rfl rfl (by decide) dX2_reads_64 sg_at39 rfl ?_
        refine V_aload_n ok dX2_reads_67 rfl 2 rfl ?_
        refine V_get (v := .ref (a 39)) ok 0 6 tw_X2 twf_X2_37 rfl rfl (by decide) dX2_reads_68 sg_at0 rfl ?_
        refine V_get (v := .int r53.2.2.2.2.2.1) ok 39 4 tw_X1 twf_X2_170 rfl rfl (by decide) dX2_reads_71 sg_at39 rfl ?_
        refine V_aload_n ok dX2_reads_74 rfl 2 rfl ?_
        refine V_get (v := .ref (a 39)) ok 0 6 tw_X2 twf_X2_37 rfl rfl (by decide) dX2_reads_75 sg_at0 rfl ?_
        refine V_get (v := .int r53.2.2.2.2.2.2.1) ok 39 5 tw_X1 twf_X2_173 rfl rfl (by decide) dX2_reads_78 sg_at39 rfl ?_
        refine V_cW (v2 := some (.int (bI ((obeyF x r53.2.2.2.2.1 r53.2.2.2.2.2.1 r53.2.2.2.2.2.2.1).1)))) (w2 := surgeW g a ((obeyF x r53.2.2.2.2.1 r53.2.2.2.2.2.1 r53.2.2.2.2.2.2.1).2) now K nw sts rf r53.2) (rest := []) ok 0 2 (c_X2_obey g a x now K nw sts rf r53.2 r53.2.2.2.2.1 r53.2.2.2.2.2.1 r53.2.2.2.2.2.2.1 hxx) 3 twm_X2_176 twi_yX2_obey twv_yX2_obey twin_X2 twc_yX2_obey yok_X2_obey (by decide) ⟨rfl, rfl⟩ dX2_reads_81 rfl sg_at0 rfl rfl (Nat.le_of_ble_eq_true rfl) ⟨Nat.zero_le _, Nat.zero_le _⟩ ?_
        generalize hr81 : obeyF x r53.2.2.2.2.1 r53.2.2.2.2.2.1 r53.2.2.2.2.2.2.1 = r81
        refine V_ifB_ne (tgt := 104) ok dX2_reads_84 (by decide) (fun h84 => ?_) (fun h84 => ?_)
        · refine V_iinc (q := 0) (v := nI (i + 1)) (lv2 := [(2, .int (nI (i + 1))), (1, .int u), (0, .ref (a 0))]) ok dX2_reads_104 rfl (nI_inc i 1) (by decide) rfl ?_
          refine V_goto (tgt := 38) ok dX2_reads_107 (by decide) ?_
          refine V_lv [0, 1, 2] rfl ?_
          exact ih f (Nat.lt_succ_self f) (i + 1) u r81.2 r53.2 (by rw [eO]; omega) (by rw [← hr81]; exact obey_LG hxx _ _ _) n1 (by rw [eO]; exact hO) (by rw [← hzz]; simp only [readsN]; rw [hr53, if_pos h56, show obeyF x (pLet r53.2) (pFst r53.2) (pSnd r53.2) = r81 from hr81, if_pos h84])
        · have e103 : (some i, x, r53.2) = RR := by rw [← hzz]; simp only [readsN]; rw [hr53, if_pos h56, show obeyF x (pLet r53.2) (pFst r53.2) (pSnd r53.2) = r81 from hr81, if_neg h84]
          rw [← e103] at hRR
          obtain rfl : i = j := Option.some.inj hRR
          refine V_aload_n ok dX2_reads_87 rfl 2 rfl ?_
          refine V_get (v := .ref (a 1)) ok 0 0 tw_X2 twf_X2_10 rfl rfl (by decide) dX2_reads_88 sg_at0 rfl ?_
          refine V_aload_n ok dX2_reads_91 rfl 2 rfl ?_
          refine V_get (v := .ref (a 7)) ok 0 1 tw_X2 twf_X2_16 rfl rfl (by decide) dX2_reads_92 sg_at0 rfl ?_
          refine V_cV (v2 := none) (wn := surgeW g a now now K nw sts rf r53.2) (rest := []) ok 1 0 (c_X0_copyFrom g (fun i => a (1 + i)) (fun i => a (7 + i)) r81.2 now) 1 twm_X2_154 twi_yX0_copyFrom twv_yX0_copyFrom twin_X0 twc_yX0_copyFrom yok_X0_copyFrom (by decide) ⟨rfl, rfl⟩ dX2_reads_95 rfl sg_at1 rfl rfl (Nat.le_of_ble_eq_true rfl) ⟨Nat.zero_le _, Nat.zero_le _⟩ (slN 1 ++ slN 7) rfl (sub_app sg_sub_1 sg_sub_7) (Nat.le_of_ble_eq_true rfl) (rep_app rfl rfl sg_rep_1 sg_rep_7) ?_
          refine V_sipush (v := (-1000)) ok dX2_reads_98 rfl ?_
          refine V_iload_n ok dX2_reads_101 rfl 0 rfl ?_
          refine V_isub ok dX2_reads_102 ?_
          exact V_iret ok dX2_reads_103 (Nat.zero_le _) (Nat.zero_le _) ⟨rfl, by rw [hr4, hR, ← e103]⟩
  refine V_istore_n (lv2 := [(1, .int r4.1), (0, .ref (a 0))]) ok dX2_reads_7 rfl (by decide) rfl ?_
  refine V_iload_n ok dX2_reads_8 rfl 0 rfl ?_
  refine V_iconst (v := (-1)) ok dX2_reads_9 rfl ?_
  refine V_icmp_eq (tgt := 18) ok dX2_reads_10 (by decide) (fun h10 => ?_) (fun h10 => absurd hf h10)
  refine V_aload_n ok dX2_reads_18 rfl 1 rfl ?_
  refine V_get (v := .ref (a 7)) ok 0 1 tw_X2 twf_X2_16 rfl rfl (by decide) dX2_reads_19 sg_at0 rfl ?_
  refine V_aload_n ok dX2_reads_22 rfl 1 rfl ?_
  refine V_get (v := .ref (a 1)) ok 0 0 tw_X2 twf_X2_10 rfl rfl (by decide) dX2_reads_23 sg_at0 rfl ?_
  refine V_cV (v2 := none) (wn := surgeW g a now now K nw sts rf r4.2) (rest := []) ok 7 0 (c_X0_copyFrom g (fun i => a (7 + i)) (fun i => a (1 + i)) spare now) 1 twm_X2_154 twi_yX0_copyFrom twv_yX0_copyFrom twin_X0 twc_yX0_copyFrom yok_X0_copyFrom (by decide) ⟨rfl, rfl⟩ dX2_reads_26 rfl sg_at7 rfl rfl (Nat.le_of_ble_eq_true rfl) ⟨Nat.zero_le _, Nat.zero_le _⟩ (slN 7 ++ slN 1) rfl (sub_app sg_sub_7 sg_sub_1) (Nat.le_of_ble_eq_true rfl) (rep_app rfl rfl sg_rep_7 sg_rep_1) ?_
  refine V_aload_n ok dX2_reads_29 rfl 1 rfl ?_
  refine V_get (v := .ref (a 39)) ok 0 6 tw_X2 twf_X2_37 rfl rfl (by decide) dX2_reads_30 sg_at0 rfl ?_
  refine V_cV (v2 := none) (wn := surgeW g a now now K nw sts rf (setPl r4.2 0)) (rest := []) ok 39 1 (c_X1_rewind g (fun i => a (39 + i)) r4.2) 0 twm_X2_157 twi_yX1_rewind twv_yX1_rewind twin_X1 twc_yX1_rewind yok_X1_rewind (by decide) ⟨rfl, rfl⟩ dX2_reads_33 rfl sg_at39 rfl rfl (Nat.le_of_ble_eq_true rfl) ⟨Nat.zero_le _, Nat.zero_le _⟩ [39, 40] rfl sg_sub_39 (Nat.le_of_ble_eq_true rfl) sg_rep_39 ?_
  refine V_iconst (v := nI 0) ok dX2_reads_36 rfl ?_
  refine V_istore_n (lv2 := [(2, .int (nI 0)), (1, .int r4.1), (0, .ref (a 0))]) ok dX2_reads_37 rfl (by decide) rfl ?_
  refine V_lv [0, 1, 2] rfl ?_
  exact HL r4.2.2.2.1 0 r4.1 now (setPl r4.2 0) (Nat.add_zero _) hx ⟨pf.1.1, Nat.zero_le _⟩ pO rfl
set_option maxHeartbeats 4000000 in
set_option maxRecDepth 100000 in
theorem c_X2_reads_ok (g : Glob) (a : Nat → Nat) (now spare : LineSt) (K : Nat → LineSt) (nw sts : Nat) (rf : Nat → Int32) (pg : PageSt) (hp : pg.2.1 ≤ 100) (hx : LG now) (hf : (findFaultF pg).1 = (-1)) (hRR : (readsN (findFaultF pg).2.2.2.1 0 now (setPl (findFaultF pg).2 0)).1 = none) (hnw : nw < 4) (hst : sts ≤ 4) : Con g yX2_reads cX2_reads 3 (some .int) ({ frames := 5, cells := 0, slots := 0, locals := 102 } : Room) [.ref (a 0)] (surgeW g a now spare K nw sts rf pg) (Is (some (.int (nI (readsN (findFaultF pg).2.2.2.1 0 now (setPl (findFaultF pg).2 0)).2.2.2.2.1))) (surgeW g a ((readsN (findFaultF pg).2.2.2.1 0 now (setPl (findFaultF pg).2 0)).2.1) now (ringU K nw now) ((nw + 1) % 4) (stsU sts) rf ((readsN (findFaultF pg).2.2.2.1 0 now (setPl (findFaultF pg).2 0)).2.2))) := by
  refine con_of_V ypl_X2_reads (Nat.le_of_ble_eq_true rfl) [(0, .ref (a 0))] rfl (fun Γ ok => ?_)
  refine V_aload_n ok dX2_reads_0 rfl 0 rfl ?_
  refine V_get (v := .ref (a 39)) ok 0 6 tw_X2 twf_X2_37 rfl rfl (by decide) dX2_reads_1 sg_at0 rfl ?_
  refine V_cV (v2 := some (.int ((findFaultF pg).1))) (wn := surgeW g a now spare K nw sts rf ((findFaultF pg).2)) (rest := []) ok 39 1 (c_X1_findFault g (fun i => a (39 + i)) pg hp) 0 twm_X2_150 twi_yX1_findFault twv_yX1_findFault twin_X1 twc_yX1_findFault yok_X1_findFault (by decide) ⟨rfl, rfl⟩ dX2_reads_4 rfl sg_at39 rfl rfl (Nat.le_of_ble_eq_true rfl) ⟨Nat.zero_le _, Nat.zero_le _⟩ [39, 40] rfl sg_sub_39 (Nat.le_of_ble_eq_true rfl) sg_rep_39 ?_
  generalize hr4 : findFaultF pg = r4
  have pf := PG.find hp
  rw [hr4] at pf hf hRR
  have pO : r4.2.2.2.1 ≤ 100 := pf.2.2.2
  have HL : ∀ (f i : Nat) (u : Int32) (x : LineSt) (P : PageSt), f + i = P.2.2.1 → LG x → PG P → P.2.2.1 ≤ 100 → readsN f i x P = readsN r4.2.2.2.1 0 now (setPl r4.2 0) → V g Γ 3 0 0 38 (surgeW g a x now K nw sts rf P) [(2, .int (nI i)), (1, .int u), (0, .ref (a 0))] [] := by
    generalize hR : readsN r4.2.2.2.1 0 now (setPl r4.2 0) = RR at hRR ok
    intro f
    induction f using Nat.strongRecOn with
    | ind f ih =>
    cases f with
    | zero =>
      intro i u x P hf hxx hP hO hzz
      refine V_iload_n ok dX2_reads_38 rfl 0 rfl ?_
      refine V_aload_n ok dX2_reads_39 rfl 2 rfl ?_
      refine V_get (v := .ref (a 39)) ok 0 6 tw_X2 twf_X2_37 rfl rfl (by decide) dX2_reads_40 sg_at0 rfl ?_
      refine V_get (v := .int (nI P.2.2.1)) ok 39 2 tw_X1 twf_X2_160 rfl rfl (by decide) dX2_reads_43 sg_at39 rfl ?_
      refine V_icmpN_ge (tgt := 110) ok dX2_reads_46 (by decide) (by omega) (by omega) (fun h46 => ?_) (fun h46 => absurd (by omega) h46)
      have e110 : (none, x, P) = RR := hzz
      refine V_aload_n ok dX2_reads_110 rfl 2 rfl ?_
      refine V_aload_n ok dX2_reads_111 rfl 2 rfl ?_
      refine V_get (v := .ref (a 7)) ok 0 1 tw_X2 twf_X2_16 rfl rfl (by decide) dX2_reads_112 sg_at0 rfl ?_
      refine V_cW (v2 := none) (w2 := surgeW g a x now (ringU K nw now) ((nw + 1) % 4) (stsU sts) rf P) (rest := []) ok 0 2 (c_X2_keep_spare g a x now K nw sts rf P hnw hst) 1 twm_X2_53 twi_yX2_keep twv_yX2_keep twin_X2 twc_yX2_keep yok_X2_keep (by decide) ⟨rfl, rfl⟩ dX2_reads_115 rfl sg_at0 rfl rfl (Nat.le_of_ble_eq_true rfl) ⟨Nat.zero_le _, Nat.zero_le _⟩ ?_
      refine V_aload_n ok dX2_reads_118 rfl 2 rfl ?_
      refine V_get (v := .ref (a 39)) ok 0 6 tw_X2 twf_X2_37 rfl rfl (by decide) dX2_reads_119 sg_at0 rfl ?_
      refine V_get (v := .int (nI P.2.2.1)) ok 39 2 tw_X1 twf_X2_160 rfl rfl (by decide) dX2_reads_122 sg_at39 rfl ?_
      exact V_iret ok dX2_reads_125 (Nat.zero_le _) (Nat.zero_le _) ⟨by rw [hr4, hR, ← e110], by rw [hr4, hR, ← e110]⟩
    | succ f =>
      intro i u x P hf hxx hP hO hzz
      refine V_iload_n ok dX2_reads_38 rfl 0 rfl ?_
      refine V_aload_n ok dX2_reads_39 rfl 2 rfl ?_
      refine V_get (v := .ref (a 39)) ok 0 6 tw_X2 twf_X2_37 rfl rfl (by decide) dX2_reads_40 sg_at0 rfl ?_
      refine V_get (v := .int (nI P.2.2.1)) ok 39 2 tw_X1 twf_X2_160 rfl rfl (by decide) dX2_reads_43 sg_at39 rfl ?_
      refine V_icmpN_ge (tgt := 110) ok dX2_reads_46 (by decide) (by omega) (by omega) (fun h46 => absurd h46 (by omega)) (fun h46 => ?_)
      refine V_aload_n ok dX2_reads_49 rfl 2 rfl ?_
      refine V_get (v := .ref (a 39)) ok 0 6 tw_X2 twf_X2_37 rfl rfl (by decide) dX2_reads_50 sg_at0 rfl ?_
      refine V_cV (v2 := some (.int (bI ((nextOrderF P).1)))) (wn := surgeW g a x now K nw sts rf ((nextOrderF P).2)) (rest := []) ok 39 1 (c_X1_nextOrder g (fun i => a (39 + i)) P hP) 0 twm_X2_163 twi_yX1_nextOrder twv_yX1_nextOrder twin_X1 twc_yX1_nextOrder yok_X1_nextOrder (by decide) ⟨rfl, rfl⟩ dX2_reads_53 rfl sg_at39 rfl rfl (Nat.le_of_ble_eq_true rfl) ⟨Nat.zero_le _, Nat.zero_le _⟩ [39, 40] rfl sg_sub_39 (Nat.le_of_ble_eq_true rfl) sg_rep_39 ?_
      generalize hr53 : nextOrderF P = r53
      have nx := PG.next hP
      rw [hr53] at nx
      have n1 : PG r53.2 := nx.1
      have eO : r53.2.2.2.1 = P.2.2.1 := nx.2.1.2.2
      refine V_ifB_eq (tgt := 87) ok dX2_reads_56 (by decide) (fun h56 => ?_) (fun h56 => ?_)
      · have e103 : (some i, x, r53.2) = RR := by rw [← hzz]; simp only [readsN]; rw [hr53, if_neg h56]
        rw [← e103] at hRR
        cases hRR
      · refine V_aload_n ok dX2_reads_59 rfl 2 rfl ?_
        refine V_aload_n ok dX2_reads_60 rfl 2 rfl ?_
        refine V_get (v := .ref (a 39)) ok 0 6 tw_X2 twf_X2_37 rfl rfl (by decide) dX2_reads_61 sg_at0 rfl ?_
        refine V_get (v := .int r53.2.2.2.2.1) ok 39 3 tw_X1 twf_X2_167 rfl rfl (by decide) dX2_reads_64 sg_at39 rfl ?_
        refine V_aload_n ok dX2_reads_67 rfl 2 rfl ?_
        refine V_get (v := .ref (a 39)) ok 0 6 tw_X2 twf_X2_37 rfl rfl (by decide) dX2_reads_68 sg_at0 rfl ?_
        refine V_get (v := .int r53.2.2.2.2.2.1) ok 39 4 tw_X1 twf_X2_170 rfl rfl (by decide) dX2_reads_71 sg_at39 rfl ?_
        refine V_aload_n ok dX2_reads_74 rfl 2 rfl ?_
        refine V_get (v := .ref (a 39)) ok 0 6 tw_X2 twf_X2_37 rfl rfl (by decide) dX2_reads_75 sg_at0 rfl ?_
        refine V_get (v := .int r53.2.2.2.2.2.2.1) ok 39 5 tw_X1 twf_X2_173 rfl rfl (by decide) dX2_reads_78 sg_at39 rfl ?_
        refine V_cW (v2 := some (.int (bI ((obeyF x r53.2.2.2.2.1 r53.2.2.2.2.2.1 r53.2.2.2.2.2.2.1).1)))) (w2 := surgeW g a ((obeyF x r53.2.2.2.2.1 r53.2.2.2.2.2.1 r53.2.2.2.2.2.2.1).2) now K nw sts rf r53.2) (rest := []) ok 0 2 (c_X2_obey g a x now K nw sts rf r53.2 r53.2.2.2.2.1 r53.2.2.2.2.2.1 r53.2.2.2.2.2.2.1 hxx) 3 twm_X2_176 twi_yX2_obey twv_yX2_obey twin_X2 twc_yX2_obey yok_X2_obey (by decide) ⟨rfl, rfl⟩ dX2_reads_81 rfl sg_at0 rfl rfl (Nat.le_of_ble_eq_true rfl) ⟨Nat.zero_le _, Nat.zero_le _⟩ ?_
        generalize hr81 : obeyF x r53.2.2.2.2.1 r53.2.2.2.2.2.1 r53.2.2.2.2.2.2.1 = r81
        refine V_ifB_ne (tgt := 104) ok dX2_reads_84 (by decide) (fun h84 => ?_) (fun h84 => ?_)
        · refine V_iinc (q := 0) (v := nI (i + 1)) (lv2 := [(2, .int (nI (i + 1))), (1, .int u), (0, .ref (a 0))]) ok dX2_reads_104 rfl (nI_inc i 1) (by decide) rfl ?_
          refine V_goto (tgt := 38) ok dX2_reads_107 (by decide) ?_
          refine V_lv [0, 1, 2] rfl ?_
          exact ih f (Nat.lt_succ_self f) (i + 1) u r81.2 r53.2 (by rw [eO]; omega) (by rw [← hr81]; exact obey_LG hxx _ _ _) n1 (by rw [eO]; exact hO) (by rw [← hzz]; simp only [readsN]; rw [hr53, if_pos h56, show obeyF x (pLet r53.2) (pFst r53.2) (pSnd r53.2) = r81 from hr81, if_pos h84])
        · have e103 : (some i, x, r53.2) = RR := by rw [← hzz]; simp only [readsN]; rw [hr53, if_pos h56, show obeyF x (pLet r53.2) (pFst r53.2) (pSnd r53.2) = r81 from hr81, if_neg h84]
          rw [← e103] at hRR
          cases hRR
  refine V_istore_n (lv2 := [(1, .int r4.1), (0, .ref (a 0))]) ok dX2_reads_7 rfl (by decide) rfl ?_
  refine V_iload_n ok dX2_reads_8 rfl 0 rfl ?_
  refine V_iconst (v := (-1)) ok dX2_reads_9 rfl ?_
  refine V_icmp_eq (tgt := 18) ok dX2_reads_10 (by decide) (fun h10 => ?_) (fun h10 => absurd hf h10)
  refine V_aload_n ok dX2_reads_18 rfl 1 rfl ?_
  refine V_get (v := .ref (a 7)) ok 0 1 tw_X2 twf_X2_16 rfl rfl (by decide) dX2_reads_19 sg_at0 rfl ?_
  refine V_aload_n ok dX2_reads_22 rfl 1 rfl ?_
  refine V_get (v := .ref (a 1)) ok 0 0 tw_X2 twf_X2_10 rfl rfl (by decide) dX2_reads_23 sg_at0 rfl ?_
  refine V_cV (v2 := none) (wn := surgeW g a now now K nw sts rf r4.2) (rest := []) ok 7 0 (c_X0_copyFrom g (fun i => a (7 + i)) (fun i => a (1 + i)) spare now) 1 twm_X2_154 twi_yX0_copyFrom twv_yX0_copyFrom twin_X0 twc_yX0_copyFrom yok_X0_copyFrom (by decide) ⟨rfl, rfl⟩ dX2_reads_26 rfl sg_at7 rfl rfl (Nat.le_of_ble_eq_true rfl) ⟨Nat.zero_le _, Nat.zero_le _⟩ (slN 7 ++ slN 1) rfl (sub_app sg_sub_7 sg_sub_1) (Nat.le_of_ble_eq_true rfl) (rep_app rfl rfl sg_rep_7 sg_rep_1) ?_
  refine V_aload_n ok dX2_reads_29 rfl 1 rfl ?_
  refine V_get (v := .ref (a 39)) ok 0 6 tw_X2 twf_X2_37 rfl rfl (by decide) dX2_reads_30 sg_at0 rfl ?_
  refine V_cV (v2 := none) (wn := surgeW g a now now K nw sts rf (setPl r4.2 0)) (rest := []) ok 39 1 (c_X1_rewind g (fun i => a (39 + i)) r4.2) 0 twm_X2_157 twi_yX1_rewind twv_yX1_rewind twin_X1 twc_yX1_rewind yok_X1_rewind (by decide) ⟨rfl, rfl⟩ dX2_reads_33 rfl sg_at39 rfl rfl (Nat.le_of_ble_eq_true rfl) ⟨Nat.zero_le _, Nat.zero_le _⟩ [39, 40] rfl sg_sub_39 (Nat.le_of_ble_eq_true rfl) sg_rep_39 ?_
  refine V_iconst (v := nI 0) ok dX2_reads_36 rfl ?_
  refine V_istore_n (lv2 := [(2, .int (nI 0)), (1, .int r4.1), (0, .ref (a 0))]) ok dX2_reads_37 rfl (by decide) rfl ?_
  refine V_lv [0, 1, 2] rfl ?_
  exact HL r4.2.2.2.1 0 r4.1 now (setPl r4.2 0) (Nat.add_zero _) hx ⟨pf.1.1, Nat.zero_le _⟩ pO rfl
