set_option maxHeartbeats 4000000 in
set_option maxRecDepth 100000 in
theorem c_X1_takeNumbers (g : Glob) (a : Nat → Nat) (P : PageSt) (hP : PG P) : Con g yX1_takeNumbers cX1_takeNumbers 2 (some .boolean) ({ frames := 2, cells := 0, slots := 0, locals := 41 } : Room) [.ref (a 0)] (pageW g a P) (Is (some (.int (bI (takeNumbersF P).1))) (pageW g a (takeNumbersF P).2)) := by
  refine con_of_V ypl_X1_takeNumbers (Nat.le_of_ble_eq_true rfl) [(0, .ref (a 0))] rfl (fun Γ ok => ?_)
  have K : ∀ mb : Bool, mb = minusB P → V g Γ 2 0 0 33 (pageW g a (P.1, P.2.1, P.2.2.1, P.2.2.2.1, P.2.2.2.2.1, P.2.2.2.2.2.1, P.2.2.2.2.2.2.1, P.2.2.2.2.2.2.2)) [(1, .int (bI mb)), (0, .ref (a 0))] [] := by
    intro mb hmb
    have hm1 : PG (setPl P (if mb = true then pPl P + 1 else pPl P)) := by rw [hmb]; exact (PG.minus hP).1
    refine V_iload_n ok dX1_takeNumbers_33 rfl 0 rfl ?_
    have J34 : V g Γ 2 0 0 47 (pageW g a (P.1, P.2.1, P.2.2.1, P.2.2.2.1, P.2.2.2.2.1, P.2.2.2.2.2.1, (if mb = true then P.2.2.2.2.2.2.1 + 1 else P.2.2.2.2.2.2.1), P.2.2.2.2.2.2.2)) [(1, .int (bI mb)), (0, .ref (a 0))] [] := by
      refine V_aload_n ok dX1_takeNumbers_47 rfl 1 rfl ?_
      refine V_cV (v2 := some (.int (bI ((takeNumberF (P.1, P.2.1, P.2.2.1, P.2.2.2.1, P.2.2.2.2.1, P.2.2.2.2.2.1, (if mb = true then P.2.2.2.2.2.2.1 + 1 else P.2.2.2.2.2.2.1), P.2.2.2.2.2.2.2)).1)))) (wn := pageW g a ((takeNumberF (P.1, P.2.1, P.2.2.1, P.2.2.2.1, P.2.2.2.2.1, P.2.2.2.2.2.1, (if mb = true then P.2.2.2.2.2.2.1 + 1 else P.2.2.2.2.2.2.1), P.2.2.2.2.2.2.2)).2.1, (takeNumberF (P.1, P.2.1, P.2.2.1, P.2.2.2.1, P.2.2.2.2.1, P.2.2.2.2.2.1, (if mb = true then P.2.2.2.2.2.2.1 + 1 else P.2.2.2.2.2.2.1), P.2.2.2.2.2.2.2)).2.2.1, (takeNumberF (P.1, P.2.1, P.2.2.1, P.2.2.2.1, P.2.2.2.2.1, P.2.2.2.2.2.1, (if mb = true then P.2.2.2.2.2.2.1 + 1 else P.2.2.2.2.2.2.1), P.2.2.2.2.2.2.2)).2.2.2.1, (takeNumberF (P.1, P.2.1, P.2.2.1, P.2.2.2.1, P.2.2.2.2.1, P.2.2.2.2.2.1, (if mb = true then P.2.2.2.2.2.2.1 + 1 else P.2.2.2.2.2.2.1), P.2.2.2.2.2.2.2)).2.2.2.2.1, (takeNumberF (P.1, P.2.1, P.2.2.1, P.2.2.2.1, P.2.2.2.2.1, P.2.2.2.2.2.1, (if mb = true then P.2.2.2.2.2.2.1 + 1 else P.2.2.2.2.2.2.1), P.2.2.2.2.2.2.2)).2.2.2.2.2.1, (takeNumberF (P.1, P.2.1, P.2.2.1, P.2.2.2.1, P.2.2.2.2.1, P.2.2.2.2.2.1, (if mb = true then P.2.2.2.2.2.2.1 + 1 else P.2.2.2.2.2.2.1), P.2.2.2.2.2.2.2)).2.2.2.2.2.2.1, (takeNumberF (P.1, P.2.1, P.2.2.1, P.2.2.2.1, P.2.2.2.2.1, P.2.2.2.2.2.1, (if mb = true then P.2.2.2.2.2.2.1 + 1 else P.2.2.2.2.2.2.1), P.2.2.2.2.2.2.2)).2.2.2.2.2.2.2.1, (takeNumberF (P.1, P.2.1, P.2.2.1, P.2.2.2.1, P.2.2.2.2.1, P.2.2.2.2.2.1, (if mb = true then P.2.2.2.2.2.2.1 + 1 else P.2.2.2.2.2.2.1), P.2.2.2.2.2.2.2)).2.2.2.2.2.2.2.2)) (rest := []) ok 0 1 (c_X1_takeNumber g a (P.1, P.2.1, P.2.2.1, P.2.2.2.1, P.2.2.2.2.1, P.2.2.2.2.2.1, (if mb = true then P.2.2.2.2.2.2.1 + 1 else P.2.2.2.2.2.2.1), P.2.2.2.2.2.2.2) hm1) 0 twm_X1_60 twi_yX1_takeNumber twv_yX1_takeNumber twin_X1 twc_yX1_takeNumber yok_X1_takeNumber (by decide) ⟨rfl, rfl⟩ dX1_takeNumbers_48 rfl rfl rfl rfl (Nat.le_of_ble_eq_true rfl) ⟨Nat.zero_le _, Nat.zero_le _⟩ [0, 1] rfl rfl (Nat.le_of_ble_eq_true rfl) rfl ?_
      generalize hr48 : takeNumberF (P.1, P.2.1, P.2.2.1, P.2.2.2.1, P.2.2.2.2.1, P.2.2.2.2.2.1, (if mb = true then P.2.2.2.2.2.2.1 + 1 else P.2.2.2.2.2.2.1), P.2.2.2.2.2.2.2) = r48
      have b1 : PG r48.2 := by rw [← hr48]; exact (PG.take hm1).1
      have hF : takeNumbersF P = firF mb r48 := by unfold takeNumbersF; rw [← hmb]; exact congrArg (firF mb) hr48
      refine V_ifB_ne (tgt := 56) ok dX1_takeNumbers_51 (by decide) (fun h51 => ?_) (fun h51 => ?_)
      · have hF2 : takeNumbersF P = restF (setFst r48.2 (if mb = true then -r48.2.2.2.2.2.2.2.2 else r48.2.2.2.2.2.2.2.2)) := by rw [hF]; exact if_pos h51
        refine V_aload_n ok dX1_takeNumbers_56 rfl 1 rfl ?_
        refine V_iload_n ok dX1_takeNumbers_57 rfl 0 rfl ?_
        have J58 : V g Γ 2 0 0 73 (pageW g a (r48.2.1, r48.2.2.1, r48.2.2.2.1, r48.2.2.2.2.1, r48.2.2.2.2.2.1, r48.2.2.2.2.2.2.1, r48.2.2.2.2.2.2.2.1, r48.2.2.2.2.2.2.2.2)) [(1, .int (bI mb)), (0, .ref (a 0))] [.int (if mb = true then -r48.2.2.2.2.2.2.2.2 else r48.2.2.2.2.2.2.2.2), .ref (a 0)] := by
          refine V_put (w2 := pageW g a (r48.2.1, r48.2.2.1, r48.2.2.2.1, r48.2.2.2.2.1, (if mb = true then -r48.2.2.2.2.2.2.2.2 else r48.2.2.2.2.2.2.2.2), r48.2.2.2.2.2.2.1, r48.2.2.2.2.2.2.2.1, r48.2.2.2.2.2.2.2.2)) ok 0 4 tw_X1 tyX1 tyX1_ok nmX1 twf_X1_25 rfl rfl (by decide) rfl rfl dX1_takeNumbers_73 rfl rfl rfl (Nat.lt_of_lt_of_eq (m := 8) (by decide) rfl) rfl ?_
          refine V_aload_n ok dX1_takeNumbers_76 rfl 1 rfl ?_
          refine V_get (v := .int r48.2.2.2.2.1) ok 0 3 tw_X1 twf_X1_22 rfl rfl (by decide) dX1_takeNumbers_77 rfl rfl ?_
          refine V_bipush (v := nI 119) ok dX1_takeNumbers_80 rfl ?_
          refine V_icmp_ne (tgt := 117) ok dX1_takeNumbers_82 (by decide) (fun h82 => ?_) (fun h82 => ?_)
          · refine V_aload_n ok dX1_takeNumbers_117 rfl 1 rfl ?_
            refine V_cV (v2 := none) (wn := pageW g a ((skipF (r48.2.1, r48.2.2.1, r48.2.2.2.1, r48.2.2.2.2.1, (if mb = true then -r48.2.2.2.2.2.2.2.2 else r48.2.2.2.2.2.2.2.2), r48.2.2.2.2.2.2.1, r48.2.2.2.2.2.2.2.1, r48.2.2.2.2.2.2.2.2)).1, (skipF (r48.2.1, r48.2.2.1, r48.2.2.2.1, r48.2.2.2.2.1, (if mb = true then -r48.2.2.2.2.2.2.2.2 else r48.2.2.2.2.2.2.2.2), r48.2.2.2.2.2.2.1, r48.2.2.2.2.2.2.2.1, r48.2.2.2.2.2.2.2.2)).2.1, (skipF (r48.2.1, r48.2.2.1, r48.2.2.2.1, r48.2.2.2.2.1, (if mb = true then -r48.2.2.2.2.2.2.2.2 else r48.2.2.2.2.2.2.2.2), r48.2.2.2.2.2.2.1, r48.2.2.2.2.2.2.2.1, r48.2.2.2.2.2.2.2.2)).2.2.1, (skipF (r48.2.1, r48.2.2.1, r48.2.2.2.1, r48.2.2.2.2.1, (if mb = true then -r48.2.2.2.2.2.2.2.2 else r48.2.2.2.2.2.2.2.2), r48.2.2.2.2.2.2.1, r48.2.2.2.2.2.2.2.1, r48.2.2.2.2.2.2.2.2)).2.2.2.1, (skipF (r48.2.1, r48.2.2.1, r48.2.2.2.1, r48.2.2.2.2.1, (if mb = true then -r48.2.2.2.2.2.2.2.2 else r48.2.2.2.2.2.2.2.2), r48.2.2.2.2.2.2.1, r48.2.2.2.2.2.2.2.1, r48.2.2.2.2.2.2.2.2)).2.2.2.2.1, (skipF (r48.2.1, r48.2.2.1, r48.2.2.2.1, r48.2.2.2.2.1, (if mb = true then -r48.2.2.2.2.2.2.2.2 else r48.2.2.2.2.2.2.2.2), r48.2.2.2.2.2.2.1, r48.2.2.2.2.2.2.2.1, r48.2.2.2.2.2.2.2.2)).2.2.2.2.2.1, (skipF (r48.2.1, r48.2.2.1, r48.2.2.2.1, r48.2.2.2.2.1, (if mb = true then -r48.2.2.2.2.2.2.2.2 else r48.2.2.2.2.2.2.2.2), r48.2.2.2.2.2.2.1, r48.2.2.2.2.2.2.2.1, r48.2.2.2.2.2.2.2.2)).2.2.2.2.2.2.1, (skipF (r48.2.1, r48.2.2.1, r48.2.2.2.1, r48.2.2.2.2.1, (if mb = true then -r48.2.2.2.2.2.2.2.2 else r48.2.2.2.2.2.2.2.2), r48.2.2.2.2.2.2.1, r48.2.2.2.2.2.2.2.1, r48.2.2.2.2.2.2.2.2)).2.2.2.2.2.2.2)) (rest := []) ok 0 1 (c_X1_skipBlanks g a (r48.2.1, r48.2.2.1, r48.2.2.2.1, r48.2.2.2.2.1, (if mb = true then -r48.2.2.2.2.2.2.2.2 else r48.2.2.2.2.2.2.2.2), r48.2.2.2.2.2.2.1, r48.2.2.2.2.2.2.2.1, r48.2.2.2.2.2.2.2.2) b1) 0 twm_X1_46 twi_yX1_skipBlanks twv_yX1_skipBlanks twin_X1 twc_yX1_skipBlanks yok_X1_skipBlanks (by decide) ⟨rfl, rfl⟩ dX1_takeNumbers_118 rfl rfl rfl rfl (Nat.le_of_ble_eq_true rfl) ⟨Nat.zero_le _, Nat.zero_le _⟩ [0, 1] rfl rfl (Nat.le_of_ble_eq_true rfl) rfl ?_
            generalize hr118 : skipF (r48.2.1, r48.2.2.1, r48.2.2.2.1, r48.2.2.2.2.1, (if mb = true then -r48.2.2.2.2.2.2.2.2 else r48.2.2.2.2.2.2.2.2), r48.2.2.2.2.2.2.1, r48.2.2.2.2.2.2.2.1, r48.2.2.2.2.2.2.2.2) = r118
            refine V_iconst (v := nI 1) ok dX1_takeNumbers_121 rfl ?_
            exact V_zret ok dX1_takeNumbers_122 (Nat.zero_le _) (Nat.zero_le _) rfl ⟨bI_t (by rw [hF2, show restF (setFst r48.2 (if mb = true then -r48.2.2.2.2.2.2.2.2 else r48.2.2.2.2.2.2.2.2)) = (true, skipF (setFst r48.2 (if mb = true then -r48.2.2.2.2.2.2.2.2 else r48.2.2.2.2.2.2.2.2))) from if_neg h82]), by rw [hF2, show restF (setFst r48.2 (if mb = true then -r48.2.2.2.2.2.2.2.2 else r48.2.2.2.2.2.2.2.2)) = (true, skipF (setFst r48.2 (if mb = true then -r48.2.2.2.2.2.2.2.2 else r48.2.2.2.2.2.2.2.2))) from if_neg h82]; exact congrArg (pageW g a) hr118.symm⟩
          · refine V_aload_n ok dX1_takeNumbers_85 rfl 1 rfl ?_
            refine V_cV (v2 := some (.int (hereP r48.2.1 r48.2.2.1 r48.2.2.2.2.2.2.2.1))) (wn := pageW g a (r48.2.1, r48.2.2.1, r48.2.2.2.1, r48.2.2.2.2.1, (if mb = true then -r48.2.2.2.2.2.2.2.2 else r48.2.2.2.2.2.2.2.2), r48.2.2.2.2.2.2.1, r48.2.2.2.2.2.2.2.1, r48.2.2.2.2.2.2.2.2)) (rest := []) ok 0 1 (c_X1_byteHere g a (r48.2.1, r48.2.2.1, r48.2.2.2.1, r48.2.2.2.2.1, (if mb = true then -r48.2.2.2.2.2.2.2.2 else r48.2.2.2.2.2.2.2.2), r48.2.2.2.2.2.2.1, r48.2.2.2.2.2.2.2.1, r48.2.2.2.2.2.2.2.2) b1) 0 twm_X1_49 twi_yX1_byteHere twv_yX1_byteHere twin_X1 twc_yX1_byteHere yok_X1_byteHere (by decide) ⟨rfl, rfl⟩ dX1_takeNumbers_86 rfl rfl rfl rfl (Nat.le_of_ble_eq_true rfl) ⟨Nat.zero_le _, Nat.zero_le _⟩ [0, 1] rfl rfl (Nat.le_of_ble_eq_true rfl) rfl ?_
            refine V_bipush (v := nI 32) ok dX1_takeNumbers_89 rfl ?_
            refine V_icmp_eq (tgt := 96) ok dX1_takeNumbers_91 (by decide) (fun h91 => ?_) (fun h91 => ?_)
            · refine V_aload_n ok dX1_takeNumbers_96 rfl 1 rfl ?_
              refine V_cV (v2 := none) (wn := pageW g a ((skipF (r48.2.1, r48.2.2.1, r48.2.2.2.1, r48.2.2.2.2.1, (if mb = true then -r48.2.2.2.2.2.2.2.2 else r48.2.2.2.2.2.2.2.2), r48.2.2.2.2.2.2.1, r48.2.2.2.2.2.2.2.1, r48.2.2.2.2.2.2.2.2)).1, (skipF (r48.2.1, r48.2.2.1, r48.2.2.2.1, r48.2.2.2.2.1, (if mb = true then -r48.2.2.2.2.2.2.2.2 else r48.2.2.2.2.2.2.2.2), r48.2.2.2.2.2.2.1, r48.2.2.2.2.2.2.2.1, r48.2.2.2.2.2.2.2.2)).2.1, (skipF (r48.2.1, r48.2.2.1, r48.2.2.2.1, r48.2.2.2.2.1, (if mb = true then -r48.2.2.2.2.2.2.2.2 else r48.2.2.2.2.2.2.2.2), r48.2.2.2.2.2.2.1, r48.2.2.2.2.2.2.2.1, r48.2.2.2.2.2.2.2.2)).2.2.1, (skipF (r48.2.1, r48.2.2.1, r48.2.2.2.1, r48.2.2.2.2.1, (if mb = true then -r48.2.2.2.2.2.2.2.2 else r48.2.2.2.2.2.2.2.2), r48.2.2.2.2.2.2.1, r48.2.2.2.2.2.2.2.1, r48.2.2.2.2.2.2.2.2)).2.2.2.1, (skipF (r48.2.1, r48.2.2.1, r48.2.2.2.1, r48.2.2.2.2.1, (if mb = true then -r48.2.2.2.2.2.2.2.2 else r48.2.2.2.2.2.2.2.2), r48.2.2.2.2.2.2.1, r48.2.2.2.2.2.2.2.1, r48.2.2.2.2.2.2.2.2)).2.2.2.2.1, (skipF (r48.2.1, r48.2.2.1, r48.2.2.2.1, r48.2.2.2.2.1, (if mb = true then -r48.2.2.2.2.2.2.2.2 else r48.2.2.2.2.2.2.2.2), r48.2.2.2.2.2.2.1, r48.2.2.2.2.2.2.2.1, r48.2.2.2.2.2.2.2.2)).2.2.2.2.2.1, (skipF (r48.2.1, r48.2.2.1, r48.2.2.2.1, r48.2.2.2.2.1, (if mb = true then -r48.2.2.2.2.2.2.2.2 else r48.2.2.2.2.2.2.2.2), r48.2.2.2.2.2.2.1, r48.2.2.2.2.2.2.2.1, r48.2.2.2.2.2.2.2.2)).2.2.2.2.2.2.1, (skipF (r48.2.1, r48.2.2.1, r48.2.2.2.1, r48.2.2.2.2.1, (if mb = true then -r48.2.2.2.2.2.2.2.2 else r48.2.2.2.2.2.2.2.2), r48.2.2.2.2.2.2.1, r48.2.2.2.2.2.2.2.1, r48.2.2.2.2.2.2.2.2)).2.2.2.2.2.2.2)) (rest := []) ok 0 1 (c_X1_skipBlanks g a (r48.2.1, r48.2.2.1, r48.2.2.2.1, r48.2.2.2.2.1, (if mb = true then -r48.2.2.2.2.2.2.2.2 else r48.2.2.2.2.2.2.2.2), r48.2.2.2.2.2.2.1, r48.2.2.2.2.2.2.2.1, r48.2.2.2.2.2.2.2.2) b1) 0 twm_X1_46 twi_yX1_skipBlanks twv_yX1_skipBlanks twin_X1 twc_yX1_skipBlanks yok_X1_skipBlanks (by decide) ⟨rfl, rfl⟩ dX1_takeNumbers_97 rfl rfl rfl rfl (Nat.le_of_ble_eq_true rfl) ⟨Nat.zero_le _, Nat.zero_le _⟩ [0, 1] rfl rfl (Nat.le_of_ble_eq_true rfl) rfl ?_
              generalize hr97 : skipF (r48.2.1, r48.2.2.1, r48.2.2.2.1, r48.2.2.2.2.1, (if mb = true then -r48.2.2.2.2.2.2.2.2 else r48.2.2.2.2.2.2.2.2), r48.2.2.2.2.2.2.1, r48.2.2.2.2.2.2.2.1, r48.2.2.2.2.2.2.2.2) = r97
              have s1 : PG r97 := by rw [← hr97]; exact (PG.skip (P := (setFst r48.2 (if mb = true then -r48.2.2.2.2.2.2.2.2 else r48.2.2.2.2.2.2.2.2))) b1).1
              have hF3 : takeNumbersF P = secF (takeNumberF r97) := by rw [hF2, ← hr97]; unfold restF; rw [if_pos (show pLet (setFst r48.2 (if mb = true then -r48.2.2.2.2.2.2.2.2 else r48.2.2.2.2.2.2.2.2)) = nI 119 from h82), if_pos (show pHere (setFst r48.2 (if mb = true then -r48.2.2.2.2.2.2.2.2 else r48.2.2.2.2.2.2.2.2)) = nI 32 from h91)]; rfl
              refine V_aload_n ok dX1_takeNumbers_100 rfl 1 rfl ?_
              refine V_cV (v2 := some (.int (bI ((takeNumberF (r97.1, r97.2.1, r97.2.2.1, r97.2.2.2.1, r97.2.2.2.2.1, r97.2.2.2.2.2.1, r97.2.2.2.2.2.2.1, r97.2.2.2.2.2.2.2)).1)))) (wn := pageW g a ((takeNumberF (r97.1, r97.2.1, r97.2.2.1, r97.2.2.2.1, r97.2.2.2.2.1, r97.2.2.2.2.2.1, r97.2.2.2.2.2.2.1, r97.2.2.2.2.2.2.2)).2.1, (takeNumberF (r97.1, r97.2.1, r97.2.2.1, r97.2.2.2.1, r97.2.2.2.2.1, r97.2.2.2.2.2.1, r97.2.2.2.2.2.2.1, r97.2.2.2.2.2.2.2)).2.2.1, (takeNumberF (r97.1, r97.2.1, r97.2.2.1, r97.2.2.2.1, r97.2.2.2.2.1, r97.2.2.2.2.2.1, r97.2.2.2.2.2.2.1, r97.2.2.2.2.2.2.2)).2.2.2.1, (takeNumberF (r97.1, r97.2.1, r97.2.2.1, r97.2.2.2.1, r97.2.2.2.2.1, r97.2.2.2.2.2.1, r97.2.2.2.2.2.2.1, r97.2.2.2.2.2.2.2)).2.2.2.2.1, (takeNumberF (r97.1, r97.2.1, r97.2.2.1, r97.2.2.2.1, r97.2.2.2.2.1, r97.2.2.2.2.2.1, r97.2.2.2.2.2.2.1, r97.2.2.2.2.2.2.2)).2.2.2.2.2.1, (takeNumberF (r97.1, r97.2.1, r97.2.2.1, r97.2.2.2.1, r97.2.2.2.2.1, r97.2.2.2.2.2.1, r97.2.2.2.2.2.2.1, r97.2.2.2.2.2.2.2)).2.2.2.2.2.2.1, (takeNumberF (r97.1, r97.2.1, r97.2.2.1, r97.2.2.2.1, r97.2.2.2.2.1, r97.2.2.2.2.2.1, r97.2.2.2.2.2.2.1, r97.2.2.2.2.2.2.2)).2.2.2.2.2.2.2.1, (takeNumberF (r97.1, r97.2.1, r97.2.2.1, r97.2.2.2.1, r97.2.2.2.2.1, r97.2.2.2.2.2.1, r97.2.2.2.2.2.2.1, r97.2.2.2.2.2.2.2)).2.2.2.2.2.2.2.2)) (rest := []) ok 0 1 (c_X1_takeNumber g a (r97.1, r97.2.1, r97.2.2.1, r97.2.2.2.1, r97.2.2.2.2.1, r97.2.2.2.2.2.1, r97.2.2.2.2.2.2.1, r97.2.2.2.2.2.2.2) s1) 0 twm_X1_60 twi_yX1_takeNumber twv_yX1_takeNumber twin_X1 twc_yX1_takeNumber yok_X1_takeNumber (by decide) ⟨rfl, rfl⟩ dX1_takeNumbers_101 rfl rfl rfl rfl (Nat.le_of_ble_eq_true rfl) ⟨Nat.zero_le _, Nat.zero_le _⟩ [0, 1] rfl rfl (Nat.le_of_ble_eq_true rfl) rfl ?_
              generalize hr101 : takeNumberF (r97.1, r97.2.1, r97.2.2.1, r97.2.2.2.1, r97.2.2.2.2.1, r97.2.2.2.2.2.1, r97.2.2.2.2.2.2.1, r97.2.2.2.2.2.2.2) = r101
              have b4 : PG r101.2 := by rw [← hr101]; exact (PG.take s1).1
              have hF4 : takeNumbersF P = secF r101 := by rw [hF3]; exact congrArg secF hr101
              refine V_ifB_ne (tgt := 109) ok dX1_takeNumbers_104 (by decide) (fun h104 => ?_) (fun h104 => ?_)
              · refine V_aload_n ok dX1_takeNumbers_109 rfl 1 rfl ?_
                refine V_aload_n ok dX1_takeNumbers_110 rfl 1 rfl ?_
                refine V_get (v := .int r101.2.2.2.2.2.2.2.2) ok 0 7 tw_X1 twf_X1_34 rfl rfl (by decide) dX1_takeNumbers_111 rfl rfl ?_
                refine V_put (w2 := pageW g a (r101.2.1, r101.2.2.1, r101.2.2.2.1, r101.2.2.2.2.1, r101.2.2.2.2.2.1, r101.2.2.2.2.2.2.2.2, r101.2.2.2.2.2.2.2.1, r101.2.2.2.2.2.2.2.2)) ok 0 5 tw_X1 tyX1 tyX1_ok nmX1 twf_X1_28 rfl rfl (by decide) rfl rfl dX1_takeNumbers_114 rfl rfl rfl (Nat.lt_of_lt_of_eq (m := 8) (by decide) rfl) rfl ?_
                refine V_aload_n ok dX1_takeNumbers_117 rfl 1 rfl ?_
                refine V_cV (v2 := none) (wn := pageW g a ((skipF (r101.2.1, r101.2.2.1, r101.2.2.2.1, r101.2.2.2.2.1, r101.2.2.2.2.2.1, r101.2.2.2.2.2.2.2.2, r101.2.2.2.2.2.2.2.1, r101.2.2.2.2.2.2.2.2)).1, (skipF (r101.2.1, r101.2.2.1, r101.2.2.2.1, r101.2.2.2.2.1, r101.2.2.2.2.2.1, r101.2.2.2.2.2.2.2.2, r101.2.2.2.2.2.2.2.1, r101.2.2.2.2.2.2.2.2)).2.1, (skipF (r101.2.1, r101.2.2.1, r101.2.2.2.1, r101.2.2.2.2.1, r101.2.2.2.2.2.1, r101.2.2.2.2.2.2.2.2, r101.2.2.2.2.2.2.2.1, r101.2.2.2.2.2.2.2.2)).2.2.1, (skipF (r101.2.1, r101.2.2.1, r101.2.2.2.1, r101.2.2.2.2.1, r101.2.2.2.2.2.1, r101.2.2.2.2.2.2.2.2, r101.2.2.2.2.2.2.2.1, r101.2.2.2.2.2.2.2.2)).2.2.2.1, (skipF (r101.2.1, r101.2.2.1, r101.2.2.2.1, r101.2.2.2.2.1, r101.2.2.2.2.2.1, r101.2.2.2.2.2.2.2.2, r101.2.2.2.2.2.2.2.1, r101.2.2.2.2.2.2.2.2)).2.2.2.2.1, (skipF (r101.2.1, r101.2.2.1, r101.2.2.2.1, r101.2.2.2.2.1, r101.2.2.2.2.2.1, r101.2.2.2.2.2.2.2.2, r101.2.2.2.2.2.2.2.1, r101.2.2.2.2.2.2.2.2)).2.2.2.2.2.1, (skipF (r101.2.1, r101.2.2.1, r101.2.2.2.1, r101.2.2.2.2.1, r101.2.2.2.2.2.1, r101.2.2.2.2.2.2.2.2, r101.2.2.2.2.2.2.2.1, r101.2.2.2.2.2.2.2.2)).2.2.2.2.2.2.1, (skipF (r101.2.1, r101.2.2.1, r101.2.2.2.1, r101.2.2.2.2.1, r101.2.2.2.2.2.1, r101.2.2.2.2.2.2.2.2, r101.2.2.2.2.2.2.2.1, r101.2.2.2.2.2.2.2.2)).2.2.2.2.2.2.2)) (rest := []) ok 0 1 (c_X1_skipBlanks g a (r101.2.1, r101.2.2.1, r101.2.2.2.1, r101.2.2.2.2.1, r101.2.2.2.2.2.1, r101.2.2.2.2.2.2.2.2, r101.2.2.2.2.2.2.2.1, r101.2.2.2.2.2.2.2.2) b4) 0 twm_X1_46 twi_yX1_skipBlanks twv_yX1_skipBlanks twin_X1 twc_yX1_skipBlanks yok_X1_skipBlanks (by decide) ⟨rfl, rfl⟩ dX1_takeNumbers_118 rfl rfl rfl rfl (Nat.le_of_ble_eq_true rfl) ⟨Nat.zero_le _, Nat.zero_le _⟩ [0, 1] rfl rfl (Nat.le_of_ble_eq_true rfl) rfl ?_
                generalize hr118 : skipF (r101.2.1, r101.2.2.1, r101.2.2.2.1, r101.2.2.2.2.1, r101.2.2.2.2.2.1, r101.2.2.2.2.2.2.2.2, r101.2.2.2.2.2.2.2.1, r101.2.2.2.2.2.2.2.2) = r118
                refine V_iconst (v := nI 1) ok dX1_takeNumbers_121 rfl ?_
                exact V_zret ok dX1_takeNumbers_122 (Nat.zero_le _) (Nat.zero_le _) rfl ⟨bI_t (by rw [hF4, show secF r101 = (true, skipF (setSnd r101.2 (pNum r101.2))) from if_pos h104]), by rw [hF4, show secF r101 = (true, skipF (setSnd r101.2 (pNum r101.2))) from if_pos h104]; exact congrArg (pageW g a) hr118.symm⟩
              · refine V_iconst (v := nI 0) ok dX1_takeNumbers_107 rfl ?_
                exact V_zret ok dX1_takeNumbers_108 (Nat.zero_le _) (Nat.zero_le _) rfl ⟨bI_f (by rw [hF4, show secF r101 = (false, r101.2) from if_neg h104]), by rw [hF4, show secF r101 = (false, r101.2) from if_neg h104] <;> rfl⟩
            · refine V_iconst (v := nI 0) ok dX1_takeNumbers_94 rfl ?_
              have e95 : restF (setFst r48.2 (if mb = true then -r48.2.2.2.2.2.2.2.2 else r48.2.2.2.2.2.2.2.2)) = (false, (setFst r48.2 (if mb = true then -r48.2.2.2.2.2.2.2.2 else r48.2.2.2.2.2.2.2.2))) := by unfold restF; rw [if_pos (show pLet (setFst r48.2 (if mb = true then -r48.2.2.2.2.2.2.2.2 else r48.2.2.2.2.2.2.2.2)) = nI 119 from h82), if_neg (show ¬ pHere (setFst r48.2 (if mb = true then -r48.2.2.2.2.2.2.2.2 else r48.2.2.2.2.2.2.2.2)) = nI 32 from h91)]
              exact V_zret ok dX1_takeNumbers_95 (Nat.zero_le _) (Nat.zero_le _) rfl ⟨bI_f (by rw [hF2, e95]), by rw [hF2, e95] <;> rfl⟩
        refine V_ifB_eq (tgt := 69) ok dX1_takeNumbers_58 (by decide) (fun h58 => ?_) (fun h58 => ?_)
        · refine V_aload_n ok dX1_takeNumbers_69 rfl 1 rfl ?_
          refine V_get (v := .int r48.2.2.2.2.2.2.2.2) ok 0 7 tw_X1 twf_X1_34 rfl rfl (by decide) dX1_takeNumbers_70 rfl rfl ?_
          simp only [if_neg h58] at J58
          exact J58
        · refine V_aload_n ok dX1_takeNumbers_61 rfl 1 rfl ?_
          refine V_get (v := .int r48.2.2.2.2.2.2.2.2) ok 0 7 tw_X1 twf_X1_34 rfl rfl (by decide) dX1_takeNumbers_62 rfl rfl ?_
          refine V_ineg ok dX1_takeNumbers_65 ?_
          refine V_goto (tgt := 73) ok dX1_takeNumbers_66 (by decide) ?_
          simp only [if_pos h58] at J58
          exact J58
      · refine V_iconst (v := nI 0) ok dX1_takeNumbers_54 rfl ?_
        exact V_zret ok dX1_takeNumbers_55 (Nat.zero_le _) (Nat.zero_le _) rfl ⟨bI_f (by rw [hF, show firF mb r48 = (false, r48.2) from if_neg h51]), by rw [hF, show firF mb r48 = (false, r48.2) from if_neg h51] <;> rfl⟩
    refine V_ifB_eq (tgt := 47) ok dX1_takeNumbers_34 (by decide) (fun h34 => ?_) (fun h34 => ?_)
    · simp only [if_neg h34] at J34
      exact J34
    · refine V_aload_n ok dX1_takeNumbers_37 rfl 1 rfl ?_
      refine V_dup ok dX1_takeNumbers_38 rfl ?_
      refine V_get (v := .int (nI P.2.2.2.2.2.2.1)) ok 0 6 tw_X1 twf_X1_31 rfl rfl (by decide) dX1_takeNumbers_39 rfl rfl ?_
      refine V_iconst (v := nI 1) ok dX1_takeNumbers_42 rfl ?_
      refine V_iaddN (a := P.2.2.2.2.2.2.1) (b := 1) (c := P.2.2.2.2.2.2.1 + 1) ok dX1_takeNumbers_43 (by first | rfl | omega) ?_
      refine V_put (w2 := pageW g a (P.1, P.2.1, P.2.2.1, P.2.2.2.1, P.2.2.2.2.1, P.2.2.2.2.2.1, P.2.2.2.2.2.2.1 + 1, P.2.2.2.2.2.2.2)) ok 0 6 tw_X1 tyX1 tyX1_ok nmX1 twf_X1_31 rfl rfl (by decide) rfl rfl dX1_takeNumbers_44 rfl rfl rfl (Nat.lt_of_lt_of_eq (m := 8) (by decide) rfl) rfl ?_
      simp only [if_pos h34] at J34
      exact J34
  refine V_aload_n ok dX1_takeNumbers_0 rfl 0 rfl ?_
  refine V_get (v := .int P.2.2.2.1) ok 0 3 tw_X1 twf_X1_22 rfl rfl (by decide) dX1_takeNumbers_1 rfl rfl ?_
  refine V_bipush (v := nI 104) ok dX1_takeNumbers_4 rfl ?_
  refine V_icmp_eq (tgt := 18) ok dX1_takeNumbers_6 (by decide) (fun h6 => ?_) (fun h6 => ?_)
  · refine V_aload_n ok dX1_takeNumbers_18 rfl 0 rfl ?_
    refine V_cV (v2 := some (.int (hereP P.1 P.2.1 P.2.2.2.2.2.2.1))) (wn := pageW g a (P.1, P.2.1, P.2.2.1, P.2.2.2.1, P.2.2.2.2.1, P.2.2.2.2.2.1, P.2.2.2.2.2.2.1, P.2.2.2.2.2.2.2)) (rest := []) ok 0 1 (c_X1_byteHere g a (P.1, P.2.1, P.2.2.1, P.2.2.2.1, P.2.2.2.2.1, P.2.2.2.2.2.1, P.2.2.2.2.2.2.1, P.2.2.2.2.2.2.2) hP) 0 twm_X1_49 twi_yX1_byteHere twv_yX1_byteHere twin_X1 twc_yX1_byteHere yok_X1_byteHere (by decide) ⟨rfl, rfl⟩ dX1_takeNumbers_19 rfl rfl rfl rfl (Nat.le_of_ble_eq_true rfl) ⟨Nat.zero_le _, Nat.zero_le _⟩ [0, 1] rfl rfl (Nat.le_of_ble_eq_true rfl) rfl ?_
    refine V_bipush (v := nI 45) ok dX1_takeNumbers_22 rfl ?_
    refine V_icmp_ne (tgt := 31) ok dX1_takeNumbers_24 (by decide) (fun h24 => ?_) (fun h24 => ?_)
    · refine V_iconst (v := nI 0) ok dX1_takeNumbers_31 rfl ?_
      refine V_istore_n (lv2 := [(1, .int (nI 0)), (0, .ref (a 0))]) ok dX1_takeNumbers_32 rfl (by decide) rfl ?_
      exact K false (by unfold minusB; simp only [pLet, pHere]; simp [*])
    · refine V_iconst (v := nI 1) ok dX1_takeNumbers_27 rfl ?_
      refine V_goto (tgt := 32) ok dX1_takeNumbers_28 (by decide) ?_
      refine V_istore_n (lv2 := [(1, .int (nI 1)), (0, .ref (a 0))]) ok dX1_takeNumbers_32 rfl (by decide) rfl ?_
      exact K true (by unfold minusB; simp only [pLet, pHere]; simp [*])
  · refine V_aload_n ok dX1_takeNumbers_9 rfl 0 rfl ?_
    refine V_get (v := .int P.2.2.2.1) ok 0 3 tw_X1 twf_X1_22 rfl rfl (by decide) dX1_takeNumbers_10 rfl rfl ?_
    refine V_bipush (v := nI 113) ok dX1_takeNumbers_13 rfl ?_
    refine V_icmp_ne (tgt := 31) ok dX1_takeNumbers_15 (by decide) (fun h15 => ?_) (fun h15 => ?_)
    · refine V_iconst (v := nI 0) ok dX1_takeNumbers_31 rfl ?_
      refine V_istore_n (lv2 := [(1, .int (nI 0)), (0, .ref (a 0))]) ok dX1_takeNumbers_32 rfl (by decide) rfl ?_
      exact K false (by unfold minusB; simp only [pLet, pHere]; simp [*])
    · refine V_aload_n ok dX1_takeNumbers_18 rfl 0 rfl ?_
      refine V_cV (v2 := some (.int (hereP P.1 P.2.1 P.2.2.2.2.2.2.1))) (wn := pageW g a (P.1, P.2.1, P.2.2.1, P.2.2.2.1, P.2.2.2.2.1, P.2.2.2.2.2.1, P.2.2.2.2.2.2.1, P.2.2.2.2.2.2.2)) (rest := []) ok 0 1 (c_X1_byteHere g a (P.1, P.2.1, P.2.2.1, P.2.2.2.1, P.2.2.2.2.1, P.2.2.2.2.2.1, P.2.2.2.2.2.2.1, P.2.2.2.2.2.2.2) hP) 0 twm_X1_49 twi_yX1_byteHere twv_yX1_byteHere twin_X1 twc_yX1_byteHere yok_X1_byteHere (by decide) ⟨rfl, rfl⟩ dX1_takeNumbers_19 rfl rfl rfl rfl (Nat.le_of_ble_eq_true rfl) ⟨Nat.zero_le _, Nat.zero_le _⟩ [0, 1] rfl rfl (Nat.le_of_ble_eq_true rfl) rfl ?_
      refine V_bipush (v := nI 45) ok dX1_takeNumbers_22 rfl ?_
      refine V_icmp_ne (tgt := 31) ok dX1_takeNumbers_24 (by decide) (fun h24 => ?_) (fun h24 => ?_)
      · refine V_iconst (v := nI 0) ok dX1_takeNumbers_31 rfl ?_
        refine V_istore_n (lv2 := [(1, .int (nI 0)), (0, .ref (a 0))]) ok dX1_takeNumbers_32 rfl (by decide) rfl ?_
        exact K false (by unfold minusB; simp only [pLet, pHere]; simp [*])
      · refine V_iconst (v := nI 1) ok dX1_takeNumbers_27 rfl ?_
        refine V_goto (tgt := 32) ok dX1_takeNumbers_28 (by decide) ?_
        refine V_istore_n (lv2 := [(1, .int (nI 1)), (0, .ref (a 0))]) ok dX1_takeNumbers_32 rfl (by decide) rfl ?_
        exact K true (by unfold minusB; simp only [pLet, pHere]; simp [*])
set_option maxHeartbeats 4000000 in
set_option maxRecDepth 100000 in
theorem c_X1_nextOrder (g : Glob) (a : Nat → Nat) (P : PageSt) (hP : PG P) : Con g yX1_nextOrder cX1_nextOrder 1 (some .boolean) ({ frames := 3, cells := 0, slots := 0, locals := 62 } : Room) [.ref (a 0)] (pageW g a P) (Is (some (.int (bI (nextOrderF P).1))) (pageW g a (nextOrderF P).2)) := by
  refine con_of_V ypl_X1_nextOrder (Nat.le_of_ble_eq_true rfl) [(0, .ref (a 0))] rfl (fun Γ ok => ?_)
  have K : ∀ Q : PageSt, PG (setPl Q (pPl Q + 1)) → nextOrderF P = orderF Q → V g Γ 1 0 0 43 (pageW g a (Q.1, Q.2.1, Q.2.2.1, Q.2.2.2.1, Q.2.2.2.2.1, Q.2.2.2.2.2.1, Q.2.2.2.2.2.2.1, Q.2.2.2.2.2.2.2)) [(0, .ref (a 0))] [] := by
    intro Q hQ1 hN
    refine V_aload_n ok dX1_nextOrder_43 rfl 0 rfl ?_
    refine V_dup ok dX1_nextOrder_44 rfl ?_
    refine V_get (v := .int (nI Q.2.2.2.2.2.2.1)) ok 0 6 tw_X1 twf_X1_31 rfl rfl (by decide) dX1_nextOrder_45 rfl rfl ?_
    refine V_iconst (v := nI 1) ok dX1_nextOrder_48 rfl ?_
    refine V_iaddN (a := Q.2.2.2.2.2.2.1) (b := 1) (c := Q.2.2.2.2.2.2.1 + 1) ok dX1_nextOrder_49 (by first | rfl | omega) ?_
    refine V_put (w2 := pageW g a (Q.1, Q.2.1, Q.2.2.1, Q.2.2.2.1, Q.2.2.2.2.1, Q.2.2.2.2.2.1, Q.2.2.2.2.2.2.1 + 1, Q.2.2.2.2.2.2.2)) ok 0 6 tw_X1 tyX1 tyX1_ok nmX1 twf_X1_31 rfl rfl (by decide) rfl rfl dX1_nextOrder_50 rfl rfl rfl (Nat.lt_of_lt_of_eq (m := 8) (by decide) rfl) rfl ?_
    refine V_aload_n ok dX1_nextOrder_53 rfl 0 rfl ?_
    refine V_cV (v2 := none) (wn := pageW g a ((skipF (Q.1, Q.2.1, Q.2.2.1, Q.2.2.2.1, Q.2.2.2.2.1, Q.2.2.2.2.2.1, Q.2.2.2.2.2.2.1 + 1, Q.2.2.2.2.2.2.2)).1, (skipF (Q.1, Q.2.1, Q.2.2.1, Q.2.2.2.1, Q.2.2.2.2.1, Q.2.2.2.2.2.1, Q.2.2.2.2.2.2.1 + 1, Q.2.2.2.2.2.2.2)).2.1, (skipF (Q.1, Q.2.1, Q.2.2.1, Q.2.2.2.1, Q.2.2.2.2.1, Q.2.2.2.2.2.1, Q.2.2.2.2.2.2.1 + 1, Q.2.2.2.2.2.2.2)).2.2.1, (skipF (Q.1, Q.2.1, Q.2.2.1, Q.2.2.2.1, Q.2.2.2.2.1, Q.2.2.2.2.2.1, Q.2.2.2.2.2.2.1 + 1, Q.2.2.2.2.2.2.2)).2.2.2.1, (skipF (Q.1, Q.2.1, Q.2.2.1, Q.2.2.2.1, Q.2.2.2.2.1, Q.2.2.2.2.2.1, Q.2.2.2.2.2.2.1 + 1, Q.2.2.2.2.2.2.2)).2.2.2.2.1, (skipF (Q.1, Q.2.1, Q.2.2.1, Q.2.2.2.1, Q.2.2.2.2.1, Q.2.2.2.2.2.1, Q.2.2.2.2.2.2.1 + 1, Q.2.2.2.2.2.2.2)).2.2.2.2.2.1, (skipF (Q.1, Q.2.1, Q.2.2.1, Q.2.2.2.1, Q.2.2.2.2.1, Q.2.2.2.2.2.1, Q.2.2.2.2.2.2.1 + 1, Q.2.2.2.2.2.2.2)).2.2.2.2.2.2.1, (skipF (Q.1, Q.2.1, Q.2.2.1, Q.2.2.2.1, Q.2.2.2.2.1, Q.2.2.2.2.2.1, Q.2.2.2.2.2.2.1 + 1, Q.2.2.2.2.2.2.2)).2.2.2.2.2.2.2)) (rest := []) ok 0 1 (c_X1_skipBlanks g a (Q.1, Q.2.1, Q.2.2.1, Q.2.2.2.1, Q.2.2.2.2.1, Q.2.2.2.2.2.1, Q.2.2.2.2.2.2.1 + 1, Q.2.2.2.2.2.2.2) hQ1) 0 twm_X1_46 twi_yX1_skipBlanks twv_yX1_skipBlanks twin_X1 twc_yX1_skipBlanks yok_X1_skipBlanks (by decide) ⟨rfl, rfl⟩ dX1_nextOrder_54 rfl rfl rfl rfl (Nat.le_of_ble_eq_true rfl) ⟨Nat.zero_le _, Nat.zero_le _⟩ [0, 1] rfl rfl (Nat.le_of_ble_eq_true rfl) rfl ?_
    generalize hr54 : skipF (Q.1, Q.2.1, Q.2.2.1, Q.2.2.2.1, Q.2.2.2.2.1, Q.2.2.2.2.2.1, Q.2.2.2.2.2.2.1 + 1, Q.2.2.2.2.2.2.2) = r54
    have s1 : PG r54 := by rw [← hr54]; exact (PG.skip (P := setPl Q (pPl Q + 1)) hQ1).1
    refine V_aload_n ok dX1_nextOrder_57 rfl 0 rfl ?_
    refine V_cV (v2 := some (.int (bI ((takeNumbersF (r54.1, r54.2.1, r54.2.2.1, r54.2.2.2.1, r54.2.2.2.2.1, r54.2.2.2.2.2.1, r54.2.2.2.2.2.2.1, r54.2.2.2.2.2.2.2)).1)))) (wn := pageW g a ((takeNumbersF (r54.1, r54.2.1, r54.2.2.1, r54.2.2.2.1, r54.2.2.2.2.1, r54.2.2.2.2.2.1, r54.2.2.2.2.2.2.1, r54.2.2.2.2.2.2.2)).2.1, (takeNumbersF (r54.1, r54.2.1, r54.2.2.1, r54.2.2.2.1, r54.2.2.2.2.1, r54.2.2.2.2.2.1, r54.2.2.2.2.2.2.1, r54.2.2.2.2.2.2.2)).2.2.1, (takeNumbersF (r54.1, r54.2.1, r54.2.2.1, r54.2.2.2.1, r54.2.2.2.2.1, r54.2.2.2.2.2.1, r54.2.2.2.2.2.2.1, r54.2.2.2.2.2.2.2)).2.2.2.1, (takeNumbersF (r54.1, r54.2.1, r54.2.2.1, r54.2.2.2.1, r54.2.2.2.2.1, r54.2.2.2.2.2.1, r54.2.2.2.2.2.2.1, r54.2.2.2.2.2.2.2)).2.2.2.2.1, (takeNumbersF (r54.1, r54.2.1, r54.2.2.1, r54.2.2.2.1, r54.2.2.2.2.1, r54.2.2.2.2.2.1, r54.2.2.2.2.2.2.1, r54.2.2.2.2.2.2.2)).2.2.2.2.2.1, (takeNumbersF (r54.1, r54.2.1, r54.2.2.1, r54.2.2.2.1, r54.2.2.2.2.1, r54.2.2.2.2.2.1, r54.2.2.2.2.2.2.1, r54.2.2.2.2.2.2.2)).2.2.2.2.2.2.1, (takeNumbersF (r54.1, r54.2.1, r54.2.2.1, r54.2.2.2.1, r54.2.2.2.2.1, r54.2.2.2.2.2.1, r54.2.2.2.2.2.2.1, r54.2.2.2.2.2.2.2)).2.2.2.2.2.2.2.1, (takeNumbersF (r54.1, r54.2.1, r54.2.2.1, r54.2.2.2.1, r54.2.2.2.2.1, r54.2.2.2.2.2.1, r54.2.2.2.2.2.2.1, r54.2.2.2.2.2.2.2)).2.2.2.2.2.2.2.2)) (rest := []) ok 0 1 (c_X1_takeNumbers g a (r54.1, r54.2.1, r54.2.2.1, r54.2.2.2.1, r54.2.2.2.2.1, r54.2.2.2.2.2.1, r54.2.2.2.2.2.2.1, r54.2.2.2.2.2.2.2) s1) 0 twm_X1_57 twi_yX1_takeNumbers twv_yX1_takeNumbers twin_X1 twc_yX1_takeNumbers yok_X1_takeNumbers (by decide) ⟨rfl, rfl⟩ dX1_nextOrder_58 rfl rfl rfl rfl (Nat.le_of_ble_eq_true rfl) ⟨Nat.zero_le _, Nat.zero_le _⟩ [0, 1] rfl rfl (Nat.le_of_ble_eq_true rfl) rfl ?_
    generalize hr58 : takeNumbersF (r54.1, r54.2.1, r54.2.2.1, r54.2.2.2.1, r54.2.2.2.2.1, r54.2.2.2.2.2.1, r54.2.2.2.2.2.2.1, r54.2.2.2.2.2.2.2) = r58
    have t1 : PG r58.2 := by rw [← hr58]; exact (PG.takes s1).1
    have hO : orderF Q = endF r58 := by unfold orderF; rw [← hr58, ← hr54]; rfl
    refine V_ifB_eq (tgt := 73) ok dX1_nextOrder_61 (by decide) (fun h61 => ?_) (fun h61 => ?_)
    · refine V_iconst (v := nI 0) ok dX1_nextOrder_73 rfl ?_
      exact V_zret ok dX1_nextOrder_74 (Nat.zero_le _) (Nat.zero_le _) rfl ⟨bI_f (by rw [hN, hO, show endF r58 = (false, r58.2) from if_neg h61]), by rw [hN, hO, show endF r58 = (false, r58.2) from if_neg h61] <;> rfl⟩
    · refine V_aload_n ok dX1_nextOrder_64 rfl 0 rfl ?_
      refine V_cV (v2 := some (.int (hereP r58.2.1 r58.2.2.1 r58.2.2.2.2.2.2.2.1))) (wn := pageW g a (r58.2.1, r58.2.2.1, r58.2.2.2.1, r58.2.2.2.2.1, r58.2.2.2.2.2.1, r58.2.2.2.2.2.2.1, r58.2.2.2.2.2.2.2.1, r58.2.2.2.2.2.2.2.2)) (rest := []) ok 0 1 (c_X1_byteHere g a (r58.2.1, r58.2.2.1, r58.2.2.2.1, r58.2.2.2.2.1, r58.2.2.2.2.2.1, r58.2.2.2.2.2.2.1, r58.2.2.2.2.2.2.2.1, r58.2.2.2.2.2.2.2.2) t1) 0 twm_X1_49 twi_yX1_byteHere twv_yX1_byteHere twin_X1 twc_yX1_byteHere yok_X1_byteHere (by decide) ⟨rfl, rfl⟩ dX1_nextOrder_65 rfl rfl rfl rfl (Nat.le_of_ble_eq_true rfl) ⟨Nat.zero_le _, Nat.zero_le _⟩ [0, 1] rfl rfl (Nat.le_of_ble_eq_true rfl) rfl ?_
      refine V_bipush (v := nI 59) ok dX1_nextOrder_68 rfl ?_
      refine V_icmp_eq (tgt := 75) ok dX1_nextOrder_70 (by decide) (fun h70 => ?_) (fun h70 => ?_)
      · refine V_aload_n ok dX1_nextOrder_75 rfl 0 rfl ?_
        refine V_dup ok dX1_nextOrder_76 rfl ?_
        refine V_get (v := .int (nI r58.2.2.2.2.2.2.2.1)) ok 0 6 tw_X1 twf_X1_31 rfl rfl (by decide) dX1_nextOrder_77 rfl rfl ?_
        refine V_iconst (v := nI 1) ok dX1_nextOrder_80 rfl ?_
        refine V_iaddN (a := r58.2.2.2.2.2.2.2.1) (b := 1) (c := r58.2.2.2.2.2.2.2.1 + 1) ok dX1_nextOrder_81 (by first | rfl | omega) ?_
        refine V_put (w2 := pageW g a (r58.2.1, r58.2.2.1, r58.2.2.2.1, r58.2.2.2.2.1, r58.2.2.2.2.2.1, r58.2.2.2.2.2.2.1, r58.2.2.2.2.2.2.2.1 + 1, r58.2.2.2.2.2.2.2.2)) ok 0 6 tw_X1 tyX1 tyX1_ok nmX1 twf_X1_31 rfl rfl (by decide) rfl rfl dX1_nextOrder_82 rfl rfl rfl (Nat.lt_of_lt_of_eq (m := 8) (by decide) rfl) rfl ?_
        refine V_aload_n ok dX1_nextOrder_85 rfl 0 rfl ?_
        refine V_cV (v2 := none) (wn := pageW g a ((skipF (r58.2.1, r58.2.2.1, r58.2.2.2.1, r58.2.2.2.2.1, r58.2.2.2.2.2.1, r58.2.2.2.2.2.2.1, r58.2.2.2.2.2.2.2.1 + 1, r58.2.2.2.2.2.2.2.2)).1, (skipF (r58.2.1, r58.2.2.1, r58.2.2.2.1, r58.2.2.2.2.1, r58.2.2.2.2.2.1, r58.2.2.2.2.2.2.1, r58.2.2.2.2.2.2.2.1 + 1, r58.2.2.2.2.2.2.2.2)).2.1, (skipF (r58.2.1, r58.2.2.1, r58.2.2.2.1, r58.2.2.2.2.1, r58.2.2.2.2.2.1, r58.2.2.2.2.2.2.1, r58.2.2.2.2.2.2.2.1 + 1, r58.2.2.2.2.2.2.2.2)).2.2.1, (skipF (r58.2.1, r58.2.2.1, r58.2.2.2.1, r58.2.2.2.2.1, r58.2.2.2.2.2.1, r58.2.2.2.2.2.2.1, r58.2.2.2.2.2.2.2.1 + 1, r58.2.2.2.2.2.2.2.2)).2.2.2.1, (skipF (r58.2.1, r58.2.2.1, r58.2.2.2.1, r58.2.2.2.2.1, r58.2.2.2.2.2.1, r58.2.2.2.2.2.2.1, r58.2.2.2.2.2.2.2.1 + 1, r58.2.2.2.2.2.2.2.2)).2.2.2.2.1, (skipF (r58.2.1, r58.2.2.1, r58.2.2.2.1, r58.2.2.2.2.1, r58.2.2.2.2.2.1, r58.2.2.2.2.2.2.1, r58.2.2.2.2.2.2.2.1 + 1, r58.2.2.2.2.2.2.2.2)).2.2.2.2.2.1, (skipF (r58.2.1, r58.2.2.1, r58.2.2.2.1, r58.2.2.2.2.1, r58.2.2.2.2.2.1, r58.2.2.2.2.2.2.1, r58.2.2.2.2.2.2.2.1 + 1, r58.2.2.2.2.2.2.2.2)).2.2.2.2.2.2.1, (skipF (r58.2.1, r58.2.2.1, r58.2.2.2.1, r58.2.2.2.2.1, r58.2.2.2.2.2.1, r58.2.2.2.2.2.2.1, r58.2.2.2.2.2.2.2.1 + 1, r58.2.2.2.2.2.2.2.2)).2.2.2.2.2.2.2)) (rest := []) ok 0 1 (c_X1_skipBlanks g a (r58.2.1, r58.2.2.1, r58.2.2.2.1, r58.2.2.2.2.1, r58.2.2.2.2.2.1, r58.2.2.2.2.2.2.1, r58.2.2.2.2.2.2.2.1 + 1, r58.2.2.2.2.2.2.2.2) ⟨t1.1, here_eq (tx := r58.2.1) (c := 59) (by decide) h70⟩) 0 twm_X1_46 twi_yX1_skipBlanks twv_yX1_skipBlanks twin_X1 twc_yX1_skipBlanks yok_X1_skipBlanks (by decide) ⟨rfl, rfl⟩ dX1_nextOrder_86 rfl rfl rfl rfl (Nat.le_of_ble_eq_true rfl) ⟨Nat.zero_le _, Nat.zero_le _⟩ [0, 1] rfl rfl (Nat.le_of_ble_eq_true rfl) rfl ?_
        generalize hr86 : skipF (r58.2.1, r58.2.2.1, r58.2.2.2.1, r58.2.2.2.2.1, r58.2.2.2.2.2.1, r58.2.2.2.2.2.2.1, r58.2.2.2.2.2.2.2.1 + 1, r58.2.2.2.2.2.2.2.2) = r86
        refine V_iconst (v := nI 1) ok dX1_nextOrder_89 rfl ?_
        have e90 : endF r58 = (true, skipF (setPl r58.2 (pPl r58.2 + 1))) := by unfold endF; rw [if_pos h61, if_pos h70]
        exact V_zret ok dX1_nextOrder_90 (Nat.zero_le _) (Nat.zero_le _) rfl ⟨bI_t (by rw [hN, hO, e90]), by rw [hN, hO, e90]; exact congrArg (pageW g a) hr86.symm⟩
      · have e74 : endF r58 = (false, r58.2) := by unfold endF; rw [if_pos h61, if_neg h70]
        refine V_iconst (v := nI 0) ok dX1_nextOrder_73 rfl ?_
        exact V_zret ok dX1_nextOrder_74 (Nat.zero_le _) (Nat.zero_le _) rfl ⟨bI_f (by rw [hN, hO, e74]), by rw [hN, hO, e74] <;> rfl⟩
  refine V_aload_n ok dX1_nextOrder_0 rfl 0 rfl ?_
  refine V_cV (v2 := none) (wn := pageW g a ((skipF (P.1, P.2.1, P.2.2.1, P.2.2.2.1, P.2.2.2.2.1, P.2.2.2.2.2.1, P.2.2.2.2.2.2.1, P.2.2.2.2.2.2.2)).1, (skipF (P.1, P.2.1, P.2.2.1, P.2.2.2.1, P.2.2.2.2.1, P.2.2.2.2.2.1, P.2.2.2.2.2.2.1, P.2.2.2.2.2.2.2)).2.1, (skipF (P.1, P.2.1, P.2.2.1, P.2.2.2.1, P.2.2.2.2.1, P.2.2.2.2.2.1, P.2.2.2.2.2.2.1, P.2.2.2.2.2.2.2)).2.2.1, (skipF (P.1, P.2.1, P.2.2.1, P.2.2.2.1, P.2.2.2.2.1, P.2.2.2.2.2.1, P.2.2.2.2.2.2.1, P.2.2.2.2.2.2.2)).2.2.2.1, (skipF (P.1, P.2.1, P.2.2.1, P.2.2.2.1, P.2.2.2.2.1, P.2.2.2.2.2.1, P.2.2.2.2.2.2.1, P.2.2.2.2.2.2.2)).2.2.2.2.1, (skipF (P.1, P.2.1, P.2.2.1, P.2.2.2.1, P.2.2.2.2.1, P.2.2.2.2.2.1, P.2.2.2.2.2.2.1, P.2.2.2.2.2.2.2)).2.2.2.2.2.1, (skipF (P.1, P.2.1, P.2.2.1, P.2.2.2.1, P.2.2.2.2.1, P.2.2.2.2.2.1, P.2.2.2.2.2.2.1, P.2.2.2.2.2.2.2)).2.2.2.2.2.2.1, (skipF (P.1, P.2.1, P.2.2.1, P.2.2.2.1, P.2.2.2.2.1, P.2.2.2.2.2.1, P.2.2.2.2.2.2.1, P.2.2.2.2.2.2.2)).2.2.2.2.2.2.2)) (rest := []) ok 0 1 (c_X1_skipBlanks g a (P.1, P.2.1, P.2.2.1, P.2.2.2.1, P.2.2.2.2.1, P.2.2.2.2.2.1, P.2.2.2.2.2.2.1, P.2.2.2.2.2.2.2) hP) 0 twm_X1_46 twi_yX1_skipBlanks twv_yX1_skipBlanks twin_X1 twc_yX1_skipBlanks yok_X1_skipBlanks (by decide) ⟨rfl, rfl⟩ dX1_nextOrder_1 rfl rfl rfl rfl (Nat.le_of_ble_eq_true rfl) ⟨Nat.zero_le _, Nat.zero_le _⟩ [0, 1] rfl rfl (Nat.le_of_ble_eq_true rfl) rfl ?_
  generalize hr1 : skipF (P.1, P.2.1, P.2.2.1, P.2.2.2.1, P.2.2.2.2.1, P.2.2.2.2.2.1, P.2.2.2.2.2.2.1, P.2.2.2.2.2.2.2) = r1
  have s0 : PG r1 := by rw [← hr1]; exact (PG.skip hP).1
  have hr1 : skipF P = r1 := hr1
  refine V_aload_n ok dX1_nextOrder_4 rfl 0 rfl ?_
  refine V_aload_n ok dX1_nextOrder_5 rfl 0 rfl ?_
  refine V_cV (v2 := some (.int (hereP r1.1 r1.2.1 r1.2.2.2.2.2.2.1))) (wn := pageW g a (r1.1, r1.2.1, r1.2.2.1, r1.2.2.2.1, r1.2.2.2.2.1, r1.2.2.2.2.2.1, r1.2.2.2.2.2.2.1, r1.2.2.2.2.2.2.2)) (rest := [.ref (a 0)]) ok 0 1 (c_X1_byteHere g a (r1.1, r1.2.1, r1.2.2.1, r1.2.2.2.1, r1.2.2.2.2.1, r1.2.2.2.2.2.1, r1.2.2.2.2.2.2.1, r1.2.2.2.2.2.2.2) s0) 0 twm_X1_49 twi_yX1_byteHere twv_yX1_byteHere twin_X1 twc_yX1_byteHere yok_X1_byteHere (by decide) ⟨rfl, rfl⟩ dX1_nextOrder_6 rfl rfl rfl rfl (Nat.le_of_ble_eq_true rfl) ⟨Nat.zero_le _, Nat.zero_le _⟩ [0, 1] rfl rfl (Nat.le_of_ble_eq_true rfl) rfl ?_
  refine V_put (w2 := pageW g a (r1.1, r1.2.1, r1.2.2.1, hereP r1.1 r1.2.1 r1.2.2.2.2.2.2.1, r1.2.2.2.2.1, r1.2.2.2.2.2.1, r1.2.2.2.2.2.2.1, r1.2.2.2.2.2.2.2)) ok 0 3 tw_X1 tyX1 tyX1_ok nmX1 twf_X1_22 rfl rfl (by decide) rfl rfl dX1_nextOrder_9 rfl rfl rfl (Nat.lt_of_lt_of_eq (m := 8) (by decide) rfl) rfl ?_
  refine V_aload_n ok dX1_nextOrder_12 rfl 0 rfl ?_
  refine V_get (v := .int (hereP r1.1 r1.2.1 r1.2.2.2.2.2.2.1)) ok 0 3 tw_X1 twf_X1_22 rfl rfl (by decide) dX1_nextOrder_13 rfl rfl ?_
  refine V_bipush (v := nI 119) ok dX1_nextOrder_16 rfl ?_
  refine V_icmp_eq (tgt := 43) ok dX1_nextOrder_18 (by decide) (fun h18 => ?_) (fun h18 => ?_)
  · have eL : letB (pHere r1) = true := by unfold letB; rw [if_pos h18]
    exact K (setLet r1 (pHere r1)) ⟨s0.1, letB_in eL⟩ (by unfold nextOrderF nxtF; rw [hr1, if_pos eL])
  · refine V_aload_n ok dX1_nextOrder_21 rfl 0 rfl ?_
    refine V_get (v := .int (hereP r1.1 r1.2.1 r1.2.2.2.2.2.2.1)) ok 0 3 tw_X1 twf_X1_22 rfl rfl (by decide) dX1_nextOrder_22 rfl rfl ?_
    refine V_bipush (v := nI 115) ok dX1_nextOrder_25 rfl ?_
    refine V_icmp_eq (tgt := 43) ok dX1_nextOrder_27 (by decide) (fun h27 => ?_) (fun h27 => ?_)
    · have eL : letB (pHere r1) = true := by unfold letB; rw [if_neg h18, if_pos h27]
      exact K (setLet r1 (pHere r1)) ⟨s0.1, letB_in eL⟩ (by unfold nextOrderF nxtF; rw [hr1, if_pos eL])
    · refine V_aload_n ok dX1_nextOrder_30 rfl 0 rfl ?_
      refine V_get (v := .int (hereP r1.1 r1.2.1 r1.2.2.2.2.2.2.1)) ok 0 3 tw_X1 twf_X1_22 rfl rfl (by decide) dX1_nextOrder_31 rfl rfl ?_
      refine V_cS (v2 := some (.int (valN (hereP r1.1 r1.2.1 r1.2.2.2.2.2.2.1)))) (wn := pageW g a (r1.1, r1.2.1, r1.2.2.1, hereP r1.1 r1.2.1 r1.2.2.2.2.2.2.1, r1.2.2.2.2.1, r1.2.2.2.2.2.1, r1.2.2.2.2.2.2.1, r1.2.2.2.2.2.2.2)) (rest := []) ok (c_X1_valueNamed g (hereP r1.1 r1.2.1 r1.2.2.2.2.2.2.1)) 1 twm_X1_53 tws_yX1_valueNamed twin_X1 twc_yX1_valueNamed yok_X1_valueNamed (by decide) ⟨rfl, rfl⟩ dX1_nextOrder_34 rfl rfl (Nat.le_of_ble_eq_true rfl) ⟨Nat.zero_le _, Nat.zero_le _⟩ [] rfl rfl (Nat.le_of_ble_eq_true rfl) rfl ?_
      refine V_iconst (v := (-1)) ok dX1_nextOrder_37 rfl ?_
      refine V_icmp_ne (tgt := 43) ok dX1_nextOrder_38 (by decide) (fun h38 => ?_) (fun h38 => ?_)
      · have eL : letB (pHere r1) = true := by unfold letB; rw [if_neg h18, if_neg h27, if_neg h38]
        exact K (setLet r1 (pHere r1)) ⟨s0.1, letB_in eL⟩ (by unfold nextOrderF nxtF; rw [hr1, if_pos eL])
      · have eN0 : nextOrderF P = (false, setLet r1 (pHere r1)) := by unfold nextOrderF nxtF; rw [hr1, if_neg]; rw [show letB (pHere r1) = false by unfold letB; rw [if_neg h18, if_neg h27, if_pos h38]]; decide
        refine V_iconst (v := nI 0) ok dX1_nextOrder_41 rfl ?_
        exact V_zret ok dX1_nextOrder_42 (Nat.zero_le _) (Nat.zero_le _) rfl ⟨bI_f (by rw [eN0]), by rw [eN0] <;> rfl⟩
set_option maxHeartbeats 4000000 in
set_option maxRecDepth 100000 in
theorem c_X1_findFault (g : Glob) (a : Nat → Nat) (P : PageSt) (hP : P.2.1 ≤ 100) : Con g yX1_findFault cX1_findFault 1 (some .int) ({ frames := 4, cells := 0, slots := 0, locals := 82 } : Room) [.ref (a 0)] (pageW g a P) (Is (some (.int (findFaultF P).1)) (pageW g a (findFaultF P).2)) := by
  refine con_of_V ypl_X1_findFault (Nat.le_of_ble_eq_true rfl) [(0, .ref (a 0))] rfl (fun Γ ok => ?_)
  have HL : ∀ (f : Nat) (Q : PageSt), PG Q → f + Q.2.2.1 = 100 → faultN f Q = findFaultF P → V g Γ 1 0 0 9 (pageW g a (Q.1, Q.2.1, Q.2.2.1, Q.2.2.2.1, Q.2.2.2.2.1, Q.2.2.2.2.2.1, Q.2.2.2.2.2.2.1, Q.2.2.2.2.2.2.2)) [(0, .ref (a 0))] [] := by
    intro f
    induction f using Nat.strongRecOn with
    | ind f ih =>
    cases f with
    | zero =>
      intro Q hQ hf hff
      have hQ1 : Q.2.1 ≤ 100 := hQ.1
      have hQ2 : Q.2.2.2.2.2.2.1 ≤ Q.2.1 := hQ.2
      refine V_aload_n ok dX1_findFault_9 rfl 0 rfl ?_
      refine V_get (v := .int (nI Q.2.2.1)) ok 0 2 tw_X1 twf_X1_19 rfl rfl (by decide) dX1_findFault_10 rfl rfl ?_
      refine V_bipush (v := nI 100) ok dX1_findFault_13 rfl ?_
      refine V_icmpN_ge (tgt := 63) ok dX1_findFault_15 (by decide) (by omega) (by omega) (fun h15 => ?_) (fun h15 => absurd (by omega) h15)
      refine V_iconst (v := (-1)) ok dX1_findFault_63 rfl ?_
      exact V_iret ok dX1_findFault_64 (Nat.zero_le _) (Nat.zero_le _) ⟨by rw [← hff]; rfl, by rw [← hff] <;> rfl⟩
    | succ f =>
      intro Q hQ hf hff
      have hQ1 : Q.2.1 ≤ 100 := hQ.1
      have hQ2 : Q.2.2.2.2.2.2.1 ≤ Q.2.1 := hQ.2
      refine V_aload_n ok dX1_findFault_9 rfl 0 rfl ?_
      refine V_get (v := .int (nI Q.2.2.1)) ok 0 2 tw_X1 twf_X1_19 rfl rfl (by decide) dX1_findFault_10 rfl rfl ?_
      refine V_bipush (v := nI 100) ok dX1_findFault_13 rfl ?_
      refine V_icmpN_ge (tgt := 63) ok dX1_findFault_15 (by decide) (by omega) (by omega) (fun h15 => absurd h15 (by omega)) (fun h15 => ?_)
      refine V_aload_n ok dX1_findFault_18 rfl 0 rfl ?_
      refine V_get (v := .int (nI Q.2.2.1)) ok 0 2 tw_X1 twf_X1_19 rfl rfl (by decide) dX1_findFault_19 rfl rfl ?_
      refine V_ifN_le (tgt := 38) ok dX1_findFault_22 (by decide) (by omega) (fun h22 => ?_) (fun h22 => ?_)
      · have hno : ∀ {α : Type} (x z : α), (if ¬ pOrd Q = 0 ∧ pLen Q ≤ pPl Q then x else z) = z := fun x z => if_neg (fun q => q.1 h22)
        refine V_aload_n ok dX1_findFault_38 rfl 0 rfl ?_
        refine V_cV (v2 := some (.int (bI ((nextOrderF (Q.1, Q.2.1, Q.2.2.1, Q.2.2.2.1, Q.2.2.2.2.1, Q.2.2.2.2.2.1, Q.2.2.2.2.2.2.1, Q.2.2.2.2.2.2.2)).1)))) (wn := pageW g a ((nextOrderF (Q.1, Q.2.1, Q.2.2.1, Q.2.2.2.1, Q.2.2.2.2.1, Q.2.2.2.2.2.1, Q.2.2.2.2.2.2.1, Q.2.2.2.2.2.2.2)).2.1, (nextOrderF (Q.1, Q.2.1, Q.2.2.1, Q.2.2.2.1, Q.2.2.2.2.1, Q.2.2.2.2.2.1, Q.2.2.2.2.2.2.1, Q.2.2.2.2.2.2.2)).2.2.1, (nextOrderF (Q.1, Q.2.1, Q.2.2.1, Q.2.2.2.1, Q.2.2.2.2.1, Q.2.2.2.2.2.1, Q.2.2.2.2.2.2.1, Q.2.2.2.2.2.2.2)).2.2.2.1, (nextOrderF (Q.1, Q.2.1, Q.2.2.1, Q.2.2.2.1, Q.2.2.2.2.1, Q.2.2.2.2.2.1, Q.2.2.2.2.2.2.1, Q.2.2.2.2.2.2.2)).2.2.2.2.1, (nextOrderF (Q.1, Q.2.1, Q.2.2.1, Q.2.2.2.1, Q.2.2.2.2.1, Q.2.2.2.2.2.1, Q.2.2.2.2.2.2.1, Q.2.2.2.2.2.2.2)).2.2.2.2.2.1, (nextOrderF (Q.1, Q.2.1, Q.2.2.1, Q.2.2.2.1, Q.2.2.2.2.1, Q.2.2.2.2.2.1, Q.2.2.2.2.2.2.1, Q.2.2.2.2.2.2.2)).2.2.2.2.2.2.1, (nextOrderF (Q.1, Q.2.1, Q.2.2.1, Q.2.2.2.1, Q.2.2.2.2.1, Q.2.2.2.2.2.1, Q.2.2.2.2.2.2.1, Q.2.2.2.2.2.2.2)).2.2.2.2.2.2.2.1, (nextOrderF (Q.1, Q.2.1, Q.2.2.1, Q.2.2.2.1, Q.2.2.2.2.1, Q.2.2.2.2.2.1, Q.2.2.2.2.2.2.1, Q.2.2.2.2.2.2.2)).2.2.2.2.2.2.2.2)) (rest := []) ok 0 1 (c_X1_nextOrder g a (Q.1, Q.2.1, Q.2.2.1, Q.2.2.2.1, Q.2.2.2.2.1, Q.2.2.2.2.2.1, Q.2.2.2.2.2.2.1, Q.2.2.2.2.2.2.2) hQ) 0 twm_X1_42 twi_yX1_nextOrder twv_yX1_nextOrder twin_X1 twc_yX1_nextOrder yok_X1_nextOrder (by decide) ⟨rfl, rfl⟩ dX1_findFault_39 rfl rfl rfl rfl (Nat.le_of_ble_eq_true rfl) ⟨Nat.zero_le _, Nat.zero_le _⟩ [0, 1] rfl rfl (Nat.le_of_ble_eq_true rfl) rfl ?_
        generalize hr39 : nextOrderF (Q.1, Q.2.1, Q.2.2.1, Q.2.2.2.1, Q.2.2.2.2.1, Q.2.2.2.2.2.1, Q.2.2.2.2.2.2.1, Q.2.2.2.2.2.2.2) = r39
        refine V_ifB_ne (tgt := 50) ok dX1_findFault_42 (by decide) (fun h42 => ?_) (fun h42 => ?_)
        · refine V_aload_n ok dX1_findFault_50 rfl 0 rfl ?_
          refine V_dup ok dX1_findFault_51 rfl ?_
          refine V_get (v := .int (nI r39.2.2.2.1)) ok 0 2 tw_X1 twf_X1_19 rfl rfl (by decide) dX1_findFault_52 rfl rfl ?_
          refine V_iconst (v := nI 1) ok dX1_findFault_55 rfl ?_
          refine V_iaddN (a := r39.2.2.2.1) (b := 1) (c := r39.2.2.2.1 + 1) ok dX1_findFault_56 (by first | rfl | omega) ?_
          refine V_put (w2 := pageW g a (r39.2.1, r39.2.2.1, r39.2.2.2.1 + 1, r39.2.2.2.2.1, r39.2.2.2.2.2.1, r39.2.2.2.2.2.2.1, r39.2.2.2.2.2.2.2.1, r39.2.2.2.2.2.2.2.2)) ok 0 2 tw_X1 tyX1 tyX1_ok nmX1 twf_X1_19 rfl rfl (by decide) rfl rfl dX1_findFault_57 rfl rfl rfl (Nat.lt_of_lt_of_eq (m := 8) (by decide) rfl) rfl ?_
          refine V_goto (tgt := 9) ok dX1_findFault_60 (by decide) ?_
          have n2 := PG.next hQ
          rw [hr39] at n2
          exact ih f (Nat.lt_succ_self f) (setOrd r39.2 (pOrd r39.2 + 1)) n2.1 (by have e : r39.2.2.2.1 = Q.2.2.1 := n2.2.1.2.2; show f + (r39.2.2.2.1 + 1) = 100; omega) (by rw [← hff]; simp only [faultN]; rw [hno, if_pos (show (nextOrderF Q).1 = true by rw [show nextOrderF Q = r39 from hr39]; exact h42), show nextOrderF Q = r39 from hr39])
        · refine V_aload_n ok dX1_findFault_45 rfl 0 rfl ?_
          refine V_get (v := .int (nI r39.2.2.2.2.2.2.2.1)) ok 0 6 tw_X1 twf_X1_31 rfl rfl (by decide) dX1_findFault_46 rfl rfl ?_
          have e49 : faultN (f + 1) Q = (nI (pPl r39.2), r39.2) := by simp only [faultN]; rw [hno, if_neg (show ¬ (nextOrderF Q).1 = true by rw [show nextOrderF Q = r39 from hr39]; exact h42), show nextOrderF Q = r39 from hr39]
          exact V_iret ok dX1_findFault_49 (Nat.zero_le _) (Nat.zero_le _) ⟨by rw [← hff, e49], by rw [← hff, e49] <;> rfl⟩
      · refine V_aload_n ok dX1_findFault_25 rfl 0 rfl ?_
        refine V_get (v := .int (nI Q.2.2.2.2.2.2.1)) ok 0 6 tw_X1 twf_X1_31 rfl rfl (by decide) dX1_findFault_26 rfl rfl ?_
        refine V_aload_n ok dX1_findFault_29 rfl 0 rfl ?_
        refine V_get (v := .int (nI Q.2.1)) ok 0 1 tw_X1 twf_X1_15 rfl rfl (by decide) dX1_findFault_30 rfl rfl ?_
        refine V_icmpN_lt (tgt := 38) ok dX1_findFault_33 (by decide) (by omega) (by omega) (fun h33 => ?_) (fun h33 => ?_)
        · have hno : ∀ {α : Type} (x z : α), (if ¬ pOrd Q = 0 ∧ pLen Q ≤ pPl Q then x else z) = z := fun x z => if_neg (fun q => absurd q.2 (show ¬ Q.2.1 ≤ Q.2.2.2.2.2.2.1 by omega))
          refine V_aload_n ok dX1_findFault_38 rfl 0 rfl ?_
          refine V_cV (v2 := some (.int (bI ((nextOrderF (Q.1, Q.2.1, Q.2.2.1, Q.2.2.2.1, Q.2.2.2.2.1, Q.2.2.2.2.2.1, Q.2.2.2.2.2.2.1, Q.2.2.2.2.2.2.2)).1)))) (wn := pageW g a ((nextOrderF (Q.1, Q.2.1, Q.2.2.1, Q.2.2.2.1, Q.2.2.2.2.1, Q.2.2.2.2.2.1, Q.2.2.2.2.2.2.1, Q.2.2.2.2.2.2.2)).2.1, (nextOrderF (Q.1, Q.2.1, Q.2.2.1, Q.2.2.2.1, Q.2.2.2.2.1, Q.2.2.2.2.2.1, Q.2.2.2.2.2.2.1, Q.2.2.2.2.2.2.2)).2.2.1, (nextOrderF (Q.1, Q.2.1, Q.2.2.1, Q.2.2.2.1, Q.2.2.2.2.1, Q.2.2.2.2.2.1, Q.2.2.2.2.2.2.1, Q.2.2.2.2.2.2.2)).2.2.2.1, (nextOrderF (Q.1, Q.2.1, Q.2.2.1, Q.2.2.2.1, Q.2.2.2.2.1, Q.2.2.2.2.2.1, Q.2.2.2.2.2.2.1, Q.2.2.2.2.2.2.2)).2.2.2.2.1, (nextOrderF (Q.1, Q.2.1, Q.2.2.1, Q.2.2.2.1, Q.2.2.2.2.1, Q.2.2.2.2.2.1, Q.2.2.2.2.2.2.1, Q.2.2.2.2.2.2.2)).2.2.2.2.2.1, (nextOrderF (Q.1, Q.2.1, Q.2.2.1, Q.2.2.2.1, Q.2.2.2.2.1, Q.2.2.2.2.2.1, Q.2.2.2.2.2.2.1, Q.2.2.2.2.2.2.2)).2.2.2.2.2.2.1, (nextOrderF (Q.1, Q.2.1, Q.2.2.1, Q.2.2.2.1, Q.2.2.2.2.1, Q.2.2.2.2.2.1, Q.2.2.2.2.2.2.1, Q.2.2.2.2.2.2.2)).2.2.2.2.2.2.2.1, (nextOrderF (Q.1, Q.2.1, Q.2.2.1, Q.2.2.2.1, Q.2.2.2.2.1, Q.2.2.2.2.2.1, Q.2.2.2.2.2.2.1, Q.2.2.2.2.2.2.2)).2.2.2.2.2.2.2.2)) (rest := []) ok 0 1 (c_X1_nextOrder g a (Q.1, Q.2.1, Q.2.2.1, Q.2.2.2.1, Q.2.2.2.2.1, Q.2.2.2.2.2.1, Q.2.2.2.2.2.2.1, Q.2.2.2.2.2.2.2) hQ) 0 twm_X1_42 twi_yX1_nextOrder twv_yX1_nextOrder twin_X1 twc_yX1_nextOrder yok_X1_nextOrder (by decide) ⟨rfl, rfl⟩ dX1_findFault_39 rfl rfl rfl rfl (Nat.le_of_ble_eq_true rfl) ⟨Nat.zero_le _, Nat.zero_le _⟩ [0, 1] rfl rfl (Nat.le_of_ble_eq_true rfl) rfl ?_
          generalize hr39 : nextOrderF (Q.1, Q.2.1, Q.2.2.1, Q.2.2.2.1, Q.2.2.2.2.1, Q.2.2.2.2.2.1, Q.2.2.2.2.2.2.1, Q.2.2.2.2.2.2.2) = r39
          refine V_ifB_ne (tgt := 50) ok dX1_findFault_42 (by decide) (fun h42 => ?_) (fun h42 => ?_)
          · refine V_aload_n ok dX1_findFault_50 rfl 0 rfl ?_
            refine V_dup ok dX1_findFault_51 rfl ?_
            refine V_get (v := .int (nI r39.2.2.2.1)) ok 0 2 tw_X1 twf_X1_19 rfl rfl (by decide) dX1_findFault_52 rfl rfl ?_
            refine V_iconst (v := nI 1) ok dX1_findFault_55 rfl ?_
            refine V_iaddN (a := r39.2.2.2.1) (b := 1) (c := r39.2.2.2.1 + 1) ok dX1_findFault_56 (by first | rfl | omega) ?_
            refine V_put (w2 := pageW g a (r39.2.1, r39.2.2.1, r39.2.2.2.1 + 1, r39.2.2.2.2.1, r39.2.2.2.2.2.1, r39.2.2.2.2.2.2.1, r39.2.2.2.2.2.2.2.1, r39.2.2.2.2.2.2.2.2)) ok 0 2 tw_X1 tyX1 tyX1_ok nmX1 twf_X1_19 rfl rfl (by decide) rfl rfl dX1_findFault_57 rfl rfl rfl (Nat.lt_of_lt_of_eq (m := 8) (by decide) rfl) rfl ?_
            refine V_goto (tgt := 9) ok dX1_findFault_60 (by decide) ?_
            have n2 := PG.next hQ
            rw [hr39] at n2
            exact ih f (Nat.lt_succ_self f) (setOrd r39.2 (pOrd r39.2 + 1)) n2.1 (by have e : r39.2.2.2.1 = Q.2.2.1 := n2.2.1.2.2; show f + (r39.2.2.2.1 + 1) = 100; omega) (by rw [← hff]; simp only [faultN]; rw [hno, if_pos (show (nextOrderF Q).1 = true by rw [show nextOrderF Q = r39 from hr39]; exact h42), show nextOrderF Q = r39 from hr39])
          · refine V_aload_n ok dX1_findFault_45 rfl 0 rfl ?_
            refine V_get (v := .int (nI r39.2.2.2.2.2.2.2.1)) ok 0 6 tw_X1 twf_X1_31 rfl rfl (by decide) dX1_findFault_46 rfl rfl ?_
            have e49 : faultN (f + 1) Q = (nI (pPl r39.2), r39.2) := by simp only [faultN]; rw [hno, if_neg (show ¬ (nextOrderF Q).1 = true by rw [show nextOrderF Q = r39 from hr39]; exact h42), show nextOrderF Q = r39 from hr39]
            exact V_iret ok dX1_findFault_49 (Nat.zero_le _) (Nat.zero_le _) ⟨by rw [← hff, e49], by rw [← hff, e49] <;> rfl⟩
        · refine V_iconst (v := (-1)) ok dX1_findFault_36 rfl ?_
          exact V_iret ok dX1_findFault_37 (Nat.zero_le _) (Nat.zero_le _) ⟨by rw [← hff]; simp only [faultN]; rw [if_pos ⟨h22, (show Q.2.1 ≤ Q.2.2.2.2.2.2.1 by omega)⟩], by rw [← hff]; simp only [faultN]; rw [if_pos ⟨h22, (show Q.2.1 ≤ Q.2.2.2.2.2.2.1 by omega)⟩] <;> rfl⟩
  refine V_aload_n ok dX1_findFault_0 rfl 0 rfl ?_
  refine V_cV (v2 := none) (wn := pageW g a (P.1, P.2.1, P.2.2.1, P.2.2.2.1, P.2.2.2.2.1, P.2.2.2.2.2.1, 0, P.2.2.2.2.2.2.2)) (rest := []) ok 0 1 (c_X1_rewind g a (P.1, P.2.1, P.2.2.1, P.2.2.2.1, P.2.2.2.2.1, P.2.2.2.2.2.1, P.2.2.2.2.2.2.1, P.2.2.2.2.2.2.2)) 0 twm_X1_39 twi_yX1_rewind twv_yX1_rewind twin_X1 twc_yX1_rewind yok_X1_rewind (by decide) ⟨rfl, rfl⟩ dX1_findFault_1 rfl rfl rfl rfl (Nat.le_of_ble_eq_true rfl) ⟨Nat.zero_le _, Nat.zero_le _⟩ [0, 1] rfl rfl (Nat.le_of_ble_eq_true rfl) rfl ?_
  refine V_aload_n ok dX1_findFault_4 rfl 0 rfl ?_
  refine V_iconst (v := nI 0) ok dX1_findFault_5 rfl ?_
  refine V_put (w2 := pageW g a (P.1, P.2.1, 0, P.2.2.2.1, P.2.2.2.2.1, P.2.2.2.2.2.1, 0, P.2.2.2.2.2.2.2)) ok 0 2 tw_X1 tyX1 tyX1_ok nmX1 twf_X1_19 rfl rfl (by decide) rfl rfl dX1_findFault_6 rfl rfl rfl (Nat.lt_of_lt_of_eq (m := 8) (by decide) rfl) rfl ?_
  exact HL 100 (setOrd (setPl P 0) 0) ⟨hP, Nat.zero_le _⟩ rfl rfl
