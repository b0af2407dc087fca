theorem sp_of {s : State} {b : Nat} (hts : ∀ w ∈ lw_tbl, w.before #[Value.ref b] s = true) (hgv : (Jvm.Cond.and given_1 narrow_1).before #[Value.ref b] s = true) : SP (fun q => s.heap.size ≤ q) s s.heap := by
  have hs := flat_of_before _ hgv
  have hA : ∀ a : Nat, a < s.heap.size → ¬ s.heap.size ≤ a := fun a h => Nat.not_le.mpr h
  obtain ⟨a1, e1, x1, z1⟩ := stX (L := 8) (f := sLO) (tm := (.static "SurgeLine$Line" "LEAST_OF" "[I")) (by decide) (hs _ (by decide +kernel)) (va_eqt (z := nI 8) (hs _ (by decide +kernel)))
    (fun j hj => by
      rcases (show j = 0 ∨ j = 1 ∨ j = 2 ∨ j = 3 ∨ j = 4 ∨ j = 5 ∨ j = 6 ∨ j = 7 by omega) with rfl | rfl | rfl | rfl | rfl | rfl | rfl | rfl
      · exact va_eqt (t := .elem (.static "SurgeLine$Line" "LEAST_OF" "[I") (.int (nI 0))) (z := sLO 0) (hs _ (by decide +kernel))
      · exact va_eqt (t := .elem (.static "SurgeLine$Line" "LEAST_OF" "[I") (.int (nI 1))) (z := sLO 1) (hs _ (by decide +kernel))
      · exact va_eqt (t := .elem (.static "SurgeLine$Line" "LEAST_OF" "[I") (.int (nI 2))) (z := sLO 2) (hs _ (by decide +kernel))
      · exact va_eqt (t := .elem (.static "SurgeLine$Line" "LEAST_OF" "[I") (.int (nI 3))) (z := sLO 3) (hs _ (by decide +kernel))
      · exact va_eqt (t := .elem (.static "SurgeLine$Line" "LEAST_OF" "[I") (.int (nI 4))) (z := sLO 4) (hs _ (by decide +kernel))
      · exact va_eqt (t := .elem (.static "SurgeLine$Line" "LEAST_OF" "[I") (.int (nI 5))) (z := sLO 5) (hs _ (by decide +kernel))
      · exact va_eqt (t := .elem (.static "SurgeLine$Line" "LEAST_OF" "[I") (.int (nI 6))) (z := sLO 6) (hs _ (by decide +kernel))
      · exact va_eqt (t := .elem (.static "SurgeLine$Line" "LEAST_OF" "[I") (.int (nI 7))) (z := sLO 7) (hs _ (by decide +kernel))
      )
  obtain ⟨a2, e2, x2, z2⟩ := stX (L := 8) (f := sHI) (tm := (.static "SurgeLine$Line" "MOST_OF" "[I")) (by decide) (hs _ (by decide +kernel)) (va_eqt (z := nI 8) (hs _ (by decide +kernel)))
    (fun j hj => by
      rcases (show j = 0 ∨ j = 1 ∨ j = 2 ∨ j = 3 ∨ j = 4 ∨ j = 5 ∨ j = 6 ∨ j = 7 by omega) with rfl | rfl | rfl | rfl | rfl | rfl | rfl | rfl
      · exact va_eqt (t := .elem (.static "SurgeLine$Line" "MOST_OF" "[I") (.int (nI 0))) (z := sHI 0) (hs _ (by decide +kernel))
      · exact va_eqt (t := .elem (.static "SurgeLine$Line" "MOST_OF" "[I") (.int (nI 1))) (z := sHI 1) (hs _ (by decide +kernel))
      · exact va_eqt (t := .elem (.static "SurgeLine$Line" "MOST_OF" "[I") (.int (nI 2))) (z := sHI 2) (hs _ (by decide +kernel))
      · exact va_eqt (t := .elem (.static "SurgeLine$Line" "MOST_OF" "[I") (.int (nI 3))) (z := sHI 3) (hs _ (by decide +kernel))
      · exact va_eqt (t := .elem (.static "SurgeLine$Line" "MOST_OF" "[I") (.int (nI 4))) (z := sHI 4) (hs _ (by decide +kernel))
      · exact va_eqt (t := .elem (.static "SurgeLine$Line" "MOST_OF" "[I") (.int (nI 5))) (z := sHI 5) (hs _ (by decide +kernel))
      · exact va_eqt (t := .elem (.static "SurgeLine$Line" "MOST_OF" "[I") (.int (nI 6))) (z := sHI 6) (hs _ (by decide +kernel))
      · exact va_eqt (t := .elem (.static "SurgeLine$Line" "MOST_OF" "[I") (.int (nI 7))) (z := sHI 7) (hs _ (by decide +kernel))
      )
  exact ⟨va_AO.of (hts _ twao_Line), a1, a2, va_Zof (hts _ twls_LEAST_OF) (hts _ (tw_tbl twin_X0)) e1 hA, va_Zof (hts _ twls_MOST_OF) (hts _ (tw_tbl twin_X0)) e2 hA, x1, x2, hA a1 z1, hA a2 z2, z1, z2⟩
set_option maxHeartbeats 4000000 in
set_option maxRecDepth 100000 in
theorem law_start {g : Glob} {Γ : Ctx} {nm : String} (ok : OK g Γ ⟨RL, nm, ""⟩ cL_law 4 (some .boolean) room_1 (fun r _ => r = some (.int 1))) {sc L : Nat} {xs : Nat → Int32} (s_X : va_X sc L xs (kS Γ) (kS Γ).heap) (s_A : ¬ kO Γ sc) (s_z : sc < (kS Γ).heap.size) (hL : L ≤ 2048) : V g Γ 4 0 0 0 [] [(0, .ref sc)] [] := by
  refine V_new (ci := 2) (fs := [.null, .null, .null, .int (nI 0), .int (nI 0), .null, .null]) ok tw_X2 tyX2 tyX2_ok twcl_L_7 twia_X2 twin_X2 rfl (fun j hj => by rcases (show j = 0 ∨ j = 1 ∨ j = 2 ∨ j = 3 ∨ j = 4 ∨ j = 5 ∨ j = 6 by omega) with rfl | rfl | rfl | rfl | rfl | rfl | rfl <;> rfl) (by decide) (by decide) dL_law_0 (fun o1 => ?_)
  refine V_dup ok dL_law_3 rfl ?_
  refine V_callI (rest := [.ref o1]) ok (c_X2_init g o1) 0 twm_L_9 twi_yX2_init twin_X2 twc_yX2_init rfl yok_X2_init (by decide) dL_law_4 rfl rfl (Nat.le_of_ble_eq_true rfl) ⟨by decide, by decide⟩ [0] rfl rfl (fun _ w hh => by obtain ⟨_, c, _, rfl⟩ := hh; exact Nat.le_of_ble_eq_true rfl) (fun v w hh => ?_)
  obtain ⟨rfl, a, ha, rfl⟩ := hh
  subst ha
  refine V_ws (w2 := surgeW g a ln0 ln0 (fun _ => ln0) 0 0 (fun _ => 0) pg0) rfl ?_
  refine V_astore_n (lv2 := [(1, .ref (a 0)), (0, .ref sc)]) ok dL_law_7 rfl (by decide) rfl ?_
  refine V_new (ci := 3) (fs := [.null, .null, .null, .null, .null, .null, .null, .int (nI 0), .null, .null, .int (nI 0), .int (nI 0), .int (nI 0), .null, .null, .long 0]) ok tw_X3 tyX3 tyX3_ok twcl_L_10 twia_X3 twin_X3 rfl (fun j hj => by rcases (show j = 0 ∨ j = 1 ∨ j = 2 ∨ j = 3 ∨ j = 4 ∨ j = 5 ∨ j = 6 ∨ j = 7 ∨ j = 8 ∨ j = 9 ∨ j = 10 ∨ j = 11 ∨ j = 12 ∨ j = 13 ∨ j = 14 ∨ j = 15 by omega) with rfl | rfl | rfl | rfl | rfl | rfl | rfl | rfl | rfl | rfl | rfl | rfl | rfl | rfl | rfl | rfl <;> rfl) (by decide) (by decide) dL_law_8 (fun o2 => ?_)
  refine V_dup ok dL_law_11 rfl ?_
  refine V_callI (rest := [.ref o2]) ok (c_X3_init g o2) 0 twm_L_12 twi_yX3_init twin_X3 twc_yX3_init rfl yok_X3_init (by decide) dL_law_12 rfl rfl (Nat.le_of_ble_eq_true rfl) ⟨by decide, by decide⟩ [41] rfl rfl (fun _ w hh => by obtain ⟨_, c, _, wv, _, rfl⟩ := hh; exact Nat.le_of_ble_eq_true rfl) (fun v w hh => ?_)
  obtain ⟨rfl, b, hb, wv, hwv, rfl⟩ := hh
  subst hb
  refine V_ws (w2 := surgeW g a ln0 ln0 (fun _ => ln0) 0 0 (fun _ => 0) pg0 ++ modelW g b ln0.1 wv (fun _ => 0) (fun _ => 0) (fun _ => 0) (fun _ => 0) (fun _ => 0) 0 (fun _ => 0) (fun _ => 0) 0 0 0 (fun _ => 0) (fun _ => 0) 0) rfl ?_
  refine V_astore_n (lv2 := [(2, .ref (b 0)), (1, .ref (a 0)), (0, .ref sc)]) ok dL_law_15 rfl (by decide) rfl ?_
  refine V_iconst (v := nI 0) ok dL_law_16 rfl ?_
  refine V_istore_n (lv2 := [(3, .int (nI 0)), (2, .ref (b 0)), (1, .ref (a 0)), (0, .ref sc)]) ok dL_law_17 rfl (by decide) rfl ?_
  exact law_loop ok s_X s_A s_z hL L 0 ln0 ln0 (fun _ => ln0) 0 0 (fun _ => 0) pg0 wv (fun _ => 0) (fun _ => 0) (fun _ => 0) (fun _ => 0) (fun _ => 0) 0 0 (fun _ => 0) (fun _ => 0) 0 (Nat.zero_le _) rfl ⟨ln0_ok, hwv, fun j hj => absurd hj (Nat.not_lt_zero _), fun _ _ => ln0_ok, by decide, by decide, Nat.zero_le _, rfl, rfl, fun p hp => absurd hp (Nat.not_lt_zero _)⟩
