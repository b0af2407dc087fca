theorem valN_no {c : Int32} (h : ¬ (nI 97 ≤ c ∧ c ≤ nI 114)) : valN c = -1 := by
  have key : ∀ k : Nat, 97 ≤ k → k ≤ 114 → ¬ c = nI k := fun k h1 h2 e => h (by rw [e]; exact ⟨nI_le h1 (by omega), nI_le h2 (by omega)⟩)
  unfold valN
  rw [if_neg (key 112 (by decide) (by decide)), if_neg (key 104 (by decide) (by decide)), if_neg (key 113 (by decide) (by decide)), if_neg (key 97 (by decide) (by decide)), if_neg (key 108 (by decide) (by decide)), if_neg (key 114 (by decide) (by decide))]
set_option maxHeartbeats 4000000 in
set_option maxRecDepth 100000 in
theorem c_X1_valueNamed (g : Glob) (c : Int32) : Con g yX1_valueNamed cX1_valueNamed 1 (some .int) ({ frames := 0, cells := 0, slots := 0, locals := 0 } : Room) [.int c] ([]) (Is (some (.int (valN c))) []) := by
  refine con_of_V ypl_X1_valueNamed (Nat.le_of_ble_eq_true rfl) [(0, .int c)] rfl (fun Γ ok => ?_)
  by_cases hc : (nI 97 ≤ c ∧ c ≤ nI 114)
  · obtain ⟨j, hj, rfl⟩ : ∃ j, j < 18 ∧ c = nI (97 + j) := by
      have h0 : 97 ≤ c.toInt := by have := Int32.le_iff_toInt_le.mp hc.1; rw [nI_toInt (by decide)] at this; exact this
      have h1 : c.toInt ≤ 114 := by have := Int32.le_iff_toInt_le.mp hc.2; rw [nI_toInt (by decide)] at this; exact this
      refine ⟨(c.toInt - 97).toNat, by omega, Int32.toInt_inj.mp ?_⟩
      rw [nI_toInt (by omega)]; omega
    rcases (show j = 0 ∨ j = 1 ∨ j = 2 ∨ j = 3 ∨ j = 4 ∨ j = 5 ∨ j = 6 ∨ j = 7 ∨ j = 8 ∨ j = 9 ∨ j = 10 ∨ j = 11 ∨ j = 12 ∨ j = 13 ∨ j = 14 ∨ j = 15 ∨ j = 16 ∨ j = 17 by omega) with rfl | rfl | rfl | rfl | rfl | rfl | rfl | rfl | rfl | rfl | rfl | rfl | rfl | rfl | rfl | rfl | rfl | rfl
    · refine V_iload_n ok dX1_valueNamed_0 rfl 0 rfl ?_
      refine V_tabIn (off := 93) (tgt := 94) ok dX1_valueNamed_1 (by decide) (by decide) rfl (by decide) ?_
      refine V_iconst (v := nI 3) ok dX1_valueNamed_94 rfl ?_
      exact V_iret ok dX1_valueNamed_95 (Nat.zero_le _) (Nat.zero_le _) ⟨rfl, rfl⟩
    · refine V_iload_n ok dX1_valueNamed_0 rfl 0 rfl ?_
      refine V_tabIn (off := 99) (tgt := 100) ok dX1_valueNamed_1 (by decide) (by decide) rfl (by decide) ?_
      refine V_iconst (v := (-1)) ok dX1_valueNamed_100 rfl ?_
      exact V_iret ok dX1_valueNamed_101 (Nat.zero_le _) (Nat.zero_le _) ⟨rfl, rfl⟩
    · refine V_iload_n ok dX1_valueNamed_0 rfl 0 rfl ?_
      refine V_tabIn (off := 99) (tgt := 100) ok dX1_valueNamed_1 (by decide) (by decide) rfl (by decide) ?_
      refine V_iconst (v := (-1)) ok dX1_valueNamed_100 rfl ?_
      exact V_iret ok dX1_valueNamed_101 (Nat.zero_le _) (Nat.zero_le _) ⟨rfl, rfl⟩
    · refine V_iload_n ok dX1_valueNamed_0 rfl 0 rfl ?_
      refine V_tabIn (off := 99) (tgt := 100) ok dX1_valueNamed_1 (by decide) (by decide) rfl (by decide) ?_
      refine V_iconst (v := (-1)) ok dX1_valueNamed_100 rfl ?_
      exact V_iret ok dX1_valueNamed_101 (Nat.zero_le _) (Nat.zero_le _) ⟨rfl, rfl⟩
    · refine V_iload_n ok dX1_valueNamed_0 rfl 0 rfl ?_
      refine V_tabIn (off := 99) (tgt := 100) ok dX1_valueNamed_1 (by decide) (by decide) rfl (by decide) ?_
      refine V_iconst (v := (-1)) ok dX1_valueNamed_100 rfl ?_
      exact V_iret ok dX1_valueNamed_101 (Nat.zero_le _) (Nat.zero_le _) ⟨rfl, rfl⟩
    · refine V_iload_n ok dX1_valueNamed_0 rfl 0 rfl ?_
      refine V_tabIn (off := 99) (tgt := 100) ok dX1_valueNamed_1 (by decide) (by decide) rfl (by decide) ?_
      refine V_iconst (v := (-1)) ok dX1_valueNamed_100 rfl ?_
      exact V_iret ok dX1_valueNamed_101 (Nat.zero_le _) (Nat.zero_le _) ⟨rfl, rfl⟩
    · refine V_iload_n ok dX1_valueNamed_0 rfl 0 rfl ?_
      refine V_tabIn (off := 99) (tgt := 100) ok dX1_valueNamed_1 (by decide) (by decide) rfl (by decide) ?_
      refine V_iconst (v := (-1)) ok dX1_valueNamed_100 rfl ?_
      exact V_iret ok dX1_valueNamed_101 (Nat.zero_le _) (Nat.zero_le _) ⟨rfl, rfl⟩
    · refine V_iload_n ok dX1_valueNamed_0 rfl 0 rfl ?_
      refine V_tabIn (off := 89) (tgt := 90) ok dX1_valueNamed_1 (by decide) (by decide) rfl (by decide) ?_
      refine V_iconst (v := nI 1) ok dX1_valueNamed_90 rfl ?_
      exact V_iret ok dX1_valueNamed_91 (Nat.zero_le _) (Nat.zero_le _) ⟨rfl, rfl⟩
    · refine V_iload_n ok dX1_valueNamed_0 rfl 0 rfl ?_
      refine V_tabIn (off := 99) (tgt := 100) ok dX1_valueNamed_1 (by decide) (by decide) rfl (by decide) ?_
      refine V_iconst (v := (-1)) ok dX1_valueNamed_100 rfl ?_
      exact V_iret ok dX1_valueNamed_101 (Nat.zero_le _) (Nat.zero_le _) ⟨rfl, rfl⟩
    · refine V_iload_n ok dX1_valueNamed_0 rfl 0 rfl ?_
      refine V_tabIn (off := 99) (tgt := 100) ok dX1_valueNamed_1 (by decide) (by decide) rfl (by decide) ?_
      refine V_iconst (v := (-1)) ok dX1_valueNamed_100 rfl ?_
      exact V_iret ok dX1_valueNamed_101 (Nat.zero_le _) (Nat.zero_le _) ⟨rfl, rfl⟩
    · refine V_iload_n ok dX1_valueNamed_0 rfl 0 rfl ?_
      refine V_tabIn (off := 99) (tgt := 100) ok dX1_valueNamed_1 (by decide) (by decide) rfl (by decide) ?_
      refine V_iconst (v := (-1)) ok dX1_valueNamed_100 rfl ?_
      exact V_iret ok dX1_valueNamed_101 (Nat.zero_le _) (Nat.zero_le _) ⟨rfl, rfl⟩
    · refine V_iload_n ok dX1_valueNamed_0 rfl 0 rfl ?_
      refine V_tabIn (off := 95) (tgt := 96) ok dX1_valueNamed_1 (by decide) (by decide) rfl (by decide) ?_
      refine V_iconst (v := nI 4) ok dX1_valueNamed_96 rfl ?_
      exact V_iret ok dX1_valueNamed_97 (Nat.zero_le _) (Nat.zero_le _) ⟨rfl, rfl⟩
    · refine V_iload_n ok dX1_valueNamed_0 rfl 0 rfl ?_
      refine V_tabIn (off := 99) (tgt := 100) ok dX1_valueNamed_1 (by decide) (by decide) rfl (by decide) ?_
      refine V_iconst (v := (-1)) ok dX1_valueNamed_100 rfl ?_
      exact V_iret ok dX1_valueNamed_101 (Nat.zero_le _) (Nat.zero_le _) ⟨rfl, rfl⟩
    · refine V_iload_n ok dX1_valueNamed_0 rfl 0 rfl ?_
      refine V_tabIn (off := 99) (tgt := 100) ok dX1_valueNamed_1 (by decide) (by decide) rfl (by decide) ?_
      refine V_iconst (v := (-1)) ok dX1_valueNamed_100 rfl ?_
      exact V_iret ok dX1_valueNamed_101 (Nat.zero_le _) (Nat.zero_le _) ⟨rfl, rfl⟩
    · refine V_iload_n ok dX1_valueNamed_0 rfl 0 rfl ?_
      refine V_tabIn (off := 99) (tgt := 100) ok dX1_valueNamed_1 (by decide) (by decide) rfl (by decide) ?_
      refine V_iconst (v := (-1)) ok dX1_valueNamed_100 rfl ?_
      exact V_iret ok dX1_valueNamed_101 (Nat.zero_le _) (Nat.zero_le _) ⟨rfl, rfl⟩
    · refine V_iload_n ok dX1_valueNamed_0 rfl 0 rfl ?_
      refine V_tabIn (off := 87) (tgt := 88) ok dX1_valueNamed_1 (by decide) (by decide) rfl (by decide) ?_
      refine V_iconst (v := nI 0) ok dX1_valueNamed_88 rfl ?_
      exact V_iret ok dX1_valueNamed_89 (Nat.zero_le _) (Nat.zero_le _) ⟨rfl, rfl⟩
    · refine V_iload_n ok dX1_valueNamed_0 rfl 0 rfl ?_
      refine V_tabIn (off := 91) (tgt := 92) ok dX1_valueNamed_1 (by decide) (by decide) rfl (by decide) ?_
      refine V_iconst (v := nI 2) ok dX1_valueNamed_92 rfl ?_
      exact V_iret ok dX1_valueNamed_93 (Nat.zero_le _) (Nat.zero_le _) ⟨rfl, rfl⟩
    · refine V_iload_n ok dX1_valueNamed_0 rfl 0 rfl ?_
      refine V_tabIn (off := 97) (tgt := 98) ok dX1_valueNamed_1 (by decide) (by decide) rfl (by decide) ?_
      refine V_iconst (v := nI 5) ok dX1_valueNamed_98 rfl ?_
      exact V_iret ok dX1_valueNamed_99 (Nat.zero_le _) (Nat.zero_le _) ⟨rfl, rfl⟩
  · refine V_iload_n ok dX1_valueNamed_0 rfl 0 rfl ?_
    refine V_tabOut (tgt := 100) ok dX1_valueNamed_1 (by
      rcases Int.lt_or_le c.toInt 97 with h | h
      · exact Or.inl h
      · exact Or.inr (by
          rcases Int.lt_or_le 114 c.toInt with h2 | h2
          · exact h2
          · exact absurd ⟨Int32.le_iff_toInt_le.mpr (by rw [nI_toInt (by decide)]; exact h), Int32.le_iff_toInt_le.mpr (by rw [nI_toInt (by decide)]; exact h2)⟩ hc)) (by decide) ?_
    refine V_iconst (v := (-1)) ok dX1_valueNamed_100 rfl ?_
    exact V_iret ok dX1_valueNamed_101 (Nat.zero_le _) (Nat.zero_le _) ⟨by rw [valN_no hc], rfl⟩
set_option maxHeartbeats 4000000 in
set_option maxRecDepth 100000 in
theorem c_X1_rewind (g : Glob) (a : Nat → Nat) (P : PageSt) : Con g yX1_rewind cX1_rewind 1 none ({ frames := 0, cells := 0, slots := 0, locals := 0 } : Room) [.ref (a 0)] (pageW g a P) (Is none (pageW g a (setPl P 0))) := by
  refine con_of_V ypl_X1_rewind (Nat.le_of_ble_eq_true rfl) [(0, .ref (a 0))] rfl (fun Γ ok => ?_)
  refine V_aload_n ok dX1_rewind_0 rfl 0 rfl ?_
  refine V_iconst (v := nI 0) ok dX1_rewind_1 rfl ?_
  refine V_put (w2 := pageW g a (P.1, P.2.1, P.2.2.1, P.2.2.2.1, P.2.2.2.2.1, P.2.2.2.2.2.1, 0, P.2.2.2.2.2.2.2)) ok 0 6 tw_X1 tyX1 tyX1_ok nmX1 twf_X1_31 rfl rfl (by decide) rfl rfl dX1_rewind_2 rfl rfl rfl (Nat.lt_of_lt_of_eq (m := 8) (by decide) rfl) rfl ?_
  exact V_vret ok dX1_rewind_5 (Nat.zero_le _) (Nat.zero_le _) ⟨rfl, rfl⟩
def appendF (P : PageSt) (c : Int32) : PageSt := (upd P.1 P.2.1 (vp_nar .byte c.toInt8.toInt32), P.2.1 + 1, P.2.2)
set_option maxHeartbeats 4000000 in
set_option maxRecDepth 100000 in
theorem c_X1_append (g : Glob) (a : Nat → Nat) (P : PageSt) (c : Int32) (hP : P.2.1 ≤ 100) : Con g yX1_append cX1_append 2 (some .boolean) ({ frames := 0, cells := 0, slots := 0, locals := 0 } : Room) [.ref (a 0), .int c] (pageW g a P) (Is (some (.int (bI (decide (pLen P < 100))))) (pageW g a (if pLen P < 100 then appendF P c else P))) := by
  refine con_of_V ypl_X1_append (Nat.le_of_ble_eq_true rfl) [(0, .ref (a 0)), (1, .int c)] rfl (fun Γ ok => ?_)
  have hP1 : P.2.1 ≤ 100 := hP
  refine V_aload_n ok dX1_append_0 rfl 0 rfl ?_
  refine V_get (v := .int (nI P.2.1)) ok 0 1 tw_X1 twf_X1_15 rfl rfl (by decide) dX1_append_1 rfl rfl ?_
  refine V_bipush (v := nI 100) ok dX1_append_4 rfl ?_
  refine V_icmpN_lt (tgt := 11) ok dX1_append_6 (by decide) (by omega) (by omega) (fun h6 => ?_) (fun h6 => ?_)
  · refine V_aload_n ok dX1_append_11 rfl 0 rfl ?_
    refine V_get (v := .ref (a 1)) ok 0 0 tw_X1 twf_X1_11 rfl rfl (by decide) dX1_append_12 rfl rfl ?_
    refine V_aload_n ok dX1_append_15 rfl 0 rfl ?_
    refine V_get (v := .int (nI P.2.1)) ok 0 1 tw_X1 twf_X1_15 rfl rfl (by decide) dX1_append_16 rfl rfl ?_
    refine V_iload_n ok dX1_append_19 rfl 1 rfl ?_
    refine V_i2b ok dX1_append_20 ?_
    refine V_bast (f := P.1) (N := 100) (w2 := pageW g a (upd P.1 P.2.1 (vp_nar .byte c.toInt8.toInt32), P.2.1, P.2.2.1, P.2.2.2.1, P.2.2.2.2.1, P.2.2.2.2.2.1, P.2.2.2.2.2.2.1, P.2.2.2.2.2.2.2)) ok 1 P.2.1 dX1_append_21 rfl rfl (by omega) (by decide) rfl ?_
    refine V_aload_n ok dX1_append_22 rfl 0 rfl ?_
    refine V_dup ok dX1_append_23 rfl ?_
    refine V_get (v := .int (nI P.2.1)) ok 0 1 tw_X1 twf_X1_15 rfl rfl (by decide) dX1_append_24 rfl rfl ?_
    refine V_iconst (v := nI 1) ok dX1_append_27 rfl ?_
    refine V_iaddN (a := P.2.1) (b := 1) (c := P.2.1 + 1) ok dX1_append_28 (by first | rfl | omega) ?_
    refine V_put (w2 := pageW g a (upd P.1 P.2.1 (vp_nar .byte c.toInt8.toInt32), P.2.1 + 1, P.2.2.1, P.2.2.2.1, P.2.2.2.2.1, P.2.2.2.2.2.1, P.2.2.2.2.2.2.1, P.2.2.2.2.2.2.2)) ok 0 1 tw_X1 tyX1 tyX1_ok nmX1 twf_X1_15 rfl rfl (by decide) rfl rfl dX1_append_29 rfl rfl rfl (Nat.lt_of_lt_of_eq (m := 8) (by decide) rfl) rfl ?_
    refine V_iconst (v := nI 1) ok dX1_append_32 rfl ?_
    exact V_zret ok dX1_append_33 (Nat.zero_le _) (Nat.zero_le _) rfl ⟨bI_t (by simp [h6]), by rw [if_pos h6]; rfl⟩
  · refine V_iconst (v := nI 0) ok dX1_append_9 rfl ?_
    exact V_zret ok dX1_append_10 (Nat.zero_le _) (Nat.zero_le _) rfl ⟨bI_f (by simp [h6]), by rw [if_neg h6]⟩
set_option maxHeartbeats 4000000 in
set_option maxRecDepth 100000 in
theorem c_X1_byteHere (g : Glob) (a : Nat → Nat) (P : PageSt) (hP : PG P) : Con g yX1_byteHere cX1_byteHere 1 (some .int) ({ frames := 0, cells := 0, slots := 0, locals := 0 } : Room) [.ref (a 0)] (pageW g a P) (Is (some (.int (pHere P))) (pageW g a P)) := by
  refine con_of_V ypl_X1_byteHere (Nat.le_of_ble_eq_true rfl) [(0, .ref (a 0))] rfl (fun Γ ok => ?_)
  have hP1 : P.2.1 ≤ 100 := hP.1
  have hP2 : P.2.2.2.2.2.2.1 ≤ P.2.1 := hP.2
  refine V_aload_n ok dX1_byteHere_0 rfl 0 rfl ?_
  refine V_get (v := .int (nI P.2.2.2.2.2.2.1)) ok 0 6 tw_X1 twf_X1_31 rfl rfl (by decide) dX1_byteHere_1 rfl rfl ?_
  refine V_aload_n ok dX1_byteHere_4 rfl 0 rfl ?_
  refine V_get (v := .int (nI P.2.1)) ok 0 1 tw_X1 twf_X1_15 rfl rfl (by decide) dX1_byteHere_5 rfl rfl ?_
  have J8 : V g Γ 1 0 0 24 (pageW g a (P.1, P.2.1, P.2.2.1, P.2.2.2.1, P.2.2.2.2.1, P.2.2.2.2.2.1, P.2.2.2.2.2.2.1, P.2.2.2.2.2.2.2)) [(0, .ref (a 0))] [.int (if P.2.1 ≤ P.2.2.2.2.2.2.1 then (-1) else P.1 P.2.2.2.2.2.2.1)] := by
    exact V_iret ok dX1_byteHere_24 (Nat.zero_le _) (Nat.zero_le _) ⟨rfl, rfl⟩
  refine V_icmpN_ge (tgt := 23) ok dX1_byteHere_8 (by decide) (by omega) (by omega) (fun h8 => ?_) (fun h8 => ?_)
  · refine V_iconst (v := (-1)) ok dX1_byteHere_23 rfl ?_
    simp only [if_pos h8] at J8
    exact J8
  · refine V_aload_n ok dX1_byteHere_11 rfl 0 rfl ?_
    refine V_get (v := .ref (a 1)) ok 0 0 tw_X1 twf_X1_11 rfl rfl (by decide) dX1_byteHere_12 rfl rfl ?_
    refine V_aload_n ok dX1_byteHere_15 rfl 0 rfl ?_
    refine V_get (v := .int (nI P.2.2.2.2.2.2.1)) ok 0 6 tw_X1 twf_X1_31 rfl rfl (by decide) dX1_byteHere_16 rfl rfl ?_
    refine V_bald (f := P.1) (N := 100) ok 1 P.2.2.2.2.2.2.1 dX1_byteHere_19 rfl rfl (by omega) (by decide) ?_
    refine V_goto (tgt := 24) ok dX1_byteHere_20 (by decide) ?_
    simp only [if_neg h8] at J8
    exact J8
set_option maxHeartbeats 4000000 in
set_option maxRecDepth 100000 in
theorem c_X1_skipBlanks (g : Glob) (a : Nat → Nat) (P : PageSt) (hP : PG P) : Con g yX1_skipBlanks cX1_skipBlanks 1 none ({ frames := 0, cells := 0, slots := 0, locals := 0 } : Room) [.ref (a 0)] (pageW g a P) (Is none (pageW g a (skipF P))) := by
  refine con_of_V ypl_X1_skipBlanks (Nat.le_of_ble_eq_true rfl) [(0, .ref (a 0))] rfl (fun Γ ok => ?_)
  have hP1 : P.2.1 ≤ 100 := hP.1
  have hP2 : P.2.2.2.2.2.2.1 ≤ P.2.1 := hP.2
  have HL : ∀ (n q : Nat), q ≤ P.2.1 → n = P.2.1 - q → skipP P.1 P.2.1 q = skipP P.1 P.2.1 (pPl P) → V g Γ 1 0 0 0 (pageW g a (P.1, P.2.1, P.2.2.1, P.2.2.2.1, P.2.2.2.2.1, P.2.2.2.2.2.1, q, P.2.2.2.2.2.2.2)) [(0, .ref (a 0))] [] := by
    intro n
    induction n using Nat.strongRecOn with
    | ind n ih =>
    intro q hq hn hsk
    subst hn
    refine V_aload_n ok dX1_skipBlanks_0 rfl 0 rfl ?_
    refine V_get (v := .int (nI q)) ok 0 6 tw_X1 twf_X1_31 rfl rfl (by decide) dX1_skipBlanks_1 rfl rfl ?_
    refine V_aload_n ok dX1_skipBlanks_4 rfl 0 rfl ?_
    refine V_get (v := .int (nI P.2.1)) ok 0 1 tw_X1 twf_X1_15 rfl rfl (by decide) dX1_skipBlanks_5 rfl rfl ?_
    refine V_icmpN_ge (tgt := 38) ok dX1_skipBlanks_8 (by decide) (by omega) (by omega) (fun h8 => ?_) (fun h8 => ?_)
    · exact V_vret ok dX1_skipBlanks_38 (Nat.zero_le _) (Nat.zero_le _) ⟨rfl, by unfold skipF; rw [← hsk, skipP_end h8]; rfl⟩
    · refine V_aload_n ok dX1_skipBlanks_11 rfl 0 rfl ?_
      refine V_get (v := .ref (a 1)) ok 0 0 tw_X1 twf_X1_11 rfl rfl (by decide) dX1_skipBlanks_12 rfl rfl ?_
      refine V_aload_n ok dX1_skipBlanks_15 rfl 0 rfl ?_
      refine V_get (v := .int (nI q)) ok 0 6 tw_X1 twf_X1_31 rfl rfl (by decide) dX1_skipBlanks_16 rfl rfl ?_
      refine V_bald (f := P.1) (N := 100) ok 1 q dX1_skipBlanks_19 rfl rfl (by omega) (by decide) ?_
      refine V_bipush (v := nI 32) ok dX1_skipBlanks_20 rfl ?_
      refine V_icmp_ne (tgt := 38) ok dX1_skipBlanks_22 (by decide) (fun h22 => ?_) (fun h22 => ?_)
      · exact V_vret ok dX1_skipBlanks_38 (Nat.zero_le _) (Nat.zero_le _) ⟨rfl, by unfold skipF; rw [← hsk, skipP_no h22]; rfl⟩
      · refine V_aload_n ok dX1_skipBlanks_25 rfl 0 rfl ?_
        refine V_dup ok dX1_skipBlanks_26 rfl ?_
        refine V_get (v := .int (nI q)) ok 0 6 tw_X1 twf_X1_31 rfl rfl (by decide) dX1_skipBlanks_27 rfl rfl ?_
        refine V_iconst (v := nI 1) ok dX1_skipBlanks_30 rfl ?_
        refine V_iaddN (a := q) (b := 1) (c := q + 1) ok dX1_skipBlanks_31 (by first | rfl | omega) ?_
        refine V_put (w2 := pageW g a (P.1, P.2.1, P.2.2.1, P.2.2.2.1, P.2.2.2.2.1, P.2.2.2.2.2.1, q + 1, P.2.2.2.2.2.2.2)) ok 0 6 tw_X1 tyX1 tyX1_ok nmX1 twf_X1_31 rfl rfl (by decide) rfl rfl dX1_skipBlanks_32 rfl rfl rfl (Nat.lt_of_lt_of_eq (m := 8) (by decide) rfl) rfl ?_
        refine V_goto (tgt := 0) ok dX1_skipBlanks_35 (by decide) ?_
        have hsk2 := (skipP_yes h8 h22).symm.trans hsk
        exact ih (P.2.1 - (q + 1)) (by omega) (q + 1) (by omega) rfl hsk2
  exact HL (P.2.1 - pPl P) (pPl P) hP.2 rfl rfl
set_option maxHeartbeats 4000000 in
set_option maxRecDepth 100000 in
theorem c_X1_takeNumber (g : Glob) (a : Nat → Nat) (P : PageSt) (hP : PG P) : Con g yX1_takeNumber cX1_takeNumber 2 (some .boolean) ({ frames := 1, cells := 0, slots := 0, locals := 20 } : Room) [.ref (a 0)] (pageW g a P) (Is (some (.int (bI (takeNumberF P).1))) (pageW g a (takeNumberF P).2)) := by
  refine con_of_V ypl_X1_takeNumber (Nat.le_of_ble_eq_true rfl) [(0, .ref (a 0))] rfl (fun Γ ok => ?_)
  have hP1 : P.2.1 ≤ 100 := hP.1
  have hP2 : P.2.2.2.2.2.2.1 ≤ P.2.1 := hP.2
  have HT : ∀ (q : Nat) (u : Int32) (c : Nat), (q, u, c) = numN P.1 P.2.1 4 (pPl P) (nI 0) 0 → V g Γ 2 0 0 65 (pageW g a (P.1, P.2.1, P.2.2.1, P.2.2.2.1, P.2.2.2.2.1, P.2.2.2.2.2.1, q, u)) [(1, .int (nI c)), (0, .ref (a 0))] [] := by
    intro q u c ht
    refine V_iload_n ok dX1_takeNumber_65 rfl 0 rfl ?_
    have hc4 := (numN_le P.1 P.2.1 4 (pPl P) (nI 0) 0 hP.2).2.2.1
    rw [← ht] at hc4
    have hc4 : c ≤ 0 + 4 := hc4
    refine V_ifN_le (tgt := 73) ok dX1_takeNumber_66 (by decide) (by omega) (fun h66 => ?_) (fun h66 => ?_)
    · refine V_iconst (v := nI 0) ok dX1_takeNumber_73 rfl ?_
      exact V_zret ok dX1_takeNumber_74 (Nat.zero_le _) (Nat.zero_le _) rfl ⟨bI_f (by unfold takeNumberF; simp only; rw [← ht]; simp [h66]), by unfold takeNumberF; simp only; rw [← ht]⟩
    · refine V_iconst (v := nI 1) ok dX1_takeNumber_69 rfl ?_
      refine V_goto (tgt := 74) ok dX1_takeNumber_70 (by decide) ?_
      exact V_zret ok dX1_takeNumber_74 (Nat.zero_le _) (Nat.zero_le _) rfl ⟨bI_t (by unfold takeNumberF; simp only; rw [← ht]; simp [h66]), by unfold takeNumberF; simp only; rw [← ht]⟩
  have HL : ∀ (f q c : Nat) (u : Int32), q ≤ P.2.1 → f + c = 4 → numN P.1 P.2.1 f q u c = numN P.1 P.2.1 4 (pPl P) (nI 0) 0 → V g Γ 2 0 0 7 (pageW g a (P.1, P.2.1, P.2.2.1, P.2.2.2.1, P.2.2.2.2.1, P.2.2.2.2.2.1, q, u)) [(1, .int (nI c)), (0, .ref (a 0))] [] := by
    intro f
    induction f using Nat.strongRecOn with
    | ind f ih =>
    cases f with
    | zero =>
      intro q c u hq hf hnn
      refine V_iload_n ok dX1_takeNumber_7 rfl 0 rfl ?_
      refine V_iconst (v := nI 4) ok dX1_takeNumber_8 rfl ?_
      refine V_icmpN_ge (tgt := 65) ok dX1_takeNumber_9 (by decide) (by omega) (by omega) (fun h9 => ?_) (fun h9 => absurd (by omega) h9)
      exact HT q u c (by rw [← hnn]; rfl)
    | succ f =>
      intro q c u hq hf hnn
      refine V_iload_n ok dX1_takeNumber_7 rfl 0 rfl ?_
      refine V_iconst (v := nI 4) ok dX1_takeNumber_8 rfl ?_
      refine V_icmpN_ge (tgt := 65) ok dX1_takeNumber_9 (by decide) (by omega) (by omega) (fun h9 => absurd h9 (by omega)) (fun h9 => ?_)
      refine V_aload_n ok dX1_takeNumber_12 rfl 1 rfl ?_
      refine V_cV (v2 := some (.int (hereP P.1 P.2.1 q))) (wn := pageW g a (P.1, P.2.1, P.2.2.1, P.2.2.2.1, P.2.2.2.2.1, P.2.2.2.2.2.1, q, u)) (rest := []) ok 0 1 (c_X1_byteHere g a (P.1, P.2.1, P.2.2.1, P.2.2.2.1, P.2.2.2.2.1, P.2.2.2.2.2.1, q, u) ⟨hP1, hq⟩) 0 twm_X1_49 twi_yX1_byteHere twv_yX1_byteHere twin_X1 twc_yX1_byteHere yok_X1_byteHere (by decide) ⟨rfl, rfl⟩ dX1_takeNumber_13 rfl rfl rfl rfl (Nat.le_of_ble_eq_true rfl) ⟨Nat.zero_le _, Nat.zero_le _⟩ [0, 1] rfl rfl (Nat.le_of_ble_eq_true rfl) rfl ?_
      refine V_bipush (v := nI 48) ok dX1_takeNumber_16 rfl ?_
      refine V_icmp_lt (tgt := 65) ok dX1_takeNumber_18 (by decide) (fun h18 => ?_) (fun h18 => ?_)
      · exact HT q u c (by rw [← hnn]; simp only [numN]; rw [if_pos h18])
      · refine V_aload_n ok dX1_takeNumber_21 rfl 1 rfl ?_
        refine V_cV (v2 := some (.int (hereP P.1 P.2.1 q))) (wn := pageW g a (P.1, P.2.1, P.2.2.1, P.2.2.2.1, P.2.2.2.2.1, P.2.2.2.2.2.1, q, u)) (rest := []) ok 0 1 (c_X1_byteHere g a (P.1, P.2.1, P.2.2.1, P.2.2.2.1, P.2.2.2.2.1, P.2.2.2.2.2.1, q, u) ⟨hP1, hq⟩) 0 twm_X1_49 twi_yX1_byteHere twv_yX1_byteHere twin_X1 twc_yX1_byteHere yok_X1_byteHere (by decide) ⟨rfl, rfl⟩ dX1_takeNumber_22 rfl rfl rfl rfl (Nat.le_of_ble_eq_true rfl) ⟨Nat.zero_le _, Nat.zero_le _⟩ [0, 1] rfl rfl (Nat.le_of_ble_eq_true rfl) rfl ?_
        refine V_bipush (v := nI 57) ok dX1_takeNumber_25 rfl ?_
        refine V_icmp_gt (tgt := 65) ok dX1_takeNumber_27 (by decide) (fun h27 => ?_) (fun h27 => ?_)
        · exact HT q u c (by rw [← hnn]; simp only [numN]; rw [if_neg h18, if_pos h27])
        · refine V_aload_n ok dX1_takeNumber_30 rfl 1 rfl ?_
          refine V_aload_n ok dX1_takeNumber_31 rfl 1 rfl ?_
          refine V_get (v := .int u) ok 0 7 tw_X1 twf_X1_34 rfl rfl (by decide) dX1_takeNumber_32 rfl rfl ?_
          refine V_bipush (v := nI 10) ok dX1_takeNumber_35 rfl ?_
          refine V_imul ok dX1_takeNumber_37 ?_
          refine V_aload_n ok dX1_takeNumber_38 rfl 1 rfl ?_
          refine V_cV (v2 := some (.int (hereP P.1 P.2.1 q))) (wn := pageW g a (P.1, P.2.1, P.2.2.1, P.2.2.2.1, P.2.2.2.2.1, P.2.2.2.2.2.1, q, u)) (rest := [.int (u * (nI 10)), .ref (a 0)]) ok 0 1 (c_X1_byteHere g a (P.1, P.2.1, P.2.2.1, P.2.2.2.1, P.2.2.2.2.1, P.2.2.2.2.2.1, q, u) ⟨hP1, hq⟩) 0 twm_X1_49 twi_yX1_byteHere twv_yX1_byteHere twin_X1 twc_yX1_byteHere yok_X1_byteHere (by decide) ⟨rfl, rfl⟩ dX1_takeNumber_39 rfl rfl rfl rfl (Nat.le_of_ble_eq_true rfl) ⟨Nat.zero_le _, Nat.zero_le _⟩ [0, 1] rfl rfl (Nat.le_of_ble_eq_true rfl) rfl ?_
          refine V_bipush (v := nI 48) ok dX1_takeNumber_42 rfl ?_
          refine V_isub ok dX1_takeNumber_44 ?_
          refine V_iadd ok dX1_takeNumber_45 ?_
          refine V_put (w2 := pageW g a (P.1, P.2.1, P.2.2.1, P.2.2.2.1, P.2.2.2.2.1, P.2.2.2.2.2.1, q, (u * (nI 10)) + ((hereP P.1 P.2.1 q) - (nI 48)))) ok 0 7 tw_X1 tyX1 tyX1_ok nmX1 twf_X1_34 rfl rfl (by decide) rfl rfl dX1_takeNumber_46 rfl rfl rfl (Nat.lt_of_lt_of_eq (m := 8) (by decide) rfl) rfl ?_
          refine V_aload_n ok dX1_takeNumber_49 rfl 1 rfl ?_
          refine V_dup ok dX1_takeNumber_50 rfl ?_
          refine V_get (v := .int (nI q)) ok 0 6 tw_X1 twf_X1_31 rfl rfl (by decide) dX1_takeNumber_51 rfl rfl ?_
          refine V_iconst (v := nI 1) ok dX1_takeNumber_54 rfl ?_
          refine V_iaddN (a := q) (b := 1) (c := q + 1) ok dX1_takeNumber_55 (by first | rfl | omega) ?_
          refine V_put (w2 := pageW g a (P.1, P.2.1, P.2.2.1, P.2.2.2.1, P.2.2.2.2.1, P.2.2.2.2.2.1, q + 1, (u * (nI 10)) + ((hereP P.1 P.2.1 q) - (nI 48)))) ok 0 6 tw_X1 tyX1 tyX1_ok nmX1 twf_X1_31 rfl rfl (by decide) rfl rfl dX1_takeNumber_56 rfl rfl rfl (Nat.lt_of_lt_of_eq (m := 8) (by decide) rfl) rfl ?_
          refine V_iinc (q := 0) (v := nI (c + 1)) (lv2 := [(1, .int (nI (c + 1))), (0, .ref (a 0))]) ok dX1_takeNumber_59 rfl (nI_inc c 1) (by decide) rfl ?_
          refine V_goto (tgt := 7) ok dX1_takeNumber_62 (by decide) ?_
          refine V_lv [0, 1] rfl ?_
          have hin := here_lt h18
          exact ih f (Nat.lt_succ_self f) (q + 1) (c + 1) (u * nI 10 + (hereP P.1 P.2.1 q - nI 48)) (by omega) (by omega) (by rw [← hnn]; simp only [numN]; rw [if_neg h18, if_neg h27])
  refine V_aload_n ok dX1_takeNumber_0 rfl 0 rfl ?_
  refine V_iconst (v := nI 0) ok dX1_takeNumber_1 rfl ?_
  refine V_put (w2 := pageW g a (P.1, P.2.1, P.2.2.1, P.2.2.2.1, P.2.2.2.2.1, P.2.2.2.2.2.1, P.2.2.2.2.2.2.1, nI 0)) ok 0 7 tw_X1 tyX1 tyX1_ok nmX1 twf_X1_34 rfl rfl (by decide) rfl rfl dX1_takeNumber_2 rfl rfl rfl (Nat.lt_of_lt_of_eq (m := 8) (by decide) rfl) rfl ?_
  refine V_iconst (v := nI 0) ok dX1_takeNumber_5 rfl ?_
  refine V_istore_n (lv2 := [(1, .int (nI 0)), (0, .ref (a 0))]) ok dX1_takeNumber_6 rfl (by decide) rfl ?_
  refine V_lv [0, 1] rfl ?_
  exact HL 4 (pPl P) 0 (nI 0) hP.2 rfl rfl
