/-! the reference's reading -/
def pnR (tx : Nat → Int32) (len : Nat) (le : Bool) (r : Nat × Int32 × Nat) : Bool × Nat × Int32 := (if r.2.2 = 0 then false else if wiB (hereP tx len r.1) (nI 48) (nI 57) = true then false else true, r.1, if le = true then -r.2.1 else r.2.1)
def pnF (tx : Nat → Int32) (len pl : Nat) (mb : Bool) : Bool × Nat × Int32 := if mb = true ∧ hereP tx len (skipP tx len pl) = nI 45 then pnR tx len true (numN tx len 4 (skipP tx len pl + 1) (nI 0) 0) else pnR tx len false (numN tx len 4 (skipP tx len pl) (nI 0) 0)
def mbB (c : Int32) : Bool := if c = nI 104 then true else if c = nI 113 then true else false
def moE (tx : Nat → Int32) (len p : Nat) (f s : Int32) : Bool × Nat × Int32 × Int32 := if hereP tx len (skipP tx len p) = nI 59 then (true, skipP tx len p + 1, f, s) else (false, skipP tx len p, f, s)
def moS (tx : Nat → Int32) (len : Nat) (c : Int32) (r : Bool × Nat × Int32) : Bool × Nat × Int32 × Int32 := if r.1 = true then (if c = nI 119 then (if (pnF tx len r.2.1 false).1 = true then moE tx len (pnF tx len r.2.1 false).2.1 r.2.2 (pnF tx len r.2.1 false).2.2 else (false, (pnF tx len r.2.1 false).2.1, 0, 0)) else moE tx len r.2.1 r.2.2 0) else (false, r.2.1, 0, 0)
def moF (tx : Nat → Int32) (len pl : Nat) : Bool × Nat × Int32 × Int32 := if letB (hereP tx len pl) = true then moS tx len (hereP tx len pl) (pnF tx len (pl + 1) (mbB (hereP tx len pl))) else (false, pl, 0, 0)
theorem numN_stop {tx : Nat → Int32} {len : Nat} (f : Nat) {p : Nat} (v : Int32) (c : Nat) (h : ¬ wiB (hereP tx len p) (nI 48) (nI 57) = true) : numN tx len f p v c = (p, v, c) := by
  cases f with
  | zero => rfl
  | succ f =>
    simp only [numN]
    by_cases h1 : hereP tx len p < nI 48
    · rw [if_pos h1]
    · rw [if_neg h1]
      by_cases h2 : nI 57 < hereP tx len p
      · rw [if_pos h2]
      · exact absurd (wiB_iff.mpr ⟨h1, h2⟩) h
theorem numN_go {tx : Nat → Int32} {len : Nat} (f : Nat) {p : Nat} (v : Int32) (c : Nat) (h : wiB (hereP tx len p) (nI 48) (nI 57) = true) : numN tx len (f + 1) p v c = numN tx len f (p + 1) (v * nI 10 + (hereP tx len p - nI 48)) (c + 1) := by
  simp only [numN]
  rw [if_neg (wiB_iff.mp h).1, if_neg (wiB_iff.mp h).2]
theorem pnF_le {tx : Nat → Int32} {len pl : Nat} (mb : Bool) (h : pl ≤ len) : pl ≤ (pnF tx len pl mb).2.1 ∧ (pnF tx len pl mb).2.1 ≤ len := by
  have a := skipP_le (tx := tx) h
  unfold pnF
  split
  · rename_i q
    have b := here_eq (c := 45) (by decide) q.2
    have c := numN_le tx len 4 (skipP tx len pl + 1) (nI 0) 0 b
    exact ⟨by show pl ≤ (numN _ _ _ _ _ _).1; omega, c.2.1⟩
  · have c := numN_le tx len 4 (skipP tx len pl) (nI 0) 0 a.2
    exact ⟨by show pl ≤ (numN _ _ _ _ _ _).1; omega, c.2.1⟩
theorem num_ring (v h : Int32) : nI 10 * v + h - nI 48 = v * nI 10 + (h - nI 48) := by
  rw [Int32.mul_comm, Int32.sub_eq_add_neg, Int32.sub_eq_add_neg, Int32.add_assoc]
theorem here_tx {tx : Nat → Int32} {len p c : Nat} (h : hereP tx len p = nI c) (hc : c < 1000 := by decide) : tx p = nI c := by
  have := here_eq hc h
  unfold hereP at h
  rwa [if_neg (by omega)] at h
theorem skipP_no' {tx : Nat → Int32} {len p : Nat} (h : ¬ hereP tx len p = nI 32) : skipP tx len p = p := by
  by_cases h1 : len ≤ p
  · exact skipP_end h1
  · unfold hereP at h
    rw [if_neg h1] at h
    exact skipP_no h
theorem ord_t {c : Int32} (h : c = nI 112 ∨ c = nI 104 ∨ c = nI 113 ∨ c = nI 97 ∨ c = nI 108 ∨ c = nI 114 ∨ c = nI 119 ∨ c = nI 115) : letB c = true := by
  rcases h with rfl | rfl | rfl | rfl | rfl | rfl | rfl | rfl <;> decide
theorem ord_f {c : Int32} (h : ¬ (c = nI 112 ∨ c = nI 104 ∨ c = nI 113 ∨ c = nI 97 ∨ c = nI 108 ∨ c = nI 114 ∨ c = nI 119 ∨ c = nI 115)) : letB c = false := by
  simp only [not_or] at h
  obtain ⟨h1, h2, h3, h4, h5, h6, h7, h8⟩ := h
  unfold letB valN
  rw [if_neg h7, if_neg h8, if_neg h1, if_neg h2, if_neg h3, if_neg h4, if_neg h5, if_neg h6]
  rfl
set_option maxHeartbeats 4000000 in
set_option maxRecDepth 100000 in
theorem c_X3_isOrder (g : Glob) (c : Int32) : Con g yX3_isOrder cX3_isOrder 1 (some .boolean) ({ frames := 0, cells := 0, slots := 0, locals := 0 } : Room) [.int c] ([]) (Is (some (.int (bI (letB c)))) []) := by
  refine con_of_V ypl_X3_isOrder (Nat.le_of_ble_eq_true rfl) [(0, .int c)] rfl (fun Γ ok => ?_)
  refine V_iload_n ok dX3_isOrder_0 rfl 0 rfl ?_
  refine V_bipush (v := nI 112) ok dX3_isOrder_1 rfl ?_
  refine V_icmp_eq (tgt := 48) ok dX3_isOrder_3 (by decide) (fun h3 => ?_) (fun h3 => ?_)
  · refine V_iconst (v := nI 1) ok dX3_isOrder_48 rfl ?_
    refine V_goto (tgt := 53) ok dX3_isOrder_49 (by decide) ?_
    exact V_zret ok dX3_isOrder_53 (Nat.zero_le _) (Nat.zero_le _) rfl ⟨bI_t (ord_t (by simp [*])), rfl⟩
  · refine V_iload_n ok dX3_isOrder_6 rfl 0 rfl ?_
    refine V_bipush (v := nI 104) ok dX3_isOrder_7 rfl ?_
    refine V_icmp_eq (tgt := 48) ok dX3_isOrder_9 (by decide) (fun h9 => ?_) (fun h9 => ?_)
    · refine V_iconst (v := nI 1) ok dX3_isOrder_48 rfl ?_
      refine V_goto (tgt := 53) ok dX3_isOrder_49 (by decide) ?_
      exact V_zret ok dX3_isOrder_53 (Nat.zero_le _) (Nat.zero_le _) rfl ⟨bI_t (ord_t (by simp [*])), rfl⟩
    · refine V_iload_n ok dX3_isOrder_12 rfl 0 rfl ?_
      refine V_bipush (v := nI 113) ok dX3_isOrder_13 rfl ?_
      refine V_icmp_eq (tgt := 48) ok dX3_isOrder_15 (by decide) (fun h15 => ?_) (fun h15 => ?_)
      · refine V_iconst (v := nI 1) ok dX3_isOrder_48 rfl ?_
        refine V_goto (tgt := 53) ok dX3_isOrder_49 (by decide) ?_
        exact V_zret ok dX3_isOrder_53 (Nat.zero_le _) (Nat.zero_le _) rfl ⟨bI_t (ord_t (by simp [*])), rfl⟩
      · refine V_iload_n ok dX3_isOrder_18 rfl 0 rfl ?_
        refine V_bipush (v := nI 97) ok dX3_isOrder_19 rfl ?_
        refine V_icmp_eq (tgt := 48) ok dX3_isOrder_21 (by decide) (fun h21 => ?_) (fun h21 => ?_)
        · refine V_iconst (v := nI 1) ok dX3_isOrder_48 rfl ?_
          refine V_goto (tgt := 53) ok dX3_isOrder_49 (by decide) ?_
          exact V_zret ok dX3_isOrder_53 (Nat.zero_le _) (Nat.zero_le _) rfl ⟨bI_t (ord_t (by simp [*])), rfl⟩
        · refine V_iload_n ok dX3_isOrder_24 rfl 0 rfl ?_
          refine V_bipush (v := nI 108) ok dX3_isOrder_25 rfl ?_
          refine V_icmp_eq (tgt := 48) ok dX3_isOrder_27 (by decide) (fun h27 => ?_) (fun h27 => ?_)
          · refine V_iconst (v := nI 1) ok dX3_isOrder_48 rfl ?_
            refine V_goto (tgt := 53) ok dX3_isOrder_49 (by decide) ?_
            exact V_zret ok dX3_isOrder_53 (Nat.zero_le _) (Nat.zero_le _) rfl ⟨bI_t (ord_t (by simp [*])), rfl⟩
          · refine V_iload_n ok dX3_isOrder_30 rfl 0 rfl ?_
            refine V_bipush (v := nI 114) ok dX3_isOrder_31 rfl ?_
            refine V_icmp_eq (tgt := 48) ok dX3_isOrder_33 (by decide) (fun h33 => ?_) (fun h33 => ?_)
            · refine V_iconst (v := nI 1) ok dX3_isOrder_48 rfl ?_
              refine V_goto (tgt := 53) ok dX3_isOrder_49 (by decide) ?_
              exact V_zret ok dX3_isOrder_53 (Nat.zero_le _) (Nat.zero_le _) rfl ⟨bI_t (ord_t (by simp [*])), rfl⟩
            · refine V_iload_n ok dX3_isOrder_36 rfl 0 rfl ?_
              refine V_bipush (v := nI 119) ok dX3_isOrder_37 rfl ?_
              refine V_icmp_eq (tgt := 48) ok dX3_isOrder_39 (by decide) (fun h39 => ?_) (fun h39 => ?_)
              · refine V_iconst (v := nI 1) ok dX3_isOrder_48 rfl ?_
                refine V_goto (tgt := 53) ok dX3_isOrder_49 (by decide) ?_
                exact V_zret ok dX3_isOrder_53 (Nat.zero_le _) (Nat.zero_le _) rfl ⟨bI_t (ord_t (by simp [*])), rfl⟩
              · refine V_iload_n ok dX3_isOrder_42 rfl 0 rfl ?_
                refine V_bipush (v := nI 115) ok dX3_isOrder_43 rfl ?_
                refine V_icmp_ne (tgt := 52) ok dX3_isOrder_45 (by decide) (fun h45 => ?_) (fun h45 => ?_)
                · refine V_iconst (v := nI 0) ok dX3_isOrder_52 rfl ?_
                  exact V_zret ok dX3_isOrder_53 (Nat.zero_le _) (Nat.zero_le _) rfl ⟨bI_f (ord_f (by simp [*])), rfl⟩
                · refine V_iconst (v := nI 1) ok dX3_isOrder_48 rfl ?_
                  refine V_goto (tgt := 53) ok dX3_isOrder_49 (by decide) ?_
                  exact V_zret ok dX3_isOrder_53 (Nat.zero_le _) (Nat.zero_le _) rfl ⟨bI_t (ord_t (by simp [*])), rfl⟩
set_option maxHeartbeats 4000000 in
set_option maxRecDepth 100000 in
theorem c_X3_here (g : Glob) (b : Nat → Nat) (nw : Nat → Int32) (wv : Nat → UInt64) (ah : Nat → UInt64) (pa : Nat → Int32) (pw : Nat → UInt64) (ai : Nat → Int32) (aw : Nat → UInt64) (sts : Nat) (rf : Nat → Int32) (tx : Nat → Int32) (len : Nat) (pl : Nat) (ord : Nat) (lr : Nat → Int32) (nu : Nat → Int32) (hsh : Int64) (hl : len ≤ 100) (hp : pl ≤ len) : Con g yX3_here cX3_here 1 (some .int) ({ frames := 0, cells := 0, slots := 0, locals := 0 } : Room) [.ref (b 0)] (modelW g b nw wv ah pa pw ai aw sts rf tx len pl ord lr nu hsh) (Is (some (.int (hereP tx len pl))) (modelW g b nw wv ah pa pw ai aw sts rf tx len pl ord lr nu hsh)) := by
  refine con_of_V ypl_X3_here (Nat.le_of_ble_eq_true rfl) [(0, .ref (b 0))] rfl (fun Γ ok => ?_)
  refine V_aload_n ok dX3_here_0 rfl 0 rfl ?_
  refine V_get (v := .int (nI pl)) ok 0 11 tw_X3 twf_X3_155 rfl rfl (by decide) dX3_here_1 rfl rfl ?_
  refine V_aload_n ok dX3_here_4 rfl 0 rfl ?_
  refine V_get (v := .int (nI len)) ok 0 10 tw_X3 twf_X3_152 rfl rfl (by decide) dX3_here_5 rfl rfl ?_
  refine V_icmpN_ge (tgt := 23) ok dX3_here_8 (by decide) (by omega) (by omega) (fun h8 => ?_) (fun h8 => ?_)
  · refine V_iconst (v := (-1)) ok dX3_here_23 rfl ?_
    exact V_iret ok dX3_here_24 (Nat.zero_le _) (Nat.zero_le _) ⟨by rw [hereP, if_pos h8], rfl⟩
  · refine V_aload_n ok dX3_here_11 rfl 0 rfl ?_
    refine V_get (v := .ref (b 9)) ok 0 9 tw_X3 twf_X3_35 rfl rfl (by decide) dX3_here_12 rfl rfl ?_
    refine V_aload_n ok dX3_here_15 rfl 0 rfl ?_
    refine V_get (v := .int (nI pl)) ok 0 11 tw_X3 twf_X3_155 rfl rfl (by decide) dX3_here_16 rfl rfl ?_
    refine V_iald (f := tx) (N := 100) ok 9 pl dX3_here_19 rfl rfl (by omega) (by decide) ?_
    refine V_goto (tgt := 24) ok dX3_here_20 (by decide) ?_
    exact V_iret ok dX3_here_24 (Nat.zero_le _) (Nat.zero_le _) ⟨by rw [hereP, if_neg h8], rfl⟩
set_option maxHeartbeats 4000000 in
set_option maxRecDepth 100000 in
theorem c_X3_blanks (g : Glob) (b : Nat → Nat) (nw : Nat → Int32) (wv : Nat → UInt64) (ah : Nat → UInt64) (pa : Nat → Int32) (pw : Nat → UInt64) (ai : Nat → Int32) (aw : Nat → UInt64) (sts : Nat) (rf : Nat → Int32) (tx : Nat → Int32) (len : Nat) (pl : Nat) (ord : Nat) (lr : Nat → Int32) (nu : Nat → Int32) (hsh : Int64) (hl : len ≤ 100) (hp : pl ≤ len) : Con g yX3_blanks cX3_blanks 1 none ({ frames := 1, cells := 0, slots := 0, locals := 20 } : Room) [.ref (b 0)] (modelW g b nw wv ah pa pw ai aw sts rf tx len pl ord lr nu hsh) (Is none (modelW g b nw wv ah pa pw ai aw sts rf tx len (skipP tx len pl) ord lr nu hsh)) := by
  refine con_of_V ypl_X3_blanks (Nat.le_of_ble_eq_true rfl) [(0, .ref (b 0))] rfl (fun Γ ok => ?_)
  have HL : ∀ (n p : Nat), p ≤ len → n = len - p → (skipP tx len p = skipP tx len pl) → V g Γ 1 0 0 0 (modelW g b nw wv ah pa pw ai aw sts rf tx len p ord lr nu hsh) [(0, .ref (b 0))] [] := by
    intro n
    induction n using Nat.strongRecOn with
    | ind n ih =>
    intro p hi hn hI
    subst hn
    refine V_aload_n ok dX3_blanks_0 rfl 0 rfl ?_
    refine V_cW (v2 := some (.int (hereP tx len p))) (w2 := modelW g b nw wv ah pa pw ai aw sts rf tx len p ord lr nu hsh) (rest := []) ok 0 3 (c_X3_here g b nw wv ah pa pw ai aw sts rf tx len p ord lr nu hsh hl hi) 0 twm_X3_158 twi_yX3_here twv_yX3_here twin_X3 twc_yX3_here yok_X3_here (by decide) ⟨rfl, rfl⟩ dX3_blanks_1 rfl rfl rfl rfl (Nat.le_of_ble_eq_true rfl) ⟨Nat.zero_le _, Nat.zero_le _⟩ ?_
    refine V_bipush (v := nI 32) ok dX3_blanks_4 rfl ?_
    refine V_icmp_ne (tgt := 22) ok dX3_blanks_6 (by decide) (fun h6 => ?_) (fun h6 => ?_)
    · exact V_vret ok dX3_blanks_22 (Nat.zero_le _) (Nat.zero_le _) ⟨rfl, by rw [← hI, skipP_no' h6]⟩
    · refine V_aload_n ok dX3_blanks_9 rfl 0 rfl ?_
      refine V_dup ok dX3_blanks_10 rfl ?_
      refine V_get (v := .int (nI p)) ok 0 11 tw_X3 twf_X3_155 rfl rfl (by decide) dX3_blanks_11 rfl rfl ?_
      refine V_iconst (v := nI 1) ok dX3_blanks_14 rfl ?_
      refine V_iaddN (a := p) (b := 1) (c := p + 1) ok dX3_blanks_15 (by first | rfl | omega) ?_
      refine V_put (w2 := modelW g b nw wv ah pa pw ai aw sts rf tx len (p + 1) ord lr nu hsh) ok 0 11 tw_X3 tyX3 tyX3_ok nmX3 twf_X3_155 rfl rfl (by decide) rfl rfl dX3_blanks_16 rfl rfl rfl (Nat.lt_of_lt_of_eq (m := 16) (by decide) rfl) rfl ?_
      refine V_goto (tgt := 0) ok dX3_blanks_19 (by decide) ?_
      refine V_lv [0] rfl ?_
      exact ih (len - (p + 1)) (by have := here_eq (c := 32) (by decide) h6; omega) (p + 1) (here_eq (c := 32) (by decide) h6) rfl (by rw [← hI]; exact (skipP_yes (by have := here_eq (c := 32) (by decide) h6; omega) (here_tx h6)).symm)
  exact HL (len - pl) pl hp rfl rfl
set_option maxHeartbeats 4000000 in
set_option maxRecDepth 100000 in
theorem c_X3_passesNumber (g : Glob) (b : Nat → Nat) (nw : Nat → Int32) (wv : Nat → UInt64) (ah : Nat → UInt64) (pa : Nat → Int32) (pw : Nat → UInt64) (ai : Nat → Int32) (aw : Nat → UInt64) (sts : Nat) (rf : Nat → Int32) (tx : Nat → Int32) (len : Nat) (pl : Nat) (ord : Nat) (lr : Nat → Int32) (nu : Nat → Int32) (hsh : Int64) (to : Nat) (mb : Bool) (hto : to < 100) (hl : len ≤ 100) (hp : pl ≤ len) : Con g yX3_passesNumber cX3_passesNumber 6 (some .boolean) ({ frames := 2, cells := 0, slots := 0, locals := 40 } : Room) [.ref (b 0), .int (nI to), .int (bI mb)] (modelW g b nw wv ah pa pw ai aw sts rf tx len pl ord lr nu hsh) (Is (some (.int (bI (pnF tx len pl mb).1))) (modelW g b nw wv ah pa pw ai aw sts rf tx len ((pnF tx len pl mb).2.1) ord lr (upd nu to (pnF tx len pl mb).2.2) hsh)) := by
  refine con_of_V ypl_X3_passesNumber (Nat.le_of_ble_eq_true rfl) [(0, .ref (b 0)), (1, .int (nI to)), (2, .int (bI mb))] rfl (fun Γ ok => ?_)
  have HT : ∀ (c : Nat) (le : Bool) (p : Nat) (v : Int32), c ≤ 4 → p ≤ len → pnR tx len le (p, v, c) = pnF tx len pl mb → V g Γ 6 0 0 98 (modelW g b nw wv ah pa pw ai aw sts rf tx len p ord lr nu hsh) [(5, .int (nI c)), (4, .int v), (3, .int (bI le)), (2, .int (bI mb)), (1, .int (nI to)), (0, .ref (b 0))] [] := by
    intro c le p v hc4 hp2 hE
    refine V_aload_n ok dX3_passesNumber_98 rfl 5 rfl ?_
    refine V_get (v := .ref (b 11)) ok 0 14 tw_X3 twf_X3_41 rfl rfl (by decide) dX3_passesNumber_99 rfl rfl ?_
    refine V_iload_n ok dX3_passesNumber_102 rfl 4 rfl ?_
    refine V_iload_n ok dX3_passesNumber_103 rfl 2 rfl ?_
    have J104 : V g Γ 6 0 0 115 (modelW g b nw wv ah pa pw ai aw sts rf tx len p ord lr nu hsh) [(5, .int (nI c)), (4, .int v), (3, .int (bI le)), (2, .int (bI mb)), (1, .int (nI to)), (0, .ref (b 0))] [.int (if le = true then -v else v), .int (nI to), .ref (b 11)] := by
      refine V_iast (f := nu) (N := 100) (w2 := modelW g b nw wv ah pa pw ai aw sts rf tx len p ord lr (upd nu to (if le = true then -v else v)) hsh) ok 11 to dX3_passesNumber_115 rfl rfl hto (by decide) rfl ?_
      refine V_iload ok dX3_passesNumber_116 0 rfl ?_
      refine V_ifN_le (tgt := 139) ok dX3_passesNumber_118 (by decide) (by omega) (fun h118 => ?_) (fun h118 => ?_)
      · refine V_iconst (v := nI 0) ok dX3_passesNumber_139 rfl ?_
        exact V_zret ok dX3_passesNumber_140 (Nat.zero_le _) (Nat.zero_le _) rfl ⟨bI_f (by rw [← hE]; exact if_pos h118), by rw [← hE]; rfl⟩
      · refine V_aload_n ok dX3_passesNumber_121 rfl 5 rfl ?_
        refine V_cW (v2 := some (.int (hereP tx len p))) (w2 := modelW g b nw wv ah pa pw ai aw sts rf tx len p ord lr (upd nu to (if le = true then -v else v)) hsh) (rest := []) ok 0 3 (c_X3_here g b nw wv ah pa pw ai aw sts rf tx len p ord lr (upd nu to (if le = true then -v else v)) hsh hl hp2) 0 twm_X3_158 twi_yX3_here twv_yX3_here twin_X3 twc_yX3_here yok_X3_here (by decide) ⟨rfl, rfl⟩ dX3_passesNumber_122 rfl rfl rfl rfl (Nat.le_of_ble_eq_true rfl) ⟨Nat.zero_le _, Nat.zero_le _⟩ ?_
        refine V_bipush (v := nI 48) ok dX3_passesNumber_125 rfl ?_
        refine V_bipush (v := nI 57) ok dX3_passesNumber_127 rfl ?_
        refine V_cS (v2 := some (.int (bI (wiB (hereP tx len p) (nI 48) (nI 57))))) (wn := modelW g b nw wv ah pa pw ai aw sts rf tx len p ord lr (upd nu to (if le = true then -v else v)) hsh) (rest := []) ok (c_X3_within g (hereP tx len p) (nI 48) (nI 57)) 3 twm_X3_74 tws_yX3_within twin_X3 twc_yX3_within yok_X3_within (by decide) ⟨rfl, rfl⟩ dX3_passesNumber_129 rfl rfl (Nat.le_of_ble_eq_true rfl) ⟨Nat.zero_le _, Nat.zero_le _⟩ [] rfl rfl (Nat.le_of_ble_eq_true rfl) rfl ?_
        refine V_ifB_ne (tgt := 139) ok dX3_passesNumber_132 (by decide) (fun h132 => ?_) (fun h132 => ?_)
        · refine V_iconst (v := nI 0) ok dX3_passesNumber_139 rfl ?_
          exact V_zret ok dX3_passesNumber_140 (Nat.zero_le _) (Nat.zero_le _) rfl ⟨bI_f (by rw [← hE]; exact (if_neg h118).trans (if_pos h132)), by rw [← hE]; rfl⟩
        · refine V_iconst (v := nI 1) ok dX3_passesNumber_135 rfl ?_
          refine V_goto (tgt := 140) ok dX3_passesNumber_136 (by decide) ?_
          exact V_zret ok dX3_passesNumber_140 (Nat.zero_le _) (Nat.zero_le _) rfl ⟨bI_t (by rw [← hE]; exact (if_neg h118).trans (if_neg h132)), by rw [← hE]; rfl⟩
    refine V_ifB_eq (tgt := 113) ok dX3_passesNumber_104 (by decide) (fun h104 => ?_) (fun h104 => ?_)
    · refine V_iload ok dX3_passesNumber_113 1 rfl ?_
      simp only [if_neg h104] at J104
      exact J104
    · refine V_iload ok dX3_passesNumber_107 1 rfl ?_
      refine V_ineg ok dX3_passesNumber_109 ?_
      refine V_goto (tgt := 115) ok dX3_passesNumber_110 (by decide) ?_
      simp only [if_pos h104] at J104
      exact J104
  have HL : ∀ (n c : Nat) (le : Bool) (p : Nat) (v : Int32), c ≤ 4 → n = 4 - c → (p ≤ len ∧ pnR tx len le (numN tx len (4 - c) p v c) = pnF tx len pl mb) → V g Γ 6 0 0 47 (modelW g b nw wv ah pa pw ai aw sts rf tx len p ord lr nu hsh) [(5, .int (nI c)), (4, .int v), (3, .int (bI le)), (2, .int (bI mb)), (1, .int (nI to)), (0, .ref (b 0))] [] := by
    intro n
    induction n using Nat.strongRecOn with
    | ind n ih =>
    intro c le p v hi hn hI
    subst hn
    refine V_aload_n ok dX3_passesNumber_47 rfl 5 rfl ?_
    refine V_cW (v2 := some (.int (hereP tx len p))) (w2 := modelW g b nw wv ah pa pw ai aw sts rf tx len p ord lr nu hsh) (rest := []) ok 0 3 (c_X3_here g b nw wv ah pa pw ai aw sts rf tx len p ord lr nu hsh hl hI.1) 0 twm_X3_158 twi_yX3_here twv_yX3_here twin_X3 twc_yX3_here yok_X3_here (by decide) ⟨rfl, rfl⟩ dX3_passesNumber_48 rfl rfl rfl rfl (Nat.le_of_ble_eq_true rfl) ⟨Nat.zero_le _, Nat.zero_le _⟩ ?_
    refine V_bipush (v := nI 48) ok dX3_passesNumber_51 rfl ?_
    refine V_bipush (v := nI 57) ok dX3_passesNumber_53 rfl ?_
    refine V_cS (v2 := some (.int (bI (wiB (hereP tx len p) (nI 48) (nI 57))))) (wn := modelW g b nw wv ah pa pw ai aw sts rf tx len p ord lr nu hsh) (rest := []) ok (c_X3_within g (hereP tx len p) (nI 48) (nI 57)) 3 twm_X3_74 tws_yX3_within twin_X3 twc_yX3_within yok_X3_within (by decide) ⟨rfl, rfl⟩ dX3_passesNumber_55 rfl rfl (Nat.le_of_ble_eq_true rfl) ⟨Nat.zero_le _, Nat.zero_le _⟩ [] rfl rfl (Nat.le_of_ble_eq_true rfl) rfl ?_
    refine V_ifB_eq (tgt := 98) ok dX3_passesNumber_58 (by decide) (fun h58 => ?_) (fun h58 => ?_)
    · refine V_lv [0, 1, 2, 3, 4, 5] rfl ?_
      exact HT c le p v hi hI.1 (by rw [← hI.2, numN_stop _ _ _ h58])
    · refine V_iload ok dX3_passesNumber_61 0 rfl ?_
      refine V_iconst (v := nI 4) ok dX3_passesNumber_63 rfl ?_
      refine V_icmpN_ge (tgt := 98) ok dX3_passesNumber_64 (by decide) (by omega) (by omega) (fun h64 => ?_) (fun h64 => ?_)
      · refine V_lv [0, 1, 2, 3, 4, 5] rfl ?_
        exact HT c le p v hi hI.1 (by rw [← hI.2, show numN tx len (4 - c) p v c = (p, v, c) by rw [show 4 - c = 0 by omega]; rfl])
      · refine V_bipush (v := nI 10) ok dX3_passesNumber_67 rfl ?_
        refine V_iload ok dX3_passesNumber_69 1 rfl ?_
        refine V_imul ok dX3_passesNumber_71 ?_
        refine V_aload_n ok dX3_passesNumber_72 rfl 5 rfl ?_
        refine V_cW (v2 := some (.int (hereP tx len p))) (w2 := modelW g b nw wv ah pa pw ai aw sts rf tx len p ord lr nu hsh) (rest := [.int ((nI 10) * v)]) ok 0 3 (c_X3_here g b nw wv ah pa pw ai aw sts rf tx len p ord lr nu hsh hl hI.1) 0 twm_X3_158 twi_yX3_here twv_yX3_here twin_X3 twc_yX3_here yok_X3_here (by decide) ⟨rfl, rfl⟩ dX3_passesNumber_73 rfl rfl rfl rfl (Nat.le_of_ble_eq_true rfl) ⟨Nat.zero_le _, Nat.zero_le _⟩ ?_
        refine V_iadd ok dX3_passesNumber_76 ?_
        refine V_bipush (v := nI 48) ok dX3_passesNumber_77 rfl ?_
        refine V_isub ok dX3_passesNumber_79 ?_
        refine V_top_int (b := v * nI 10 + (hereP tx len p - nI 48)) (num_ring _ _) ?_
        refine V_istore (lv2 := [(4, .int (v * nI 10 + (hereP tx len p - nI 48))), (5, .int (nI c)), (3, .int (bI le)), (2, .int (bI mb)), (1, .int (nI to)), (0, .ref (b 0))]) ok dX3_passesNumber_80 (by decide) rfl ?_
        refine V_aload_n ok dX3_passesNumber_82 rfl 5 rfl ?_
        refine V_dup ok dX3_passesNumber_83 rfl ?_
        refine V_get (v := .int (nI p)) ok 0 11 tw_X3 twf_X3_155 rfl rfl (by decide) dX3_passesNumber_84 rfl rfl ?_
        refine V_iconst (v := nI 1) ok dX3_passesNumber_87 rfl ?_
        refine V_iaddN (a := p) (b := 1) (c := p + 1) ok dX3_passesNumber_88 (by first | rfl | omega) ?_
        refine V_put (w2 := modelW g b nw wv ah pa pw ai aw sts rf tx len (p + 1) ord lr nu hsh) ok 0 11 tw_X3 tyX3 tyX3_ok nmX3 twf_X3_155 rfl rfl (by decide) rfl rfl dX3_passesNumber_89 rfl rfl rfl (Nat.lt_of_lt_of_eq (m := 16) (by decide) rfl) rfl ?_
        refine V_iinc (q := 1) (v := nI (c + 1)) (lv2 := [(5, .int (nI (c + 1))), (4, .int (v * nI 10 + (hereP tx len p - nI 48))), (3, .int (bI le)), (2, .int (bI mb)), (1, .int (nI to)), (0, .ref (b 0))]) ok dX3_passesNumber_92 rfl (nI_inc c 1) (by decide) rfl ?_
        refine V_goto (tgt := 47) ok dX3_passesNumber_95 (by decide) ?_
        refine V_lv [0, 1, 2, 3, 4, 5] rfl ?_
        exact ih (4 - (c + 1)) (by omega) (c + 1) le (p + 1) (v * nI 10 + (hereP tx len p - nI 48)) (by omega) rfl ⟨here_lt (wiB_iff.mp h58).1, by rw [← hI.2, show 4 - c = (4 - (c + 1)) + 1 by omega, numN_go _ _ _ h58]⟩
  have hsk := skipP_le (tx := tx) hp
  cases mb with
  | false =>
    refine V_aload_n ok dX3_passesNumber_0 rfl 0 rfl ?_
    refine V_cW (v2 := none) (w2 := modelW g b nw wv ah pa pw ai aw sts rf tx len (skipP tx len pl) ord lr nu hsh) (rest := []) ok 0 3 (c_X3_blanks g b nw wv ah pa pw ai aw sts rf tx len pl ord lr nu hsh hl hp) 0 twm_X3_162 twi_yX3_blanks twv_yX3_blanks twin_X3 twc_yX3_blanks yok_X3_blanks (by decide) ⟨rfl, rfl⟩ dX3_passesNumber_1 rfl rfl rfl rfl (Nat.le_of_ble_eq_true rfl) ⟨Nat.zero_le _, Nat.zero_le _⟩ ?_
    refine V_iload_n ok dX3_passesNumber_4 rfl 2 rfl ?_
    refine V_ifB_eq (tgt := 21) ok dX3_passesNumber_5 (by decide) (fun h5 => ?_) (fun h5 => absurd h5 (by decide))
    refine V_iconst (v := nI 0) ok dX3_passesNumber_21 rfl ?_
    refine V_istore_n (lv2 := [(3, .int (nI 0)), (0, .ref (b 0)), (1, .int (nI to)), (2, .int (bI false))]) ok dX3_passesNumber_22 rfl (by decide) rfl ?_
    refine V_aload_n ok dX3_passesNumber_23 rfl 1 rfl ?_
    refine V_dup ok dX3_passesNumber_24 rfl ?_
    refine V_get (v := .int (nI (skipP tx len pl))) ok 0 11 tw_X3 twf_X3_155 rfl rfl (by decide) dX3_passesNumber_25 rfl rfl ?_
    refine V_iload_n ok dX3_passesNumber_28 rfl 0 rfl ?_
    refine V_ifN_eq (tgt := 36) ok dX3_passesNumber_29 (by decide) (by omega) (fun h29 => ?_) (fun h29 => absurd rfl h29)
    refine V_iconst (v := nI 0) ok dX3_passesNumber_36 rfl ?_
    refine V_iaddN (a := skipP tx len pl) (b := 0) (c := skipP tx len pl) ok dX3_passesNumber_37 (by first | rfl | omega) ?_
    refine V_put (w2 := modelW g b nw wv ah pa pw ai aw sts rf tx len (skipP tx len pl) ord lr nu hsh) ok 0 11 tw_X3 tyX3 tyX3_ok nmX3 twf_X3_155 rfl rfl (by decide) rfl rfl dX3_passesNumber_38 rfl rfl rfl (Nat.lt_of_lt_of_eq (m := 16) (by decide) rfl) rfl ?_
    refine V_iconst (v := nI 0) ok dX3_passesNumber_41 rfl ?_
    refine V_istore (lv2 := [(4, .int (nI 0)), (3, .int (nI 0)), (0, .ref (b 0)), (1, .int (nI to)), (2, .int (bI false))]) ok dX3_passesNumber_42 (by decide) rfl ?_
    refine V_iconst (v := nI 0) ok dX3_passesNumber_44 rfl ?_
    refine V_istore (lv2 := [(5, .int (nI 0)), (4, .int (nI 0)), (3, .int (nI 0)), (0, .ref (b 0)), (1, .int (nI to)), (2, .int (bI false))]) ok dX3_passesNumber_45 (by decide) rfl ?_
    refine V_lv [0, 1, 2, 5, 4, 3] rfl ?_
    exact HL 4 0 false _ (nI 0) (by decide) rfl ⟨hsk.2, (if_neg (fun z => absurd z.1 (by decide))).symm⟩
  | true =>
    refine V_aload_n ok dX3_passesNumber_0 rfl 0 rfl ?_
    refine V_cW (v2 := none) (w2 := modelW g b nw wv ah pa pw ai aw sts rf tx len (skipP tx len pl) ord lr nu hsh) (rest := []) ok 0 3 (c_X3_blanks g b nw wv ah pa pw ai aw sts rf tx len pl ord lr nu hsh hl hp) 0 twm_X3_162 twi_yX3_blanks twv_yX3_blanks twin_X3 twc_yX3_blanks yok_X3_blanks (by decide) ⟨rfl, rfl⟩ dX3_passesNumber_1 rfl rfl rfl rfl (Nat.le_of_ble_eq_true rfl) ⟨Nat.zero_le _, Nat.zero_le _⟩ ?_
    refine V_iload_n ok dX3_passesNumber_4 rfl 2 rfl ?_
    refine V_ifB_eq (tgt := 21) ok dX3_passesNumber_5 (by decide) (fun h5 => absurd rfl h5) (fun h5 => ?_)
    refine V_aload_n ok dX3_passesNumber_8 rfl 0 rfl ?_
    refine V_cW (v2 := some (.int (hereP tx len (skipP tx len pl)))) (w2 := modelW g b nw wv ah pa pw ai aw sts rf tx len (skipP tx len pl) ord lr nu hsh) (rest := []) ok 0 3 (c_X3_here g b nw wv ah pa pw ai aw sts rf tx len (skipP tx len pl) ord lr nu hsh hl hsk.2) 0 twm_X3_158 twi_yX3_here twv_yX3_here twin_X3 twc_yX3_here yok_X3_here (by decide) ⟨rfl, rfl⟩ dX3_passesNumber_9 rfl rfl rfl rfl (Nat.le_of_ble_eq_true rfl) ⟨Nat.zero_le _, Nat.zero_le _⟩ ?_
    refine V_bipush (v := nI 45) ok dX3_passesNumber_12 rfl ?_
    refine V_icmp_ne (tgt := 21) ok dX3_passesNumber_14 (by decide) (fun h14 => ?_) (fun h14 => ?_)
    · refine V_iconst (v := nI 0) ok dX3_passesNumber_21 rfl ?_
      refine V_istore_n (lv2 := [(3, .int (nI 0)), (0, .ref (b 0)), (1, .int (nI to)), (2, .int (bI true))]) ok dX3_passesNumber_22 rfl (by decide) rfl ?_
      refine V_aload_n ok dX3_passesNumber_23 rfl 1 rfl ?_
      refine V_dup ok dX3_passesNumber_24 rfl ?_
      refine V_get (v := .int (nI (skipP tx len pl))) ok 0 11 tw_X3 twf_X3_155 rfl rfl (by decide) dX3_passesNumber_25 rfl rfl ?_
      refine V_iload_n ok dX3_passesNumber_28 rfl 0 rfl ?_
      refine V_ifN_eq (tgt := 36) ok dX3_passesNumber_29 (by decide) (by omega) (fun h29 => ?_) (fun h29 => absurd rfl h29)
      refine V_iconst (v := nI 0) ok dX3_passesNumber_36 rfl ?_
      refine V_iaddN (a := skipP tx len pl) (b := 0) (c := skipP tx len pl) ok dX3_passesNumber_37 (by first | rfl | omega) ?_
      refine V_put (w2 := modelW g b nw wv ah pa pw ai aw sts rf tx len (skipP tx len pl) ord lr nu hsh) ok 0 11 tw_X3 tyX3 tyX3_ok nmX3 twf_X3_155 rfl rfl (by decide) rfl rfl dX3_passesNumber_38 rfl rfl rfl (Nat.lt_of_lt_of_eq (m := 16) (by decide) rfl) rfl ?_
      refine V_iconst (v := nI 0) ok dX3_passesNumber_41 rfl ?_
      refine V_istore (lv2 := [(4, .int (nI 0)), (3, .int (nI 0)), (0, .ref (b 0)), (1, .int (nI to)), (2, .int (bI true))]) ok dX3_passesNumber_42 (by decide) rfl ?_
      refine V_iconst (v := nI 0) ok dX3_passesNumber_44 rfl ?_
      refine V_istore (lv2 := [(5, .int (nI 0)), (4, .int (nI 0)), (3, .int (nI 0)), (0, .ref (b 0)), (1, .int (nI to)), (2, .int (bI true))]) ok dX3_passesNumber_45 (by decide) rfl ?_
      refine V_lv [0, 1, 2, 5, 4, 3] rfl ?_
      exact HL 4 0 false _ (nI 0) (by decide) rfl ⟨hsk.2, (if_neg (fun z => h14 z.2)).symm⟩
    · refine V_iconst (v := nI 1) ok dX3_passesNumber_17 rfl ?_
      refine V_goto (tgt := 22) ok dX3_passesNumber_18 (by decide) ?_
      refine V_istore_n (lv2 := [(3, .int (nI 1)), (0, .ref (b 0)), (1, .int (nI to)), (2, .int (bI true))]) ok dX3_passesNumber_22 rfl (by decide) rfl ?_
      refine V_aload_n ok dX3_passesNumber_23 rfl 1 rfl ?_
      refine V_dup ok dX3_passesNumber_24 rfl ?_
      refine V_get (v := .int (nI (skipP tx len pl))) ok 0 11 tw_X3 twf_X3_155 rfl rfl (by decide) dX3_passesNumber_25 rfl rfl ?_
      refine V_iload_n ok dX3_passesNumber_28 rfl 0 rfl ?_
      refine V_ifN_eq (tgt := 36) ok dX3_passesNumber_29 (by decide) (by omega) (fun h29 => absurd h29 (by decide)) (fun h29 => ?_)
      refine V_iconst (v := nI 1) ok dX3_passesNumber_32 rfl ?_
      refine V_goto (tgt := 37) ok dX3_passesNumber_33 (by decide) ?_
      refine V_iaddN (a := skipP tx len pl) (b := 1) (c := skipP tx len pl + 1) ok dX3_passesNumber_37 (by first | rfl | omega) ?_
      refine V_put (w2 := modelW g b nw wv ah pa pw ai aw sts rf tx len (skipP tx len pl + 1) ord lr nu hsh) ok 0 11 tw_X3 tyX3 tyX3_ok nmX3 twf_X3_155 rfl rfl (by decide) rfl rfl dX3_passesNumber_38 rfl rfl rfl (Nat.lt_of_lt_of_eq (m := 16) (by decide) rfl) rfl ?_
      refine V_iconst (v := nI 0) ok dX3_passesNumber_41 rfl ?_
      refine V_istore (lv2 := [(4, .int (nI 0)), (3, .int (nI 1)), (0, .ref (b 0)), (1, .int (nI to)), (2, .int (bI true))]) ok dX3_passesNumber_42 (by decide) rfl ?_
      refine V_iconst (v := nI 0) ok dX3_passesNumber_44 rfl ?_
      refine V_istore (lv2 := [(5, .int (nI 0)), (4, .int (nI 0)), (3, .int (nI 1)), (0, .ref (b 0)), (1, .int (nI to)), (2, .int (bI true))]) ok dX3_passesNumber_45 (by decide) rfl ?_
      refine V_lv [0, 1, 2, 5, 4, 3] rfl ?_
      exact HL 4 0 true _ (nI 0) (by decide) rfl ⟨here_eq (c := 45) (by decide) h14, (if_pos ⟨rfl, h14⟩).symm⟩
