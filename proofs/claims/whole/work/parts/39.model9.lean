theorem mb_top (c : Int32) : (if c = nI 104 then nI 1 else (if c = nI 113 then nI 1 else nI 0)) = bI (mbB c) := by
  unfold mbB
  by_cases h1 : c = nI 104
  · rw [if_pos h1, if_pos h1]; rfl
  · rw [if_neg h1, if_neg h1]
    by_cases h2 : c = nI 113
    · rw [if_pos h2, if_pos h2]; rfl
    · rw [if_neg h2, if_neg h2]; rfl
theorem let_in {tx : Nat → Int32} {len pl : Nat} (h : letB (hereP tx len pl) = true) : pl < len := here_in (tx := tx) (fun q => by rw [q] at h; exact absurd h (by decide))
theorem moE_le {tx : Nat → Int32} {len p : Nat} (f s : Int32) (h : p ≤ len) : (moE tx len p f s).2.1 ≤ len ∧ p ≤ (moE tx len p f s).2.1 ∧ ((moE tx len p f s).1 = true → p + 1 ≤ (moE tx len p f s).2.1) := by
  have a := skipP_le (tx := tx) h
  unfold moE
  split
  · have := here_eq (c := 59) (by decide) ‹_›
    exact ⟨this, by show p ≤ skipP tx len p + 1; omega, fun _ => by show p + 1 ≤ skipP tx len p + 1; omega⟩
  · exact ⟨a.2, a.1, fun z => absurd z Bool.false_ne_true⟩
theorem moF_le {tx : Nat → Int32} {len pl : Nat} (h : pl ≤ len) : (moF tx len pl).2.1 ≤ len ∧ pl ≤ (moF tx len pl).2.1 ∧ ((moF tx len pl).1 = true → pl + 2 ≤ (moF tx len pl).2.1) := by
  unfold moF
  split
  · have hin := let_in ‹_›
    have a := pnF_le (tx := tx) (mbB (hereP tx len pl)) (show pl + 1 ≤ len from hin)
    generalize pnF tx len (pl + 1) (mbB (hereP tx len pl)) = r at a
    unfold moS
    split
    · split
      · have b := pnF_le (tx := tx) false a.2
        split
        · have c := moE_le (tx := tx) r.2.2 (pnF tx len r.2.1 false).2.2 b.2
          exact ⟨c.1, by omega, fun z => by have := c.2.2 z; omega⟩
        · exact ⟨b.2, by show pl ≤ (pnF tx len r.2.1 false).2.1; omega, fun z => absurd z Bool.false_ne_true⟩
      · have c := moE_le (tx := tx) r.2.2 0 a.2
        exact ⟨c.1, by omega, fun z => by have := c.2.2 z; omega⟩
    · exact ⟨a.2, by show pl ≤ r.2.1; omega, fun z => absurd z Bool.false_ne_true⟩
  · exact ⟨h, Nat.le_refl _, fun z => absurd z Bool.false_ne_true⟩
/-- what one order leaves in the rows -/
def RecS (tx : Nat → Int32) (len pl ord : Nat) (lr nu lr2 nu2 : Nat → Int32) : Prop := ((moF tx len pl).1 = true → lr2 ord = hereP tx len pl ∧ nu2 (2 * ord) = (moF tx len pl).2.2.1 ∧ (hereP tx len pl = nI 119 → nu2 (2 * ord + 1) = (moF tx len pl).2.2.2)) ∧ (∀ j, j < ord → lr2 j = lr j) ∧ (∀ j, j < 2 * ord → nu2 j = nu j)
/-- where the j-th order begins -/
def plc (tx : Nat → Int32) (len : Nat) : Nat → Nat
  | 0 => skipP tx len 0
  | j + 1 => skipP tx len (moF tx len (plc tx len j)).2.1
def Rec (tx : Nat → Int32) (len n : Nat) (lr nu : Nat → Int32) : Prop := ∀ j, j < n → (moF tx len (plc tx len j)).1 = true ∧ lr j = hereP tx len (plc tx len j) ∧ nu (2 * j) = (moF tx len (plc tx len j)).2.2.1 ∧ (hereP tx len (plc tx len j) = nI 119 → nu (2 * j + 1) = (moF tx len (plc tx len j)).2.2.2)
theorem Rec.next {tx : Nat → Int32} {len n : Nat} {lr nu lr2 nu2 : Nat → Int32} (h : Rec tx len n lr nu) (k : RecS tx len (plc tx len n) n lr nu lr2 nu2) (ok : (moF tx len (plc tx len n)).1 = true) : Rec tx len (n + 1) lr2 nu2 := fun j hj => by
  by_cases e : j = n
  · subst e; exact ⟨ok, k.1 ok⟩
  · obtain ⟨h1, h2, h3, h4⟩ := h j (by omega)
    exact ⟨h1, (k.2.1 j (by omega)).trans h2, (k.2.2 _ (by omega)).trans h3, fun z => (k.2.2 _ (by omega)).trans (h4 z)⟩
theorem Rec.same {tx : Nat → Int32} {len n : Nat} {lr nu lr2 nu2 : Nat → Int32} {p : Nat} (h : Rec tx len n lr nu) (k : RecS tx len p n lr nu lr2 nu2) : Rec tx len n lr2 nu2 := fun j hj => by
  obtain ⟨h1, h2, h3, h4⟩ := h j (by omega)
  exact ⟨h1, (k.2.1 j (by omega)).trans h2, (k.2.2 _ (by omega)).trans h3, fun z => (k.2.2 _ (by omega)).trans (h4 z)⟩
def rdN (tx : Nat → Int32) (len : Nat) : Nat → Nat → Bool × Nat
  | 0, j => (true, j)
  | f + 1, j => if (moF tx len (plc tx len j)).1 = true then (if len ≤ plc tx len (j + 1) then (true, j + 1) else rdN tx len f (j + 1)) else (false, j)
def rdF (tx : Nat → Int32) (len : Nat) : Bool × Nat := rdN tx len 100 0
def rdP (tx : Nat → Int32) (len : Nat) : Nat := if (rdF tx len).1 = true then plc tx len (rdF tx len).2 else (moF tx len (plc tx len (rdF tx len).2)).2.1
theorem here_end {tx : Nat → Int32} {len p : Nat} (htx : ∀ p, p < len → ¬ tx p = (-1)) (h : hereP tx len p = (-1)) : len ≤ p := by
  unfold hereP at h
  by_cases e : len ≤ p
  · exact e
  · rw [if_neg e] at h; exact absurd h (htx p (by omega))
set_option maxHeartbeats 4000000 in
set_option maxRecDepth 100000 in
theorem c_X3_passesOrder (g : Glob) (b : Nat → Nat) (nw : Nat → Int32) (wv : Nat → UInt64) (ah : Nat → UInt64) (pa : Nat → Int32) (pw : Nat → UInt64) (ai : Nat → Int32) (aw : Nat → UInt64) (sts : Nat) (rf : Nat → Int32) (tx : Nat → Int32) (len : Nat) (pl : Nat) (ord : Nat) (lr : Nat → Int32) (nu : Nat → Int32) (hsh : Int64) (hl : len ≤ 100) (hp : pl ≤ len) (ho : ord < 50) : Con g yX3_passesOrder cX3_passesOrder 2 (some .boolean) ({ frames := 3, cells := 0, slots := 0, locals := 65 } : Room) [.ref (b 0)] (modelW g b nw wv ah pa pw ai aw sts rf tx len pl ord lr nu hsh) (fun r_ w_ => r_ = (some (.int (bI (moF tx len pl).1))) ∧ ∃ lr2 : Nat → Int32, ∃ nu2 : Nat → Int32, (RecS tx len pl ord lr nu lr2 nu2) ∧  w_ = modelW g b nw wv ah pa pw ai aw sts rf tx len ((moF tx len pl).2.1) (if (moF tx len pl).1 = true then ord + 1 else ord) lr2 nu2 hsh) := by
  refine con_of_V ypl_X3_passesOrder (Nat.le_of_ble_eq_true rfl) [(0, .ref (b 0))] rfl (fun Γ ok => ?_)
  refine V_aload_n ok dX3_passesOrder_0 rfl 0 rfl ?_
  refine V_cW (v2 := some (.int (hereP tx len pl))) (w2 := modelW g b nw wv ah pa pw ai aw sts rf tx len pl ord lr nu hsh) (rest := []) ok 0 3 (c_X3_here g b nw wv ah pa pw ai aw sts rf tx len pl ord lr nu hsh hl hp) 0 twm_X3_158 twi_yX3_here twv_yX3_here twin_X3 twc_yX3_here yok_X3_here (by decide) ⟨rfl, rfl⟩ dX3_passesOrder_1 rfl rfl rfl rfl (Nat.le_of_ble_eq_true rfl) ⟨Nat.zero_le _, Nat.zero_le _⟩ ?_
  refine V_istore_n (lv2 := [(1, .int (hereP tx len pl)), (0, .ref (b 0))]) ok dX3_passesOrder_4 rfl (by decide) rfl ?_
  refine V_iload_n ok dX3_passesOrder_5 rfl 0 rfl ?_
  refine V_cS (v2 := some (.int (bI (letB (hereP tx len pl))))) (wn := modelW g b nw wv ah pa pw ai aw sts rf tx len pl ord lr nu hsh) (rest := []) ok (c_X3_isOrder g (hereP tx len pl)) 1 twm_X3_165 tws_yX3_isOrder twin_X3 twc_yX3_isOrder yok_X3_isOrder (by decide) ⟨rfl, rfl⟩ dX3_passesOrder_6 rfl rfl (Nat.le_of_ble_eq_true rfl) ⟨Nat.zero_le _, Nat.zero_le _⟩ [] rfl rfl (Nat.le_of_ble_eq_true rfl) rfl ?_
  refine V_ifB_ne (tgt := 14) ok dX3_passesOrder_9 (by decide) (fun h9 => ?_) (fun h9 => ?_)
  · have hp1 : pl + 1 ≤ len := let_in h9
    refine V_aload_n ok dX3_passesOrder_14 rfl 1 rfl ?_
    refine V_get (v := .ref (b 10)) ok 0 13 tw_X3 twf_X3_38 rfl rfl (by decide) dX3_passesOrder_15 rfl rfl ?_
    refine V_aload_n ok dX3_passesOrder_18 rfl 1 rfl ?_
    refine V_get (v := .int (nI ord)) ok 0 12 tw_X3 twf_X3_168 rfl rfl (by decide) dX3_passesOrder_19 rfl rfl ?_
    refine V_iload_n ok dX3_passesOrder_22 rfl 0 rfl ?_
    refine V_iast (f := lr) (N := 50) (w2 := modelW g b nw wv ah pa pw ai aw sts rf tx len pl ord (upd lr ord (hereP tx len pl)) nu hsh) ok 10 ord dX3_passesOrder_23 rfl rfl ho (by decide) rfl ?_
    refine V_aload_n ok dX3_passesOrder_24 rfl 1 rfl ?_
    refine V_dup ok dX3_passesOrder_25 rfl ?_
    refine V_get (v := .int (nI pl)) ok 0 11 tw_X3 twf_X3_155 rfl rfl (by decide) dX3_passesOrder_26 rfl rfl ?_
    refine V_iconst (v := nI 1) ok dX3_passesOrder_29 rfl ?_
    refine V_iaddN (a := pl) (b := 1) (c := pl + 1) ok dX3_passesOrder_30 (by first | rfl | omega) ?_
    refine V_put (w2 := modelW g b nw wv ah pa pw ai aw sts rf tx len (pl + 1) ord (upd lr ord (hereP tx len pl)) nu hsh) ok 0 11 tw_X3 tyX3 tyX3_ok nmX3 twf_X3_155 rfl rfl (by decide) rfl rfl dX3_passesOrder_31 rfl rfl rfl (Nat.lt_of_lt_of_eq (m := 16) (by decide) rfl) rfl ?_
    refine V_aload_n ok dX3_passesOrder_34 rfl 1 rfl ?_
    refine V_iconst (v := nI 2) ok dX3_passesOrder_35 rfl ?_
    refine V_aload_n ok dX3_passesOrder_36 rfl 1 rfl ?_
    refine V_get (v := .int (nI ord)) ok 0 12 tw_X3 twf_X3_168 rfl rfl (by decide) dX3_passesOrder_37 rfl rfl ?_
    refine V_imulN (a := 2) (b := ord) (c := 2 * ord) ok dX3_passesOrder_40 (by first | rfl | omega) ?_
    refine V_iload_n ok dX3_passesOrder_41 rfl 0 rfl ?_
    refine V_bipush (v := nI 104) ok dX3_passesOrder_42 rfl ?_
    have J44 : V g Γ 2 0 0 58 (modelW g b nw wv ah pa pw ai aw sts rf tx len (pl + 1) ord (upd lr ord (hereP tx len pl)) nu hsh) [(1, .int (hereP tx len pl)), (0, .ref (b 0))] [.int (if (hereP tx len pl) = (nI 104) then nI 1 else (if (hereP tx len pl) = (nI 113) then nI 1 else nI 0)), .int (nI (2 * ord)), .ref (b 0)] := by
      refine V_top_int (b := bI (mbB (hereP tx len pl))) (mb_top _) ?_
      refine V_cW (v2 := some (.int (bI ((pnF tx len (pl + 1) (mbB (hereP tx len pl))).1)))) (w2 := modelW g b nw wv ah pa pw ai aw sts rf tx len ((pnF tx len (pl + 1) (mbB (hereP tx len pl))).2.1) ord (upd lr ord (hereP tx len pl)) (upd nu (2 * ord) (pnF tx len (pl + 1) (mbB (hereP tx len pl))).2.2) hsh) (rest := []) ok 0 3 (c_X3_passesNumber g b nw wv ah pa pw ai aw sts rf tx len (pl + 1) ord (upd lr ord (hereP tx len pl)) nu hsh (2 * ord) (mbB (hereP tx len pl)) (by omega) hl hp1) 2 twm_X3_171 twi_yX3_passesNumber twv_yX3_passesNumber twin_X3 twc_yX3_passesNumber yok_X3_passesNumber (by decide) ⟨rfl, rfl⟩ dX3_passesOrder_58 rfl rfl rfl rfl (Nat.le_of_ble_eq_true rfl) ⟨Nat.zero_le _, Nat.zero_le _⟩ ?_
      refine V_ifB_eq (tgt := 86) ok dX3_passesOrder_61 (by decide) (fun h61 => ?_) (fun h61 => ?_)
      · refine V_iconst (v := nI 0) ok dX3_passesOrder_86 rfl ?_
        exact V_zret ok dX3_passesOrder_87 (Nat.zero_le _) (Nat.zero_le _) rfl ⟨by rw [(show moF tx len pl = _ from (if_pos h9).trans (if_neg h61))]; rfl, upd lr ord (hereP tx len pl), upd nu (2 * ord) (pnF tx len (pl + 1) (mbB (hereP tx len pl))).2.2, ⟨fun z => absurd z (by rw [(show moF tx len pl = _ from (if_pos h9).trans (if_neg h61))]; exact Bool.false_ne_true), fun j hj => upd_ne (by omega), fun j hj => upd_ne (by omega)⟩, by rw [(show moF tx len pl = _ from (if_pos h9).trans (if_neg h61))]; rfl⟩
      · refine V_iload_n ok dX3_passesOrder_64 rfl 0 rfl ?_
        refine V_bipush (v := nI 119) ok dX3_passesOrder_65 rfl ?_
        refine V_icmp_ne (tgt := 88) ok dX3_passesOrder_67 (by decide) (fun h67 => ?_) (fun h67 => ?_)
        · refine V_aload_n ok dX3_passesOrder_88 rfl 1 rfl ?_
          refine V_cW (v2 := none) (w2 := modelW g b nw wv ah pa pw ai aw sts rf tx len (skipP tx len ((pnF tx len (pl + 1) (mbB (hereP tx len pl))).2.1)) ord (upd lr ord (hereP tx len pl)) (upd nu (2 * ord) (pnF tx len (pl + 1) (mbB (hereP tx len pl))).2.2) hsh) (rest := []) ok 0 3 (c_X3_blanks g b nw wv ah pa pw ai aw sts rf tx len ((pnF tx len (pl + 1) (mbB (hereP tx len pl))).2.1) ord (upd lr ord (hereP tx len pl)) (upd nu (2 * ord) (pnF tx len (pl + 1) (mbB (hereP tx len pl))).2.2) hsh hl (by first | exact (pnF_le _ (pnF_le _ hp1).2).2 | exact (pnF_le _ hp1).2)) 0 twm_X3_162 twi_yX3_blanks twv_yX3_blanks twin_X3 twc_yX3_blanks yok_X3_blanks (by decide) ⟨rfl, rfl⟩ dX3_passesOrder_89 rfl rfl rfl rfl (Nat.le_of_ble_eq_true rfl) ⟨Nat.zero_le _, Nat.zero_le _⟩ ?_
          refine V_aload_n ok dX3_passesOrder_92 rfl 1 rfl ?_
          refine V_cW (v2 := some (.int (hereP tx len (skipP tx len ((pnF tx len (pl + 1) (mbB (hereP tx len pl))).2.1))))) (w2 := modelW g b nw wv ah pa pw ai aw sts rf tx len (skipP tx len ((pnF tx len (pl + 1) (mbB (hereP tx len pl))).2.1)) ord (upd lr ord (hereP tx len pl)) (upd nu (2 * ord) (pnF tx len (pl + 1) (mbB (hereP tx len pl))).2.2) hsh) (rest := []) ok 0 3 (c_X3_here g b nw wv ah pa pw ai aw sts rf tx len (skipP tx len ((pnF tx len (pl + 1) (mbB (hereP tx len pl))).2.1)) ord (upd lr ord (hereP tx len pl)) (upd nu (2 * ord) (pnF tx len (pl + 1) (mbB (hereP tx len pl))).2.2) hsh hl (skipP_le (by first | exact (pnF_le _ (pnF_le _ hp1).2).2 | exact (pnF_le _ hp1).2)).2) 0 twm_X3_158 twi_yX3_here twv_yX3_here twin_X3 twc_yX3_here yok_X3_here (by decide) ⟨rfl, rfl⟩ dX3_passesOrder_93 rfl rfl rfl rfl (Nat.le_of_ble_eq_true rfl) ⟨Nat.zero_le _, Nat.zero_le _⟩ ?_
          refine V_bipush (v := nI 59) ok dX3_passesOrder_96 rfl ?_
          refine V_icmp_eq (tgt := 103) ok dX3_passesOrder_98 (by decide) (fun h98 => ?_) (fun h98 => ?_)
          · refine V_aload_n ok dX3_passesOrder_103 rfl 1 rfl ?_
            refine V_dup ok dX3_passesOrder_104 rfl ?_
            refine V_get (v := .int (nI (skipP tx len ((pnF tx len (pl + 1) (mbB (hereP tx len pl))).2.1)))) ok 0 11 tw_X3 twf_X3_155 rfl rfl (by decide) dX3_passesOrder_105 rfl rfl ?_
            refine V_iconst (v := nI 1) ok dX3_passesOrder_108 rfl ?_
            refine V_iaddN (a := skipP tx len ((pnF tx len (pl + 1) (mbB (hereP tx len pl))).2.1)) (b := 1) (c := (skipP tx len ((pnF tx len (pl + 1) (mbB (hereP tx len pl))).2.1)) + 1) ok dX3_passesOrder_109 (by first | rfl | omega) ?_
            refine V_put (w2 := modelW g b nw wv ah pa pw ai aw sts rf tx len ((skipP tx len ((pnF tx len (pl + 1) (mbB (hereP tx len pl))).2.1)) + 1) ord (upd lr ord (hereP tx len pl)) (upd nu (2 * ord) (pnF tx len (pl + 1) (mbB (hereP tx len pl))).2.2) hsh) ok 0 11 tw_X3 tyX3 tyX3_ok nmX3 twf_X3_155 rfl rfl (by decide) rfl rfl dX3_passesOrder_110 rfl rfl rfl (Nat.lt_of_lt_of_eq (m := 16) (by decide) rfl) rfl ?_
            refine V_aload_n ok dX3_passesOrder_113 rfl 1 rfl ?_
            refine V_dup ok dX3_passesOrder_114 rfl ?_
            refine V_get (v := .int (nI ord)) ok 0 12 tw_X3 twf_X3_168 rfl rfl (by decide) dX3_passesOrder_115 rfl rfl ?_
            refine V_iconst (v := nI 1) ok dX3_passesOrder_118 rfl ?_
            refine V_iaddN (a := ord) (b := 1) (c := ord + 1) ok dX3_passesOrder_119 (by first | rfl | omega) ?_
            refine V_put (w2 := modelW g b nw wv ah pa pw ai aw sts rf tx len ((skipP tx len ((pnF tx len (pl + 1) (mbB (hereP tx len pl))).2.1)) + 1) (ord + 1) (upd lr ord (hereP tx len pl)) (upd nu (2 * ord) (pnF tx len (pl + 1) (mbB (hereP tx len pl))).2.2) hsh) ok 0 12 tw_X3 tyX3 tyX3_ok nmX3 twf_X3_168 rfl rfl (by decide) rfl rfl dX3_passesOrder_120 rfl rfl rfl (Nat.lt_of_lt_of_eq (m := 16) (by decide) rfl) rfl ?_
            refine V_iconst (v := nI 1) ok dX3_passesOrder_123 rfl ?_
            exact V_zret ok dX3_passesOrder_124 (Nat.zero_le _) (Nat.zero_le _) rfl ⟨by rw [(show moF tx len pl = _ from (if_pos h9).trans ((if_pos h61).trans ((if_neg h67).trans (if_pos h98))))]; rfl, upd lr ord (hereP tx len pl), upd nu (2 * ord) (pnF tx len (pl + 1) (mbB (hereP tx len pl))).2.2, ⟨fun _ => ⟨upd_eq .., by rw [(show moF tx len pl = _ from (if_pos h9).trans ((if_pos h61).trans ((if_neg h67).trans (if_pos h98))))]; exact upd_eq .., fun z => absurd z h67⟩, fun j hj => upd_ne (by omega), fun j hj => upd_ne (by omega)⟩, by rw [(show moF tx len pl = _ from (if_pos h9).trans ((if_pos h61).trans ((if_neg h67).trans (if_pos h98))))]; rfl⟩
          · refine V_iconst (v := nI 0) ok dX3_passesOrder_101 rfl ?_
            exact V_zret ok dX3_passesOrder_102 (Nat.zero_le _) (Nat.zero_le _) rfl ⟨by rw [(show moF tx len pl = _ from (if_pos h9).trans ((if_pos h61).trans ((if_neg h67).trans (if_neg h98))))]; rfl, upd lr ord (hereP tx len pl), upd nu (2 * ord) (pnF tx len (pl + 1) (mbB (hereP tx len pl))).2.2, ⟨fun z => absurd z (by rw [(show moF tx len pl = _ from (if_pos h9).trans ((if_pos h61).trans ((if_neg h67).trans (if_neg h98))))]; exact Bool.false_ne_true), fun j hj => upd_ne (by omega), fun j hj => upd_ne (by omega)⟩, by rw [(show moF tx len pl = _ from (if_pos h9).trans ((if_pos h61).trans ((if_neg h67).trans (if_neg h98))))]; rfl⟩
        · refine V_aload_n ok dX3_passesOrder_70 rfl 1 rfl ?_
          refine V_iconst (v := nI 2) ok dX3_passesOrder_71 rfl ?_
          refine V_aload_n ok dX3_passesOrder_72 rfl 1 rfl ?_
          refine V_get (v := .int (nI ord)) ok 0 12 tw_X3 twf_X3_168 rfl rfl (by decide) dX3_passesOrder_73 rfl rfl ?_
          refine V_imulN (a := 2) (b := ord) (c := 2 * ord) ok dX3_passesOrder_76 (by first | rfl | omega) ?_
          refine V_iconst (v := nI 1) ok dX3_passesOrder_77 rfl ?_
          refine V_iaddN (a := 2 * ord) (b := 1) (c := (2 * ord) + 1) ok dX3_passesOrder_78 (by first | rfl | omega) ?_
          refine V_iconst (v := nI 0) ok dX3_passesOrder_79 rfl ?_
          refine V_cW (v2 := some (.int (bI ((pnF tx len ((pnF tx len (pl + 1) (mbB (hereP tx len pl))).2.1) false).1)))) (w2 := modelW g b nw wv ah pa pw ai aw sts rf tx len ((pnF tx len ((pnF tx len (pl + 1) (mbB (hereP tx len pl))).2.1) false).2.1) ord (upd lr ord (hereP tx len pl)) (upd (upd nu (2 * ord) (pnF tx len (pl + 1) (mbB (hereP tx len pl))).2.2) ((2 * ord) + 1) (pnF tx len ((pnF tx len (pl + 1) (mbB (hereP tx len pl))).2.1) false).2.2) hsh) (rest := []) ok 0 3 (c_X3_passesNumber g b nw wv ah pa pw ai aw sts rf tx len ((pnF tx len (pl + 1) (mbB (hereP tx len pl))).2.1) ord (upd lr ord (hereP tx len pl)) (upd nu (2 * ord) (pnF tx len (pl + 1) (mbB (hereP tx len pl))).2.2) hsh ((2 * ord) + 1) false (by omega) hl (pnF_le _ hp1).2) 2 twm_X3_171 twi_yX3_passesNumber twv_yX3_passesNumber twin_X3 twc_yX3_passesNumber yok_X3_passesNumber (by decide) ⟨rfl, rfl⟩ dX3_passesOrder_80 rfl rfl rfl rfl (Nat.le_of_ble_eq_true rfl) ⟨Nat.zero_le _, Nat.zero_le _⟩ ?_
          refine V_ifB_ne (tgt := 88) ok dX3_passesOrder_83 (by decide) (fun h83 => ?_) (fun h83 => ?_)
          · refine V_aload_n ok dX3_passesOrder_88 rfl 1 rfl ?_
            refine V_cW (v2 := none) (w2 := modelW g b nw wv ah pa pw ai aw sts rf tx len (skipP tx len ((pnF tx len ((pnF tx len (pl + 1) (mbB (hereP tx len pl))).2.1) false).2.1)) ord (upd lr ord (hereP tx len pl)) (upd (upd nu (2 * ord) (pnF tx len (pl + 1) (mbB (hereP tx len pl))).2.2) ((2 * ord) + 1) (pnF tx len ((pnF tx len (pl + 1) (mbB (hereP tx len pl))).2.1) false).2.2) hsh) (rest := []) ok 0 3 (c_X3_blanks g b nw wv ah pa pw ai aw sts rf tx len ((pnF tx len ((pnF tx len (pl + 1) (mbB (hereP tx len pl))).2.1) false).2.1) ord (upd lr ord (hereP tx len pl)) (upd (upd nu (2 * ord) (pnF tx len (pl + 1) (mbB (hereP tx len pl))).2.2) ((2 * ord) + 1) (pnF tx len ((pnF tx len (pl + 1) (mbB (hereP tx len pl))).2.1) false).2.2) hsh hl (by first | exact (pnF_le _ (pnF_le _ hp1).2).2 | exact (pnF_le _ hp1).2)) 0 twm_X3_162 twi_yX3_blanks twv_yX3_blanks twin_X3 twc_yX3_blanks yok_X3_blanks (by decide) ⟨rfl, rfl⟩ dX3_passesOrder_89 rfl rfl rfl rfl (Nat.le_of_ble_eq_true rfl) ⟨Nat.zero_le _, Nat.zero_le _⟩ ?_
            refine V_aload_n ok dX3_passesOrder_92 rfl 1 rfl ?_
            refine V_cW (v2 := some (.int (hereP tx len (skipP tx len ((pnF tx len ((pnF tx len (pl + 1) (mbB (hereP tx len pl))).2.1) false).2.1))))) (w2 := modelW g b nw wv ah pa pw ai aw sts rf tx len (skipP tx len ((pnF tx len ((pnF tx len (pl + 1) (mbB (hereP tx len pl))).2.1) false).2.1)) ord (upd lr ord (hereP tx len pl)) (upd (upd nu (2 * ord) (pnF tx len (pl + 1) (mbB (hereP tx len pl))).2.2) ((2 * ord) + 1) (pnF tx len ((pnF tx len (pl + 1) (mbB (hereP tx len pl))).2.1) false).2.2) hsh) (rest := []) ok 0 3 (c_X3_here g b nw wv ah pa pw ai aw sts rf tx len (skipP tx len ((pnF tx len ((pnF tx len (pl + 1) (mbB (hereP tx len pl))).2.1) false).2.1)) ord (upd lr ord (hereP tx len pl)) (upd (upd nu (2 * ord) (pnF tx len (pl + 1) (mbB (hereP tx len pl))).2.2) ((2 * ord) + 1) (pnF tx len ((pnF tx len (pl + 1) (mbB (hereP tx len pl))).2.1) false).2.2) hsh hl (skipP_le (by first | exact (pnF_le _ (pnF_le _ hp1).2).2 | exact (pnF_le _ hp1).2)).2) 0 twm_X3_158 twi_yX3_here twv_yX3_here twin_X3 twc_yX3_here yok_X3_here (by decide) ⟨rfl, rfl⟩ dX3_passesOrder_93 rfl rfl rfl rfl (Nat.le_of_ble_eq_true rfl) ⟨Nat.zero_le _, Nat.zero_le _⟩ ?_
            refine V_bipush (v := nI 59) ok dX3_passesOrder_96 rfl ?_
            refine V_icmp_eq (tgt := 103) ok dX3_passesOrder_98 (by decide) (fun h98 => ?_) (fun h98 => ?_)
            · refine V_aload_n ok dX3_passesOrder_103 rfl 1 rfl ?_
              refine V_dup ok dX3_passesOrder_104 rfl ?_
              refine V_get (v := .int (nI (skipP tx len ((pnF tx len ((pnF tx len (pl + 1) (mbB (hereP tx len pl))).2.1) false).2.1)))) ok 0 11 tw_X3 twf_X3_155 rfl rfl (by decide) dX3_passesOrder_105 rfl rfl ?_
              refine V_iconst (v := nI 1) ok dX3_passesOrder_108 rfl ?_
              refine V_iaddN (a := skipP tx len ((pnF tx len ((pnF tx len (pl + 1) (mbB (hereP tx len pl))).2.1) false).2.1)) (b := 1) (c := (skipP tx len ((pnF tx len ((pnF tx len (pl + 1) (mbB (hereP tx len pl))).2.1) false).2.1)) + 1) ok dX3_passesOrder_109 (by first | rfl | omega) ?_
              refine V_put (w2 := modelW g b nw wv ah pa pw ai aw sts rf tx len ((skipP tx len ((pnF tx len ((pnF tx len (pl + 1) (mbB (hereP tx len pl))).2.1) false).2.1)) + 1) ord (upd lr ord (hereP tx len pl)) (upd (upd nu (2 * ord) (pnF tx len (pl + 1) (mbB (hereP tx len pl))).2.2) ((2 * ord) + 1) (pnF tx len ((pnF tx len (pl + 1) (mbB (hereP tx len pl))).2.1) false).2.2) hsh) ok 0 11 tw_X3 tyX3 tyX3_ok nmX3 twf_X3_155 rfl rfl (by decide) rfl rfl dX3_passesOrder_110 rfl rfl rfl (Nat.lt_of_lt_of_eq (m := 16) (by decide) rfl) rfl ?_
              refine V_aload_n ok dX3_passesOrder_113 rfl 1 rfl ?_
              refine V_dup ok dX3_passesOrder_114 rfl ?_
              refine V_get (v := .int (nI ord)) ok 0 12 tw_X3 twf_X3_168 rfl rfl (by decide) dX3_passesOrder_115 rfl rfl ?_
              refine V_iconst (v := nI 1) ok dX3_passesOrder_118 rfl ?_
              refine V_iaddN (a := ord) (b := 1) (c := ord + 1) ok dX3_passesOrder_119 (by first | rfl | omega) ?_
              refine V_put (w2 := modelW g b nw wv ah pa pw ai aw sts rf tx len ((skipP tx len ((pnF tx len ((pnF tx len (pl + 1) (mbB (hereP tx len pl))).2.1) false).2.1)) + 1) (ord + 1) (upd lr ord (hereP tx len pl)) (upd (upd nu (2 * ord) (pnF tx len (pl + 1) (mbB (hereP tx len pl))).2.2) ((2 * ord) + 1) (pnF tx len ((pnF tx len (pl + 1) (mbB (hereP tx len pl))).2.1) false).2.2) hsh) ok 0 12 tw_X3 tyX3 tyX3_ok nmX3 twf_X3_168 rfl rfl (by decide) rfl rfl dX3_passesOrder_120 rfl rfl rfl (Nat.lt_of_lt_of_eq (m := 16) (by decide) rfl) rfl ?_
              refine V_iconst (v := nI 1) ok dX3_passesOrder_123 rfl ?_
              exact V_zret ok dX3_passesOrder_124 (Nat.zero_le _) (Nat.zero_le _) rfl ⟨by rw [(show moF tx len pl = _ from (if_pos h9).trans ((if_pos h61).trans ((if_pos h67).trans ((if_pos h83).trans (if_pos h98)))))]; rfl, upd lr ord (hereP tx len pl), upd (upd nu (2 * ord) (pnF tx len (pl + 1) (mbB (hereP tx len pl))).2.2) ((2 * ord) + 1) (pnF tx len ((pnF tx len (pl + 1) (mbB (hereP tx len pl))).2.1) false).2.2, ⟨fun _ => ⟨upd_eq .., by rw [(show moF tx len pl = _ from (if_pos h9).trans ((if_pos h61).trans ((if_pos h67).trans ((if_pos h83).trans (if_pos h98))))), upd_ne (by omega)]; exact upd_eq .., fun _ => by rw [(show moF tx len pl = _ from (if_pos h9).trans ((if_pos h61).trans ((if_pos h67).trans ((if_pos h83).trans (if_pos h98)))))]; exact upd_eq ..⟩, fun j hj => upd_ne (by omega), fun j hj => by rw [upd_ne (by omega), upd_ne (by omega)]⟩, by rw [(show moF tx len pl = _ from (if_pos h9).trans ((if_pos h61).trans ((if_pos h67).trans ((if_pos h83).trans (if_pos h98)))))]; rfl⟩
            · refine V_iconst (v := nI 0) ok dX3_passesOrder_101 rfl ?_
              exact V_zret ok dX3_passesOrder_102 (Nat.zero_le _) (Nat.zero_le _) rfl ⟨by rw [(show moF tx len pl = _ from (if_pos h9).trans ((if_pos h61).trans ((if_pos h67).trans ((if_pos h83).trans (if_neg h98)))))]; rfl, upd lr ord (hereP tx len pl), upd (upd nu (2 * ord) (pnF tx len (pl + 1) (mbB (hereP tx len pl))).2.2) ((2 * ord) + 1) (pnF tx len ((pnF tx len (pl + 1) (mbB (hereP tx len pl))).2.1) false).2.2, ⟨fun z => absurd z (by rw [(show moF tx len pl = _ from (if_pos h9).trans ((if_pos h61).trans ((if_pos h67).trans ((if_pos h83).trans (if_neg h98)))))]; exact Bool.false_ne_true), fun j hj => upd_ne (by omega), fun j hj => by rw [upd_ne (by omega), upd_ne (by omega)]⟩, by rw [(show moF tx len pl = _ from (if_pos h9).trans ((if_pos h61).trans ((if_pos h67).trans ((if_pos h83).trans (if_neg h98)))))]; rfl⟩
          · refine V_iconst (v := nI 0) ok dX3_passesOrder_86 rfl ?_
            exact V_zret ok dX3_passesOrder_87 (Nat.zero_le _) (Nat.zero_le _) rfl ⟨by rw [(show moF tx len pl = _ from (if_pos h9).trans ((if_pos h61).trans ((if_pos h67).trans (if_neg h83))))]; rfl, upd lr ord (hereP tx len pl), upd (upd nu (2 * ord) (pnF tx len (pl + 1) (mbB (hereP tx len pl))).2.2) ((2 * ord) + 1) (pnF tx len ((pnF tx len (pl + 1) (mbB (hereP tx len pl))).2.1) false).2.2, ⟨fun z => absurd z (by rw [(show moF tx len pl = _ from (if_pos h9).trans ((if_pos h61).trans ((if_pos h67).trans (if_neg h83))))]; exact Bool.false_ne_true), fun j hj => upd_ne (by omega), fun j hj => by rw [upd_ne (by omega), upd_ne (by omega)]⟩, by rw [(show moF tx len pl = _ from (if_pos h9).trans ((if_pos h61).trans ((if_pos h67).trans (if_neg h83))))]; rfl⟩
    refine V_icmp_eq (tgt := 53) ok dX3_passesOrder_44 (by decide) (fun h44 => ?_) (fun h44 => ?_)
    · refine V_iconst (v := nI 1) ok dX3_passesOrder_53 rfl ?_
      refine V_goto (tgt := 58) ok dX3_passesOrder_54 (by decide) ?_
      simp only [if_pos h44] at J44
      exact J44
    · refine V_iload_n ok dX3_passesOrder_47 rfl 0 rfl ?_
      refine V_bipush (v := nI 113) ok dX3_passesOrder_48 rfl ?_
      have J50 : V g Γ 2 0 0 58 (modelW g b nw wv ah pa pw ai aw sts rf tx len (pl + 1) ord (upd lr ord (hereP tx len pl)) nu hsh) [(1, .int (hereP tx len pl)), (0, .ref (b 0))] [.int (if (hereP tx len pl) = (nI 113) then nI 1 else nI 0), .int (nI (2 * ord)), .ref (b 0)] := by
        simp only [if_neg h44] at J44
        exact J44
      refine V_icmp_ne (tgt := 57) ok dX3_passesOrder_50 (by decide) (fun h50 => ?_) (fun h50 => ?_)
      · refine V_iconst (v := nI 0) ok dX3_passesOrder_57 rfl ?_
        simp only [if_neg h50] at J50
        exact J50
      · refine V_iconst (v := nI 1) ok dX3_passesOrder_53 rfl ?_
        refine V_goto (tgt := 58) ok dX3_passesOrder_54 (by decide) ?_
        simp only [if_pos h50] at J50
        exact J50
  · refine V_iconst (v := nI 0) ok dX3_passesOrder_12 rfl ?_
    exact V_zret ok dX3_passesOrder_13 (Nat.zero_le _) (Nat.zero_le _) rfl ⟨by rw [show moF tx len pl = _ from if_neg h9]; rfl, lr, nu, ⟨fun z => absurd z (by rw [show moF tx len pl = _ from if_neg h9]; exact Bool.false_ne_true), fun _ _ => rfl, fun _ _ => rfl⟩, by rw [show moF tx len pl = _ from if_neg h9]; rfl⟩
set_option maxHeartbeats 4000000 in
set_option maxRecDepth 100000 in
theorem c_X3_isRead (g : Glob) (b : Nat → Nat) (nw : Nat → Int32) (wv : Nat → UInt64) (ah : Nat → UInt64) (pa : Nat → Int32) (pw : Nat → UInt64) (ai : Nat → Int32) (aw : Nat → UInt64) (sts : Nat) (rf : Nat → Int32) (tx : Nat → Int32) (len : Nat) (pl : Nat) (ord : Nat) (lr : Nat → Int32) (nu : Nat → Int32) (hsh : Int64) (hl : len ≤ 100) (htx : ∀ p, p < len → ¬ tx p = (-1)) : Con g yX3_isRead cX3_isRead 1 (some .boolean) ({ frames := 4, cells := 0, slots := 0, locals := 86 } : Room) [.ref (b 0)] (modelW g b nw wv ah pa pw ai aw sts rf tx len pl ord lr nu hsh) (fun r_ w_ => r_ = (some (.int (bI (rdF tx len).1))) ∧ ∃ lr2 : Nat → Int32, ∃ nu2 : Nat → Int32, (Rec tx len (rdF tx len).2 lr2 nu2 ∧ (rdF tx len).2 ≤ 50) ∧  w_ = modelW g b nw wv ah pa pw ai aw sts rf tx len (rdP tx len) ((rdF tx len).2) lr2 nu2 hsh) := by
  refine con_of_V ypl_X3_isRead (Nat.le_of_ble_eq_true rfl) [(0, .ref (b 0))] rfl (fun Γ ok => ?_)
  have HL : ∀ (n j : Nat) (lr1 : Nat → Int32) (nu1 : Nat → Int32), j ≤ 50 → n = 50 - j → (Rec tx len j lr1 nu1 ∧ rdN tx len (100 - j) j = rdF tx len ∧ 2 * j ≤ plc tx len j ∧ plc tx len j ≤ len ∧ (j = 0 ∨ plc tx len j < len)) → V g Γ 1 0 0 14 (modelW g b nw wv ah pa pw ai aw sts rf tx len (plc tx len j) j lr1 nu1 hsh) [(0, .ref (b 0))] [] := by
    intro n
    induction n using Nat.strongRecOn with
    | ind n ih =>
    intro j lr1 nu1 hi hn hI
    subst hn
    have hj50 : j < 50 := by have := hI.2.2; omega
    have hm := moF_le (tx := tx) hI.2.2.2.1
    refine V_aload_n ok dX3_isRead_14 rfl 0 rfl ?_
    refine V_cX (rest := []) ok 0 3 (c_X3_passesOrder g b nw wv ah pa pw ai aw sts rf tx len (plc tx len j) j lr1 nu1 hsh hl hI.2.2.2.1 hj50) 0 twm_X3_175 twi_yX3_passesOrder twv_yX3_passesOrder twin_X3 twc_yX3_passesOrder yok_X3_passesOrder (by decide) ⟨rfl, rfl⟩ dX3_isRead_15 rfl rfl rfl rfl (Nat.le_of_ble_eq_true rfl) ⟨Nat.zero_le _, Nat.zero_le _⟩ (fun v_ w_ hh => ?_)
    obtain ⟨rfl, lr15, nu15, hw15, rfl⟩ := hh
    refine V_ifB_ne (tgt := 23) ok dX3_isRead_18 (by decide) (fun h18 => ?_) (fun h18 => ?_)
    · have hR2 := hI.1.next hw15 h18
      have hS : rdN tx len (100 - j) j = (if len ≤ plc tx len (j + 1) then (true, j + 1) else rdN tx len (100 - (j + 1)) (j + 1)) := by rw [show 100 - j = (100 - (j + 1)) + 1 by omega]; exact if_pos h18
      have hle : plc tx len (j + 1) ≤ len := (skipP_le hm.1).2
      have h2j : 2 * (j + 1) ≤ plc tx len (j + 1) := by have h1 := hm.2.2 h18; have h2 : (moF tx len (plc tx len j)).2.1 ≤ plc tx len (j + 1) := (skipP_le hm.1).1; have h3 := hI.2.2.1; omega
      refine V_ws (w2 := modelW g b nw wv ah pa pw ai aw sts rf tx len ((moF tx len (plc tx len j)).2.1) (j + 1) lr15 nu15 hsh) (by rw [if_pos h18]) ?_
      refine V_aload_n ok dX3_isRead_23 rfl 0 rfl ?_
      refine V_cW (v2 := none) (w2 := modelW g b nw wv ah pa pw ai aw sts rf tx len (skipP tx len ((moF tx len (plc tx len j)).2.1)) (j + 1) lr15 nu15 hsh) (rest := []) ok 0 3 (c_X3_blanks g b nw wv ah pa pw ai aw sts rf tx len ((moF tx len (plc tx len j)).2.1) (j + 1) lr15 nu15 hsh hl hm.1) 0 twm_X3_162 twi_yX3_blanks twv_yX3_blanks twin_X3 twc_yX3_blanks yok_X3_blanks (by decide) ⟨rfl, rfl⟩ dX3_isRead_24 rfl rfl rfl rfl (Nat.le_of_ble_eq_true rfl) ⟨Nat.zero_le _, Nat.zero_le _⟩ ?_
      refine V_aload_n ok dX3_isRead_27 rfl 0 rfl ?_
      refine V_cW (v2 := some (.int (hereP tx len (skipP tx len ((moF tx len (plc tx len j)).2.1))))) (w2 := modelW g b nw wv ah pa pw ai aw sts rf tx len (skipP tx len ((moF tx len (plc tx len j)).2.1)) (j + 1) lr15 nu15 hsh) (rest := []) ok 0 3 (c_X3_here g b nw wv ah pa pw ai aw sts rf tx len (skipP tx len ((moF tx len (plc tx len j)).2.1)) (j + 1) lr15 nu15 hsh hl (skipP_le hm.1).2) 0 twm_X3_158 twi_yX3_here twv_yX3_here twin_X3 twc_yX3_here yok_X3_here (by decide) ⟨rfl, rfl⟩ dX3_isRead_28 rfl rfl rfl rfl (Nat.le_of_ble_eq_true rfl) ⟨Nat.zero_le _, Nat.zero_le _⟩ ?_
      refine V_iconst (v := (-1)) ok dX3_isRead_31 rfl ?_
      refine V_icmp_ne (tgt := 14) ok dX3_isRead_32 (by decide) (fun h32 => ?_) (fun h32 => ?_)
      · exact ih (50 - (j + 1)) (by omega) (j + 1) lr15 nu15 (by omega) rfl ⟨hR2, by rw [← hI.2.1, hS, if_neg (by have := here_in h32; show ¬ len ≤ plc tx len (j + 1); exact Nat.not_le.mpr this)], h2j, hle, Or.inr (here_in h32)⟩
      · have hE : rdF tx len = (true, j + 1) := by rw [← hI.2.1, hS, if_pos (show len ≤ plc tx len (j + 1) from here_end htx h32)]
        refine V_iconst (v := nI 1) ok dX3_isRead_35 rfl ?_
        exact V_zret ok dX3_isRead_36 (Nat.zero_le _) (Nat.zero_le _) rfl ⟨bI_t (by rw [hE]), _, _, by rw [hE]; exact ⟨hR2, hj50⟩, by rw [rdP, hE]; rfl⟩
    · have hE : rdF tx len = (false, j) := by rw [← hI.2.1, show 100 - j = (100 - (j + 1)) + 1 by omega]; exact if_neg h18
      refine V_ws (w2 := modelW g b nw wv ah pa pw ai aw sts rf tx len ((moF tx len (plc tx len j)).2.1) j lr15 nu15 hsh) (by rw [if_neg h18]) ?_
      refine V_iconst (v := nI 0) ok dX3_isRead_21 rfl ?_
      exact V_zret ok dX3_isRead_22 (Nat.zero_le _) (Nat.zero_le _) rfl ⟨bI_f (by rw [hE]), _, _, by rw [hE]; exact ⟨hI.1.same hw15, Nat.le_of_lt hj50⟩, by rw [rdP, hE]; rfl⟩
  refine V_aload_n ok dX3_isRead_0 rfl 0 rfl ?_
  refine V_iconst (v := nI 0) ok dX3_isRead_1 rfl ?_
  refine V_put (w2 := modelW g b nw wv ah pa pw ai aw sts rf tx len 0 ord lr nu hsh) ok 0 11 tw_X3 tyX3 tyX3_ok nmX3 twf_X3_155 rfl rfl (by decide) rfl rfl dX3_isRead_2 rfl rfl rfl (Nat.lt_of_lt_of_eq (m := 16) (by decide) rfl) rfl ?_
  refine V_aload_n ok dX3_isRead_5 rfl 0 rfl ?_
  refine V_iconst (v := nI 0) ok dX3_isRead_6 rfl ?_
  refine V_put (w2 := modelW g b nw wv ah pa pw ai aw sts rf tx len 0 0 lr nu hsh) ok 0 12 tw_X3 tyX3 tyX3_ok nmX3 twf_X3_168 rfl rfl (by decide) rfl rfl dX3_isRead_7 rfl rfl rfl (Nat.lt_of_lt_of_eq (m := 16) (by decide) rfl) rfl ?_
  refine V_aload_n ok dX3_isRead_10 rfl 0 rfl ?_
  refine V_cW (v2 := none) (w2 := modelW g b nw wv ah pa pw ai aw sts rf tx len (skipP tx len 0) 0 lr nu hsh) (rest := []) ok 0 3 (c_X3_blanks g b nw wv ah pa pw ai aw sts rf tx len 0 0 lr nu hsh hl (Nat.zero_le _)) 0 twm_X3_162 twi_yX3_blanks twv_yX3_blanks twin_X3 twc_yX3_blanks yok_X3_blanks (by decide) ⟨rfl, rfl⟩ dX3_isRead_11 rfl rfl rfl rfl (Nat.le_of_ble_eq_true rfl) ⟨Nat.zero_le _, Nat.zero_le _⟩ ?_
  exact HL 50 0 lr nu (by decide) rfl ⟨fun j hj => absurd hj (Nat.not_lt_zero _), rfl, Nat.zero_le _, (skipP_le (Nat.zero_le _)).2, Or.inl rfl⟩
