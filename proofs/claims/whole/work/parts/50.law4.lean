set_option maxHeartbeats 4000000 in
set_option maxRecDepth 100000 in
theorem law_loop {g : Glob} {Γ : Ctx} {nm : String} (ok : OK g Γ ⟨RL, nm, ""⟩ cL_law 4 (some .boolean) room_1 (fun r _ => r = some (.int 1))) {a b : Nat → Nat} {sc L : Nat} {xs : Nat → Int32} (s_X : va_X sc L xs (kS Γ) (kS Γ).heap) (s_A : ¬ kO Γ sc) (s_z : sc < (kS Γ).heap.size) (hL : L ≤ 2048) : ∀ (n p : Nat) (now : LineSt) (spare : LineSt) (K : Nat → LineSt) (nw : Nat) (sts : Nat) (rf : Nat → Int32) (pg : PageSt) (wv : Nat → UInt64) (ah : Nat → UInt64) (pa : Nat → Int32) (pw : Nat → UInt64) (ai : Nat → Int32) (aw : Nat → UInt64) (pl : Nat) (ord : Nat) (lr : Nat → Int32) (nu : Nat → Int32) (hsh : Int64), p ≤ L → n = L - p → Rel now K nw sts pg wv pa pw pg.1 pg.2.1 → V g Γ 4 53 1103 18 (surgeW g a now spare K nw sts rf pg ++ modelW g b now.1 wv ah pa pw ai aw sts rf pg.1 pg.2.1 pl ord lr nu hsh) [(3, .int (nI p)), (2, .ref (b 0)), (1, .ref (a 0)), (0, .ref sc)] [] := by
  intro n
  induction n using Nat.strongRecOn with
  | ind n ih =>
  intro p now spare K nw sts rf pg wv ah pa pw ai aw pl ord lr nu hsh hpL hn hR
  subst hn
  refine V_iload_n ok dL_law_18 rfl 0 rfl ?_
  refine V_aload_n ok dL_law_19 rfl 3 rfl ?_
  refine V_salen ok s_X s_A s_z dL_law_20 ?_
  refine V_iconst (v := nI 4) ok dL_law_21 rfl ?_
  refine V_isub ok dL_law_22 ?_
  refine V_icmp_gt (tgt := 643) ok dL_law_23 (by decide) (fun h23 => ?_) (fun h23 => ?_)
  · refine V_iconst (v := nI 1) ok dL_law_643 rfl ?_
    exact V_zret ok dL_law_644 (by decide) (by decide) rfl rfl
  · have hp4 := more_left hL (by omega) h23
    obtain ⟨c, hc32, hc⟩ := and31 (xs p)
    refine V_aload_n ok dL_law_26 rfl 3 rfl ?_
    refine V_iload_n ok dL_law_27 rfl 0 rfl ?_
    refine V_sald (f := xs) ok p s_X s_A s_z dL_law_28 rfl (by omega) (by omega) ?_
    refine V_bipush (v := nI 31) ok dL_law_29 rfl ?_
    refine V_iand ok dL_law_31 ?_
    refine V_top_int (b := nI c) (hc) ?_
    rcases (show c = 0 ∨ c = 1 ∨ c = 2 ∨ c = 3 ∨ c = 4 ∨ c = 5 ∨ c = 6 ∨ c = 7 ∨ c = 8 ∨ c = 9 ∨ c = 10 ∨ c = 11 ∨ c = 12 ∨ c = 13 ∨ c = 14 ∨ c = 15 ∨ c = 16 ∨ c = 17 ∨ c = 18 ∨ 19 ≤ c by omega) with hk | hk | hk | hk | hk | hk | hk | hk | hk | hk | hk | hk | hk | hk | hk | hk | hk | hk | hk | hk
    · refine V_top_int (b := nI 0) (by rw [hk]) ?_
      refine V_tabIn (off := 92) (tgt := 124) ok dL_law_32 (by decide) (by decide) rfl (by decide) ?_
      exact law_0 ok s_X s_A s_z hL p now spare K nw sts rf pg wv ah pa pw ai aw pl ord lr nu hsh ih hp4 hR
    · refine V_top_int (b := nI 1) (by rw [hk]) ?_
      refine V_tabIn (off := 115) (tgt := 147) ok dL_law_32 (by decide) (by decide) rfl (by decide) ?_
      exact law_1 ok s_X s_A s_z hL p now spare K nw sts rf pg wv ah pa pw ai aw pl ord lr nu hsh ih hp4 hR
    · refine V_top_int (b := nI 2) (by rw [hk]) ?_
      refine V_tabIn (off := 148) (tgt := 180) ok dL_law_32 (by decide) (by decide) rfl (by decide) ?_
      exact law_2 ok s_X s_A s_z hL p now spare K nw sts rf pg wv ah pa pw ai aw pl ord lr nu hsh ih hp4 hR
    · refine V_top_int (b := nI 3) (by rw [hk]) ?_
      refine V_tabIn (off := 181) (tgt := 213) ok dL_law_32 (by decide) (by decide) rfl (by decide) ?_
      exact law_3 ok s_X s_A s_z hL p now spare K nw sts rf pg wv ah pa pw ai aw pl ord lr nu hsh ih hp4 hR
    · refine V_top_int (b := nI 4) (by rw [hk]) ?_
      refine V_tabIn (off := 214) (tgt := 246) ok dL_law_32 (by decide) (by decide) rfl (by decide) ?_
      exact law_4 ok s_X s_A s_z hL p now spare K nw sts rf pg wv ah pa pw ai aw pl ord lr nu hsh ih hp4 hR
    · refine V_top_int (b := nI 5) (by rw [hk]) ?_
      refine V_tabIn (off := 227) (tgt := 259) ok dL_law_32 (by decide) (by decide) rfl (by decide) ?_
      exact law_5 ok s_X s_A s_z hL p now spare K nw sts rf pg wv ah pa pw ai aw pl ord lr nu hsh ih hp4 hR
    · refine V_top_int (b := nI 6) (by rw [hk]) ?_
      refine V_tabIn (off := 250) (tgt := 282) ok dL_law_32 (by decide) (by decide) rfl (by decide) ?_
      exact law_6 ok s_X s_A s_z hL p now spare K nw sts rf pg wv ah pa pw ai aw pl ord lr nu hsh ih hp4 hR
    · refine V_top_int (b := nI 7) (by rw [hk]) ?_
      refine V_tabIn (off := 284) (tgt := 316) ok dL_law_32 (by decide) (by decide) rfl (by decide) ?_
      exact law_7 ok s_X s_A s_z hL p now spare K nw sts rf pg wv ah pa pw ai aw pl ord lr nu hsh ih hp4 hR
    · refine V_top_int (b := nI 8) (by rw [hk]) ?_
      refine V_tabIn (off := 308) (tgt := 340) ok dL_law_32 (by decide) (by decide) rfl (by decide) ?_
      exact law_8 ok s_X s_A s_z hL p now spare K nw sts rf pg wv ah pa pw ai aw pl ord lr nu hsh ih hp4 hR
    · refine V_top_int (b := nI 9) (by rw [hk]) ?_
      refine V_tabIn (off := 332) (tgt := 364) ok dL_law_32 (by decide) (by decide) rfl (by decide) ?_
      exact law_9 ok s_X s_A s_z hL p now spare K nw sts rf pg wv ah pa pw ai aw pl ord lr nu hsh ih hp4 hR
    · refine V_top_int (b := nI 10) (by rw [hk]) ?_
      refine V_tabIn (off := 376) (tgt := 408) ok dL_law_32 (by decide) (by decide) rfl (by decide) ?_
      exact law_10 ok s_X s_A s_z hL p now spare K nw sts rf pg wv ah pa pw ai aw pl ord lr nu hsh ih hp4 hR
    · refine V_top_int (b := nI 11) (by rw [hk]) ?_
      refine V_tabIn (off := 420) (tgt := 452) ok dL_law_32 (by decide) (by decide) rfl (by decide) ?_
      exact law_11 ok s_X s_A s_z hL p now spare K nw sts rf pg wv ah pa pw ai aw pl ord lr nu hsh ih hp4 hR
    · refine V_top_int (b := nI 12) (by rw [hk]) ?_
      refine V_tabIn (off := 463) (tgt := 495) ok dL_law_32 (by decide) (by decide) rfl (by decide) ?_
      exact law_12 ok s_X s_A s_z hL p now spare K nw sts rf pg wv ah pa pw ai aw pl ord lr nu hsh ih hp4 hR
    · refine V_top_int (b := nI 13) (by rw [hk]) ?_
      refine V_tabIn (off := 506) (tgt := 538) ok dL_law_32 (by decide) (by decide) rfl (by decide) ?_
      exact law_13 ok s_X s_A s_z hL p now spare K nw sts rf pg wv ah pa pw ai aw pl ord lr nu hsh ih hp4 hR
    · refine V_top_int (b := nI 14) (by rw [hk]) ?_
      refine V_tabIn (off := 529) (tgt := 561) ok dL_law_32 (by decide) (by decide) rfl (by decide) ?_
      exact law_14 ok s_X s_A s_z hL p now spare K nw sts rf pg wv ah pa pw ai aw pl ord lr nu hsh ih hp4 hR
    · refine V_top_int (b := nI 15) (by rw [hk]) ?_
      refine V_tabIn (off := 542) (tgt := 574) ok dL_law_32 (by decide) (by decide) rfl (by decide) ?_
      exact law_15 ok s_X s_A s_z hL p now spare K nw sts rf pg wv ah pa pw ai aw pl ord lr nu hsh ih hp4 hR
    · refine V_top_int (b := nI 16) (by rw [hk]) ?_
      refine V_tabIn (off := 555) (tgt := 587) ok dL_law_32 (by decide) (by decide) rfl (by decide) ?_
      exact law_16 ok s_X s_A s_z hL p now spare K nw sts rf pg wv ah pa pw ai aw pl ord lr nu hsh ih hp4 hR
    · refine V_top_int (b := nI 17) (by rw [hk]) ?_
      refine V_tabIn (off := 568) (tgt := 600) ok dL_law_32 (by decide) (by decide) rfl (by decide) ?_
      exact law_17 ok s_X s_A s_z hL p now spare K nw sts rf pg wv ah pa pw ai aw pl ord lr nu hsh ih hp4 hR
    · refine V_top_int (b := nI 18) (by rw [hk]) ?_
      refine V_tabIn (off := 591) (tgt := 623) ok dL_law_32 (by decide) (by decide) rfl (by decide) ?_
      exact law_18 ok s_X s_A s_z hL p now spare K nw sts rf pg wv ah pa pw ai aw pl ord lr nu hsh ih hp4 hR
    · refine V_tabOut (tgt := 637) ok dL_law_32 (Or.inr (by rw [nI_toInt (by omega)]; omega)) (by decide) ?_
      refine V_iinc (q := 0) (v := nI (p + 4)) (lv2 := [(3, .int (nI (p + 4))), (2, .ref (b 0)), (1, .ref (a 0)), (0, .ref sc)]) ok dL_law_637 rfl (nI_inc p 4) (by decide) rfl ?_
      refine V_goto (tgt := 18) ok dL_law_640 (by decide) ?_
      refine V_lv [0, 1, 2, 3] rfl ?_
      exact ih (L - (p + 4)) (by omega) (p + 4) now spare K nw sts rf pg wv ah pa pw ai aw pl ord lr nu hsh (by omega) rfl hR
