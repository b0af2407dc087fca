theorem WR.law {x : LineSt} {wv : Nat → UInt64} (h : WR x wv) (k t : Int32) : WR (upd (upd x.1 6 k) 7 t, x.2) wv := by
  refine ⟨fun i hi => h.1 i ?_, h.2⟩
  have e : nv (upd (upd x.1 6 k) 7 t) 0 = nv x.1 0 := (nv_upd_ne (by decide)).trans (nv_upd_ne (by decide))
  rw [← e]; exact hi
theorem obey_no {x : LineSt} {c f s : Int32} (w : Nat) (h1 : ¬ c = nI 115) (h2 : ¬ c = nI 119) (e : valN c = nI w) (h3 : ¬ fitsB (nI w) f = true) : obeyF x c f s = (false, x) := by
  unfold obeyF; rw [if_neg h1, if_neg h2, e, if_neg h3]
theorem obey_w {x : LineSt} {c f s : Int32} (h : c = nI 119) (hl : isLawB f s = true) : obeyF x c f s = (true, (upd (upd x.1 6 f) 7 s, x.2)) := by
  subst h; exact (if_neg (by decide)).trans ((if_pos rfl).trans (if_pos hl))
theorem obey_wn {x : LineSt} {c f s : Int32} (h : c = nI 119) (hl : ¬ isLawB f s = true) : obeyF x c f s = (false, x) := by
  subst h; exact (if_neg (by decide)).trans ((if_pos rfl).trans (if_neg hl))
theorem obey_sn {x : LineSt} {c f s : Int32} (h : c = nI 115) (hl : ¬ (stepB f = true ∧ timeB x.1 f = true)) : obeyF x c f s = (false, x) := by
  subst h
  refine (if_pos rfl).trans ?_
  split
  · split
    · exact absurd ⟨‹_›, ‹_›⟩ hl
    · rfl
  · rfl
theorem let_cases {c : Int32} (h : letB c = true) : c = nI 112 ∨ c = nI 104 ∨ c = nI 113 ∨ c = nI 97 ∨ c = nI 108 ∨ c = nI 114 ∨ c = nI 119 ∨ c = nI 115 := by
  by_cases q : c = nI 112 ∨ c = nI 104 ∨ c = nI 113 ∨ c = nI 97 ∨ c = nI 108 ∨ c = nI 114 ∨ c = nI 119 ∨ c = nI 115
  · exact q
  · rw [ord_f q] at h; exact absurd h Bool.false_ne_true
theorem time_t {v : Nat → Int32} {n : Int32} (h : ¬ nI 999 < v 8 + n) : timeB v n = true := if_neg h
theorem time_f {v : Nat → Int32} {n : Int32} (h : nI 999 < v 8 + n) : ¬ timeB v n = true := fun z => by rw [show timeB v n = false from if_pos h] at z; exact absurd z Bool.false_ne_true
set_option maxHeartbeats 4000000 in
set_option maxRecDepth 100000 in
theorem c_X3_isDone (g : Glob) (b : Nat → Nat) (x : LineSt) (wv : Nat → UInt64) (ah : Nat → UInt64) (pa : Nat → Int32) (pw : Nat → UInt64) (ai : Nat → Int32) (aw : Nat → UInt64) (sts : Nat) (rf : Nat → Int32) (tx : Nat → Int32) (len : Nat) (pl : Nat) (ord : Nat) (lr : Nat → Int32) (nu : Nat → Int32) (hsh : Int64) (j : Nat) (hj : j < 50) (hlet : letB (lr j) = true) (hx : LG x) (hw : WR x wv) : Con g yX3_isDone cX3_isDone 8 (some .boolean) ({ frames := 4, cells := 0, slots := 0, locals := 100 } : Room) [.ref (b 0), .int (nI j)] (modelW g b x.1 wv ah pa pw ai aw sts rf tx len pl ord lr nu hsh) (fun r_ w_ => r_ = (some (.int (bI (obeyF x (lr j) (nu (2 * j)) (nu (2 * j + 1))).1))) ∧ ∃ wv2 : Nat → UInt64, ∃ ah2 : Nat → UInt64, (WR (obeyF x (lr j) (nu (2 * j)) (nu (2 * j + 1))).2 wv2) ∧  w_ = modelW g b ((obeyF x (lr j) (nu (2 * j)) (nu (2 * j + 1))).2.1) wv2 ah2 pa pw ai aw sts rf tx len pl ord lr nu hsh) := by
  refine con_of_V ypl_X3_isDone (Nat.le_of_ble_eq_true rfl) [(0, .ref (b 0)), (1, .int (nI j))] rfl (fun Γ ok => ?_)
  have hN := hx.1.n
  rcases let_cases hlet with hc | hc | hc | hc | hc | hc | hc | hc
  · refine V_aload_n ok dX3_isDone_0 rfl 0 rfl ?_
    refine V_get (v := .ref (b 11)) ok 0 14 tw_X3 twf_X3_41 rfl rfl (by decide) dX3_isDone_1 rfl rfl ?_
    refine V_iconst (v := nI 2) ok dX3_isDone_4 rfl ?_
    refine V_iload_n ok dX3_isDone_5 rfl 1 rfl ?_
    refine V_imulN (a := 2) (b := j) (c := 2 * j) ok dX3_isDone_6 (by first | rfl | omega) ?_
    refine V_iald (f := nu) (N := 100) ok 11 (2 * j) dX3_isDone_7 rfl rfl (by omega) (by decide) ?_
    refine V_istore_n (lv2 := [(2, .int (nu (2 * j))), (0, .ref (b 0)), (1, .int (nI j))]) ok dX3_isDone_8 rfl (by decide) rfl ?_
    refine V_aload_n ok dX3_isDone_9 rfl 1 rfl ?_
    refine V_get (v := .ref (b 11)) ok 0 14 tw_X3 twf_X3_41 rfl rfl (by decide) dX3_isDone_10 rfl rfl ?_
    refine V_iconst (v := nI 2) ok dX3_isDone_13 rfl ?_
    refine V_iload_n ok dX3_isDone_14 rfl 2 rfl ?_
    refine V_imulN (a := 2) (b := j) (c := 2 * j) ok dX3_isDone_15 (by first | rfl | omega) ?_
    refine V_iconst (v := nI 1) ok dX3_isDone_16 rfl ?_
    refine V_iaddN (a := 2 * j) (b := 1) (c := (2 * j) + 1) ok dX3_isDone_17 (by first | rfl | omega) ?_
    refine V_iald (f := nu) (N := 100) ok 11 ((2 * j) + 1) dX3_isDone_18 rfl rfl (by omega) (by decide) ?_
    refine V_istore_n (lv2 := [(3, .int (nu ((2 * j) + 1))), (2, .int (nu (2 * j))), (0, .ref (b 0)), (1, .int (nI j))]) ok dX3_isDone_19 rfl (by decide) rfl ?_
    refine V_aload_n ok dX3_isDone_20 rfl 2 rfl ?_
    refine V_get (v := .ref (b 10)) ok 0 13 tw_X3 twf_X3_38 rfl rfl (by decide) dX3_isDone_21 rfl rfl ?_
    refine V_iload_n ok dX3_isDone_24 rfl 3 rfl ?_
    refine V_iald (f := lr) (N := 50) ok 10 j dX3_isDone_25 rfl rfl (by omega) (by decide) ?_
    refine V_top_int (b := nI 112) (hc) ?_
    refine V_istore (lv2 := [(4, .int (nI 112)), (3, .int (nu ((2 * j) + 1))), (2, .int (nu (2 * j))), (0, .ref (b 0)), (1, .int (nI j))]) ok dX3_isDone_26 (by decide) rfl ?_
    refine V_iload ok dX3_isDone_28 0 rfl ?_
    refine V_bipush (v := nI 104) ok dX3_isDone_30 rfl ?_
    refine V_icmpN_ne (tgt := 39) ok dX3_isDone_32 (by decide) (by omega) (by omega) (fun h32 => ?_) (fun h32 => absurd h32 (by decide))
    refine V_iload ok dX3_isDone_39 0 rfl ?_
    refine V_bipush (v := nI 113) ok dX3_isDone_41 rfl ?_
    refine V_icmpN_ne (tgt := 50) ok dX3_isDone_43 (by decide) (by omega) (by omega) (fun h43 => ?_) (fun h43 => absurd h43 (by decide))
    refine V_iconst (v := nI 2) ok dX3_isDone_50 rfl ?_
    refine V_istore (lv2 := [(5, .int (nI 2)), (4, .int (nI 112)), (3, .int (nu ((2 * j) + 1))), (2, .int (nu (2 * j))), (0, .ref (b 0)), (1, .int (nI j))]) ok dX3_isDone_51 (by decide) rfl ?_
    refine V_iload ok dX3_isDone_53 1 rfl ?_
    refine V_bipush (v := nI 108) ok dX3_isDone_55 rfl ?_
    refine V_icmpN_ne (tgt := 64) ok dX3_isDone_57 (by decide) (by omega) (by omega) (fun h57 => ?_) (fun h57 => absurd h57 (by decide))
    refine V_iconst (v := nI 1) ok dX3_isDone_64 rfl ?_
    refine V_istore (lv2 := [(6, .int (nI 1)), (5, .int (nI 2)), (4, .int (nI 112)), (3, .int (nu ((2 * j) + 1))), (2, .int (nu (2 * j))), (0, .ref (b 0)), (1, .int (nI j))]) ok dX3_isDone_65 (by decide) rfl ?_
    refine V_iload ok dX3_isDone_67 2 rfl ?_
    refine V_tabIn (off := 107) (tgt := 176) ok dX3_isDone_69 (by decide) (by decide) rfl (by decide) ?_
    refine V_aload_n ok dX3_isDone_176 rfl 5 rfl ?_
    refine V_iload_n ok dX3_isDone_177 rfl 4 rfl ?_
    refine V_cW (v2 := some (.int (bI (pipB (nu (2 * j)))))) (w2 := modelW g b x.1 wv ah pa pw ai aw sts rf tx len pl ord lr nu hsh) (rest := []) ok 0 3 (c_X3_mayPipe g b x.1 wv ah pa pw ai aw sts rf tx len pl ord lr nu hsh (nu (2 * j))) 1 twm_X3_81 twi_yX3_mayPipe twv_yX3_mayPipe twin_X3 twc_yX3_mayPipe yok_X3_mayPipe (by decide) ⟨rfl, rfl⟩ dX3_isDone_178 rfl rfl rfl rfl (Nat.le_of_ble_eq_true rfl) ⟨Nat.zero_le _, Nat.zero_le _⟩ ?_
    refine V_istore (lv2 := [(7, .int (bI (pipB (nu (2 * j))))), (6, .int (nI 1)), (5, .int (nI 2)), (4, .int (nI 112)), (3, .int (nu ((2 * j) + 1))), (2, .int (nu (2 * j))), (0, .ref (b 0)), (1, .int (nI j))]) ok dX3_isDone_181 (by decide) rfl ?_
    refine V_iload ok dX3_isDone_183 0 rfl ?_
    refine V_ifB_eq (tgt := 195) ok dX3_isDone_185 (by decide) (fun h185 => ?_) (fun h185 => ?_)
    · refine V_iload ok dX3_isDone_195 0 rfl ?_
      exact V_zret ok dX3_isDone_197 (Nat.zero_le _) (Nat.zero_le _) (bI_nar _) ⟨by rw [(show obeyF x (lr j) (nu (2 * j)) (nu (2 * j + 1)) = _ from obey_no 0 (by rw [hc]; decide) (by rw [hc]; decide) (show valN (lr j) = nI 0 by rw [hc]; decide) (show ¬ fitsB (nI 0) (nu (2 * j)) = true from fun z => h185 ((pip_fits _).trans z))), Bool.eq_false_iff.mpr h185], _, _, by rw [(show obeyF x (lr j) (nu (2 * j)) (nu (2 * j + 1)) = _ from obey_no 0 (by rw [hc]; decide) (by rw [hc]; decide) (show valN (lr j) = nI 0 by rw [hc]; decide) (show ¬ fitsB (nI 0) (nu (2 * j)) = true from fun z => h185 ((pip_fits _).trans z)))]; exact hw, by rw [(show obeyF x (lr j) (nu (2 * j)) (nu (2 * j + 1)) = _ from obey_no 0 (by rw [hc]; decide) (by rw [hc]; decide) (show valN (lr j) = nI 0 by rw [hc]; decide) (show ¬ fitsB (nI 0) (nu (2 * j)) = true from fun z => h185 ((pip_fits _).trans z)))]⟩
    · refine V_aload_n ok dX3_isDone_188 rfl 6 rfl ?_
      refine V_iconst (v := nI 0) ok dX3_isDone_189 rfl ?_
      refine V_iload_n ok dX3_isDone_190 rfl 5 rfl ?_
      refine V_cX (rest := []) ok 0 3 (c_X3_becomes g b x wv ah pa pw ai aw sts rf tx len pl ord lr nu hsh 0 (nu (2 * j)) (by decide) (hx.1.put1 (fits_ok (by decide) (show fitsB (nI 0) (nu (2 * j)) = true by rw [← h185]; exact (pip_fits _).symm)))) 2 twm_X3_88 twi_yX3_becomes twv_yX3_becomes twin_X3 twc_yX3_becomes yok_X3_becomes (by decide) ⟨rfl, rfl⟩ dX3_isDone_191 rfl rfl rfl rfl (Nat.le_of_ble_eq_true rfl) ⟨Nat.zero_le _, Nat.zero_le _⟩ (fun v_ w_ hh => ?_)
      obtain ⟨rfl, wv191, hw191, rfl⟩ := hh
      refine V_pop ok dX3_isDone_194 rfl ?_
      refine V_iload ok dX3_isDone_195 0 rfl ?_
      exact V_zret ok dX3_isDone_197 (Nat.zero_le _) (Nat.zero_le _) (bI_nar _) ⟨by rw [(show obeyF x (lr j) (nu (2 * j)) (nu (2 * j + 1)) = _ from obeyF_p (by rw [hc]; decide) (by rw [hc]; decide) (by rw [(show valN (lr j) = nI 0 by rw [hc]; decide)]; exact (show fitsB (nI 0) (nu (2 * j)) = true by rw [← h185]; exact (pip_fits _).symm)) (by decide) (show valN (lr j) = nI 0 by rw [hc]; decide)), h185], _, _, by rw [(show obeyF x (lr j) (nu (2 * j)) (nu (2 * j + 1)) = _ from obeyF_p (by rw [hc]; decide) (by rw [hc]; decide) (by rw [(show valN (lr j) = nI 0 by rw [hc]; decide)]; exact (show fitsB (nI 0) (nu (2 * j)) = true by rw [← h185]; exact (pip_fits _).symm)) (by decide) (show valN (lr j) = nI 0 by rw [hc]; decide))]; exact hw191, by rw [(show obeyF x (lr j) (nu (2 * j)) (nu (2 * j + 1)) = _ from obeyF_p (by rw [hc]; decide) (by rw [hc]; decide) (by rw [(show valN (lr j) = nI 0 by rw [hc]; decide)]; exact (show fitsB (nI 0) (nu (2 * j)) = true by rw [← h185]; exact (pip_fits _).symm)) (by decide) (show valN (lr j) = nI 0 by rw [hc]; decide))]⟩
  · refine V_aload_n ok dX3_isDone_0 rfl 0 rfl ?_
    refine V_get (v := .ref (b 11)) ok 0 14 tw_X3 twf_X3_41 rfl rfl (by decide) dX3_isDone_1 rfl rfl ?_
    refine V_iconst (v := nI 2) ok dX3_isDone_4 rfl ?_
    refine V_iload_n ok dX3_isDone_5 rfl 1 rfl ?_
    refine V_imulN (a := 2) (b := j) (c := 2 * j) ok dX3_isDone_6 (by first | rfl | omega) ?_
    refine V_iald (f := nu) (N := 100) ok 11 (2 * j) dX3_isDone_7 rfl rfl (by omega) (by decide) ?_
    refine V_istore_n (lv2 := [(2, .int (nu (2 * j))), (0, .ref (b 0)), (1, .int (nI j))]) ok dX3_isDone_8 rfl (by decide) rfl ?_
    refine V_aload_n ok dX3_isDone_9 rfl 1 rfl ?_
    refine V_get (v := .ref (b 11)) ok 0 14 tw_X3 twf_X3_41 rfl rfl (by decide) dX3_isDone_10 rfl rfl ?_
    refine V_iconst (v := nI 2) ok dX3_isDone_13 rfl ?_
    refine V_iload_n ok dX3_isDone_14 rfl 2 rfl ?_
    refine V_imulN (a := 2) (b := j) (c := 2 * j) ok dX3_isDone_15 (by first | rfl | omega) ?_
    refine V_iconst (v := nI 1) ok dX3_isDone_16 rfl ?_
    refine V_iaddN (a := 2 * j) (b := 1) (c := (2 * j) + 1) ok dX3_isDone_17 (by first | rfl | omega) ?_
    refine V_iald (f := nu) (N := 100) ok 11 ((2 * j) + 1) dX3_isDone_18 rfl rfl (by omega) (by decide) ?_
    refine V_istore_n (lv2 := [(3, .int (nu ((2 * j) + 1))), (2, .int (nu (2 * j))), (0, .ref (b 0)), (1, .int (nI j))]) ok dX3_isDone_19 rfl (by decide) rfl ?_
    refine V_aload_n ok dX3_isDone_20 rfl 2 rfl ?_
    refine V_get (v := .ref (b 10)) ok 0 13 tw_X3 twf_X3_38 rfl rfl (by decide) dX3_isDone_21 rfl rfl ?_
    refine V_iload_n ok dX3_isDone_24 rfl 3 rfl ?_
    refine V_iald (f := lr) (N := 50) ok 10 j dX3_isDone_25 rfl rfl (by omega) (by decide) ?_
    refine V_top_int (b := nI 104) (hc) ?_
    refine V_istore (lv2 := [(4, .int (nI 104)), (3, .int (nu ((2 * j) + 1))), (2, .int (nu (2 * j))), (0, .ref (b 0)), (1, .int (nI j))]) ok dX3_isDone_26 (by decide) rfl ?_
    refine V_iload ok dX3_isDone_28 0 rfl ?_
    refine V_bipush (v := nI 104) ok dX3_isDone_30 rfl ?_
    refine V_icmpN_ne (tgt := 39) ok dX3_isDone_32 (by decide) (by omega) (by omega) (fun h32 => absurd (by decide) h32) (fun h32 => ?_)
    refine V_iconst (v := nI 0) ok dX3_isDone_35 rfl ?_
    refine V_goto (tgt := 51) ok dX3_isDone_36 (by decide) ?_
    refine V_istore (lv2 := [(5, .int (nI 0)), (4, .int (nI 104)), (3, .int (nu ((2 * j) + 1))), (2, .int (nu (2 * j))), (0, .ref (b 0)), (1, .int (nI j))]) ok dX3_isDone_51 (by decide) rfl ?_
    refine V_iload ok dX3_isDone_53 1 rfl ?_
    refine V_bipush (v := nI 108) ok dX3_isDone_55 rfl ?_
    refine V_icmpN_ne (tgt := 64) ok dX3_isDone_57 (by decide) (by omega) (by omega) (fun h57 => ?_) (fun h57 => absurd h57 (by decide))
    refine V_iconst (v := nI 1) ok dX3_isDone_64 rfl ?_
    refine V_istore (lv2 := [(6, .int (nI 1)), (5, .int (nI 0)), (4, .int (nI 104)), (3, .int (nu ((2 * j) + 1))), (2, .int (nu (2 * j))), (0, .ref (b 0)), (1, .int (nI j))]) ok dX3_isDone_65 (by decide) rfl ?_
    refine V_iload ok dX3_isDone_67 2 rfl ?_
    refine V_tabIn (off := 129) (tgt := 198) ok dX3_isDone_69 (by decide) (by decide) rfl (by decide) ?_
    refine V_aload_n ok dX3_isDone_198 rfl 5 rfl ?_
    refine V_iload ok dX3_isDone_199 1 rfl ?_
    refine V_iload_n ok dX3_isDone_201 rfl 4 rfl ?_
    refine V_cW (v2 := some (.int (bI (setB (nI 0) (nu (2 * j)))))) (w2 := modelW g b x.1 wv ah pa pw ai aw sts rf tx len pl ord lr nu hsh) (rest := []) ok 0 3 (c_X3_maySet g b x.1 wv ah pa pw ai aw sts rf tx len pl ord lr nu hsh (nI 0) (nu (2 * j))) 2 twm_X3_92 twi_yX3_maySet twv_yX3_maySet twin_X3 twc_yX3_maySet yok_X3_maySet (by decide) ⟨rfl, rfl⟩ dX3_isDone_202 rfl rfl rfl rfl (Nat.le_of_ble_eq_true rfl) ⟨Nat.zero_le _, Nat.zero_le _⟩ ?_
    refine V_istore (lv2 := [(7, .int (bI (setB (nI 0) (nu (2 * j))))), (6, .int (nI 1)), (5, .int (nI 0)), (4, .int (nI 104)), (3, .int (nu ((2 * j) + 1))), (2, .int (nu (2 * j))), (0, .ref (b 0)), (1, .int (nI j))]) ok dX3_isDone_205 (by decide) rfl ?_
    refine V_iload ok dX3_isDone_207 0 rfl ?_
    refine V_ifB_eq (tgt := 222) ok dX3_isDone_209 (by decide) (fun h209 => ?_) (fun h209 => ?_)
    · refine V_iload ok dX3_isDone_222 0 rfl ?_
      exact V_zret ok dX3_isDone_224 (Nat.zero_le _) (Nat.zero_le _) (bI_nar _) ⟨by rw [(show obeyF x (lr j) (nu (2 * j)) (nu (2 * j + 1)) = _ from obey_no 1 (by rw [hc]; decide) (by rw [hc]; decide) (show valN (lr j) = nI 1 by rw [hc]; decide) (show ¬ fitsB (nI 1) (nu (2 * j)) = true from fun z => h209 ((set_fits (j := 0) (by decide) _).trans z))), Bool.eq_false_iff.mpr h209], _, _, by rw [(show obeyF x (lr j) (nu (2 * j)) (nu (2 * j + 1)) = _ from obey_no 1 (by rw [hc]; decide) (by rw [hc]; decide) (show valN (lr j) = nI 1 by rw [hc]; decide) (show ¬ fitsB (nI 1) (nu (2 * j)) = true from fun z => h209 ((set_fits (j := 0) (by decide) _).trans z)))]; exact hw, by rw [(show obeyF x (lr j) (nu (2 * j)) (nu (2 * j + 1)) = _ from obey_no 1 (by rw [hc]; decide) (by rw [hc]; decide) (show valN (lr j) = nI 1 by rw [hc]; decide) (show ¬ fitsB (nI 1) (nu (2 * j)) = true from fun z => h209 ((set_fits (j := 0) (by decide) _).trans z)))]⟩
    · refine V_aload_n ok dX3_isDone_212 rfl 6 rfl ?_
      refine V_iconst (v := nI 1) ok dX3_isDone_213 rfl ?_
      refine V_iload ok dX3_isDone_214 2 rfl ?_
      refine V_iaddN (a := 1) (b := 0) (c := 1) ok dX3_isDone_216 (by first | rfl | omega) ?_
      refine V_iload_n ok dX3_isDone_217 rfl 5 rfl ?_
      refine V_cX (rest := []) ok 0 3 (c_X3_becomes g b x wv ah pa pw ai aw sts rf tx len pl ord lr nu hsh 1 (nu (2 * j)) (by decide) (hx.1.put1 (fits_ok (by decide) (show fitsB (nI 1) (nu (2 * j)) = true by rw [← h209]; exact (set_fits (j := 0) (by decide) _).symm)))) 2 twm_X3_88 twi_yX3_becomes twv_yX3_becomes twin_X3 twc_yX3_becomes yok_X3_becomes (by decide) ⟨rfl, rfl⟩ dX3_isDone_218 rfl rfl rfl rfl (Nat.le_of_ble_eq_true rfl) ⟨Nat.zero_le _, Nat.zero_le _⟩ (fun v_ w_ hh => ?_)
      obtain ⟨rfl, wv218, hw218, rfl⟩ := hh
      refine V_pop ok dX3_isDone_221 rfl ?_
      refine V_iload ok dX3_isDone_222 0 rfl ?_
      exact V_zret ok dX3_isDone_224 (Nat.zero_le _) (Nat.zero_le _) (bI_nar _) ⟨by rw [(show obeyF x (lr j) (nu (2 * j)) (nu (2 * j + 1)) = _ from obeyF_p (by rw [hc]; decide) (by rw [hc]; decide) (by rw [(show valN (lr j) = nI 1 by rw [hc]; decide)]; exact (show fitsB (nI 1) (nu (2 * j)) = true by rw [← h209]; exact (set_fits (j := 0) (by decide) _).symm)) (by decide) (show valN (lr j) = nI 1 by rw [hc]; decide)), h209], _, _, by rw [(show obeyF x (lr j) (nu (2 * j)) (nu (2 * j + 1)) = _ from obeyF_p (by rw [hc]; decide) (by rw [hc]; decide) (by rw [(show valN (lr j) = nI 1 by rw [hc]; decide)]; exact (show fitsB (nI 1) (nu (2 * j)) = true by rw [← h209]; exact (set_fits (j := 0) (by decide) _).symm)) (by decide) (show valN (lr j) = nI 1 by rw [hc]; decide))]; exact hw218, by rw [(show obeyF x (lr j) (nu (2 * j)) (nu (2 * j + 1)) = _ from obeyF_p (by rw [hc]; decide) (by rw [hc]; decide) (by rw [(show valN (lr j) = nI 1 by rw [hc]; decide)]; exact (show fitsB (nI 1) (nu (2 * j)) = true by rw [← h209]; exact (set_fits (j := 0) (by decide) _).symm)) (by decide) (show valN (lr j) = nI 1 by rw [hc]; decide))]⟩
  · refine V_aload_n ok dX3_isDone_0 rfl 0 rfl ?_
    refine V_get (v := .ref (b 11)) ok 0 14 tw_X3 twf_X3_41 rfl rfl (by decide) dX3_isDone_1 rfl rfl ?_
    refine V_iconst (v := nI 2) ok dX3_isDone_4 rfl ?_
    refine V_iload_n ok dX3_isDone_5 rfl 1 rfl ?_
    refine V_imulN (a := 2) (b := j) (c := 2 * j) ok dX3_isDone_6 (by first | rfl | omega) ?_
    refine V_iald (f := nu) (N := 100) ok 11 (2 * j) dX3_isDone_7 rfl rfl (by omega) (by decide) ?_
    refine V_istore_n (lv2 := [(2, .int (nu (2 * j))), (0, .ref (b 0)), (1, .int (nI j))]) ok dX3_isDone_8 rfl (by decide) rfl ?_
    refine V_aload_n ok dX3_isDone_9 rfl 1 rfl ?_
    refine V_get (v := .ref (b 11)) ok 0 14 tw_X3 twf_X3_41 rfl rfl (by decide) dX3_isDone_10 rfl rfl ?_
    refine V_iconst (v := nI 2) ok dX3_isDone_13 rfl ?_
    refine V_iload_n ok dX3_isDone_14 rfl 2 rfl ?_
    refine V_imulN (a := 2) (b := j) (c := 2 * j) ok dX3_isDone_15 (by first | rfl | omega) ?_
    refine V_iconst (v := nI 1) ok dX3_isDone_16 rfl ?_
    refine V_iaddN (a := 2 * j) (b := 1) (c := (2 * j) + 1) ok dX3_isDone_17 (by first | rfl | omega) ?_
    refine V_iald (f := nu) (N := 100) ok 11 ((2 * j) + 1) dX3_isDone_18 rfl rfl (by omega) (by decide) ?_
    refine V_istore_n (lv2 := [(3, .int (nu ((2 * j) + 1))), (2, .int (nu (2 * j))), (0, .ref (b 0)), (1, .int (nI j))]) ok dX3_isDone_19 rfl (by decide) rfl ?_
    refine V_aload_n ok dX3_isDone_20 rfl 2 rfl ?_
    refine V_get (v := .ref (b 10)) ok 0 13 tw_X3 twf_X3_38 rfl rfl (by decide) dX3_isDone_21 rfl rfl ?_
    refine V_iload_n ok dX3_isDone_24 rfl 3 rfl ?_
    refine V_iald (f := lr) (N := 50) ok 10 j dX3_isDone_25 rfl rfl (by omega) (by decide) ?_
    refine V_top_int (b := nI 113) (hc) ?_
    refine V_istore (lv2 := [(4, .int (nI 113)), (3, .int (nu ((2 * j) + 1))), (2, .int (nu (2 * j))), (0, .ref (b 0)), (1, .int (nI j))]) ok dX3_isDone_26 (by decide) rfl ?_
    refine V_iload ok dX3_isDone_28 0 rfl ?_
    refine V_bipush (v := nI 104) ok dX3_isDone_30 rfl ?_
    refine V_icmpN_ne (tgt := 39) ok dX3_isDone_32 (by decide) (by omega) (by omega) (fun h32 => ?_) (fun h32 => absurd h32 (by decide))
    refine V_iload ok dX3_isDone_39 0 rfl ?_
    refine V_bipush (v := nI 113) ok dX3_isDone_41 rfl ?_
    refine V_icmpN_ne (tgt := 50) ok dX3_isDone_43 (by decide) (by omega) (by omega) (fun h43 => absurd (by decide) h43) (fun h43 => ?_)
    refine V_iconst (v := nI 1) ok dX3_isDone_46 rfl ?_
    refine V_goto (tgt := 51) ok dX3_isDone_47 (by decide) ?_
    refine V_istore (lv2 := [(5, .int (nI 1)), (4, .int (nI 113)), (3, .int (nu ((2 * j) + 1))), (2, .int (nu (2 * j))), (0, .ref (b 0)), (1, .int (nI j))]) ok dX3_isDone_51 (by decide) rfl ?_
    refine V_iload ok dX3_isDone_53 1 rfl ?_
    refine V_bipush (v := nI 108) ok dX3_isDone_55 rfl ?_
    refine V_icmpN_ne (tgt := 64) ok dX3_isDone_57 (by decide) (by omega) (by omega) (fun h57 => ?_) (fun h57 => absurd h57 (by decide))
    refine V_iconst (v := nI 1) ok dX3_isDone_64 rfl ?_
    refine V_istore (lv2 := [(6, .int (nI 1)), (5, .int (nI 1)), (4, .int (nI 113)), (3, .int (nu ((2 * j) + 1))), (2, .int (nu (2 * j))), (0, .ref (b 0)), (1, .int (nI j))]) ok dX3_isDone_65 (by decide) rfl ?_
    refine V_iload ok dX3_isDone_67 2 rfl ?_
    refine V_tabIn (off := 129) (tgt := 198) ok dX3_isDone_69 (by decide) (by decide) rfl (by decide) ?_
    refine V_aload_n ok dX3_isDone_198 rfl 5 rfl ?_
    refine V_iload ok dX3_isDone_199 1 rfl ?_
    refine V_iload_n ok dX3_isDone_201 rfl 4 rfl ?_
    refine V_cW (v2 := some (.int (bI (setB (nI 1) (nu (2 * j)))))) (w2 := modelW g b x.1 wv ah pa pw ai aw sts rf tx len pl ord lr nu hsh) (rest := []) ok 0 3 (c_X3_maySet g b x.1 wv ah pa pw ai aw sts rf tx len pl ord lr nu hsh (nI 1) (nu (2 * j))) 2 twm_X3_92 twi_yX3_maySet twv_yX3_maySet twin_X3 twc_yX3_maySet yok_X3_maySet (by decide) ⟨rfl, rfl⟩ dX3_isDone_202 rfl rfl rfl rfl (Nat.le_of_ble_eq_true rfl) ⟨Nat.zero_le _, Nat.zero_le _⟩ ?_
    refine V_istore (lv2 := [(7, .int (bI (setB (nI 1) (nu (2 * j))))), (6, .int (nI 1)), (5, .int (nI 1)), (4, .int (nI 113)), (3, .int (nu ((2 * j) + 1))), (2, .int (nu (2 * j))), (0, .ref (b 0)), (1, .int (nI j))]) ok dX3_isDone_205 (by decide) rfl ?_
    refine V_iload ok dX3_isDone_207 0 rfl ?_
    refine V_ifB_eq (tgt := 222) ok dX3_isDone_209 (by decide) (fun h209 => ?_) (fun h209 => ?_)
    · refine V_iload ok dX3_isDone_222 0 rfl ?_
      exact V_zret ok dX3_isDone_224 (Nat.zero_le _) (Nat.zero_le _) (bI_nar _) ⟨by rw [(show obeyF x (lr j) (nu (2 * j)) (nu (2 * j + 1)) = _ from obey_no 2 (by rw [hc]; decide) (by rw [hc]; decide) (show valN (lr j) = nI 2 by rw [hc]; decide) (show ¬ fitsB (nI 2) (nu (2 * j)) = true from fun z => h209 ((set_fits (j := 1) (by decide) _).trans z))), Bool.eq_false_iff.mpr h209], _, _, by rw [(show obeyF x (lr j) (nu (2 * j)) (nu (2 * j + 1)) = _ from obey_no 2 (by rw [hc]; decide) (by rw [hc]; decide) (show valN (lr j) = nI 2 by rw [hc]; decide) (show ¬ fitsB (nI 2) (nu (2 * j)) = true from fun z => h209 ((set_fits (j := 1) (by decide) _).trans z)))]; exact hw, by rw [(show obeyF x (lr j) (nu (2 * j)) (nu (2 * j + 1)) = _ from obey_no 2 (by rw [hc]; decide) (by rw [hc]; decide) (show valN (lr j) = nI 2 by rw [hc]; decide) (show ¬ fitsB (nI 2) (nu (2 * j)) = true from fun z => h209 ((set_fits (j := 1) (by decide) _).trans z)))]⟩
    · refine V_aload_n ok dX3_isDone_212 rfl 6 rfl ?_
      refine V_iconst (v := nI 1) ok dX3_isDone_213 rfl ?_
      refine V_iload ok dX3_isDone_214 2 rfl ?_
      refine V_iaddN (a := 1) (b := 1) (c := 2) ok dX3_isDone_216 (by first | rfl | omega) ?_
      refine V_iload_n ok dX3_isDone_217 rfl 5 rfl ?_
      refine V_cX (rest := []) ok 0 3 (c_X3_becomes g b x wv ah pa pw ai aw sts rf tx len pl ord lr nu hsh 2 (nu (2 * j)) (by decide) (hx.1.put1 (fits_ok (by decide) (show fitsB (nI 2) (nu (2 * j)) = true by rw [← h209]; exact (set_fits (j := 1) (by decide) _).symm)))) 2 twm_X3_88 twi_yX3_becomes twv_yX3_becomes twin_X3 twc_yX3_becomes yok_X3_becomes (by decide) ⟨rfl, rfl⟩ dX3_isDone_218 rfl rfl rfl rfl (Nat.le_of_ble_eq_true rfl) ⟨Nat.zero_le _, Nat.zero_le _⟩ (fun v_ w_ hh => ?_)
      obtain ⟨rfl, wv218, hw218, rfl⟩ := hh
      refine V_pop ok dX3_isDone_221 rfl ?_
      refine V_iload ok dX3_isDone_222 0 rfl ?_
      exact V_zret ok dX3_isDone_224 (Nat.zero_le _) (Nat.zero_le _) (bI_nar _) ⟨by rw [(show obeyF x (lr j) (nu (2 * j)) (nu (2 * j + 1)) = _ from obeyF_p (by rw [hc]; decide) (by rw [hc]; decide) (by rw [(show valN (lr j) = nI 2 by rw [hc]; decide)]; exact (show fitsB (nI 2) (nu (2 * j)) = true by rw [← h209]; exact (set_fits (j := 1) (by decide) _).symm)) (by decide) (show valN (lr j) = nI 2 by rw [hc]; decide)), h209], _, _, by rw [(show obeyF x (lr j) (nu (2 * j)) (nu (2 * j + 1)) = _ from obeyF_p (by rw [hc]; decide) (by rw [hc]; decide) (by rw [(show valN (lr j) = nI 2 by rw [hc]; decide)]; exact (show fitsB (nI 2) (nu (2 * j)) = true by rw [← h209]; exact (set_fits (j := 1) (by decide) _).symm)) (by decide) (show valN (lr j) = nI 2 by rw [hc]; decide))]; exact hw218, by rw [(show obeyF x (lr j) (nu (2 * j)) (nu (2 * j + 1)) = _ from obeyF_p (by rw [hc]; decide) (by rw [hc]; decide) (by rw [(show valN (lr j) = nI 2 by rw [hc]; decide)]; exact (show fitsB (nI 2) (nu (2 * j)) = true by rw [← h209]; exact (set_fits (j := 1) (by decide) _).symm)) (by decide) (show valN (lr j) = nI 2 by rw [hc]; decide))]⟩
  · refine V_aload_n ok dX3_isDone_0 rfl 0 rfl ?_
    refine V_get (v := .ref (b 11)) ok 0 14 tw_X3 twf_X3_41 rfl rfl (by decide) dX3_isDone_1 rfl rfl ?_
    refine V_iconst (v := nI 2) ok dX3_isDone_4 rfl ?_
    refine V_iload_n ok dX3_isDone_5 rfl 1 rfl ?_
    refine V_imulN (a := 2) (b := j) (c := 2 * j) ok dX3_isDone_6 (by first | rfl | omega) ?_
    refine V_iald (f := nu) (N := 100) ok 11 (2 * j) dX3_isDone_7 rfl rfl (by omega) (by decide) ?_
    refine V_istore_n (lv2 := [(2, .int (nu (2 * j))), (0, .ref (b 0)), (1, .int (nI j))]) ok dX3_isDone_8 rfl (by decide) rfl ?_
    refine V_aload_n ok dX3_isDone_9 rfl 1 rfl ?_
    refine V_get (v := .ref (b 11)) ok 0 14 tw_X3 twf_X3_41 rfl rfl (by decide) dX3_isDone_10 rfl rfl ?_
    refine V_iconst (v := nI 2) ok dX3_isDone_13 rfl ?_
    refine V_iload_n ok dX3_isDone_14 rfl 2 rfl ?_
    refine V_imulN (a := 2) (b := j) (c := 2 * j) ok dX3_isDone_15 (by first | rfl | omega) ?_
    refine V_iconst (v := nI 1) ok dX3_isDone_16 rfl ?_
    refine V_iaddN (a := 2 * j) (b := 1) (c := (2 * j) + 1) ok dX3_isDone_17 (by first | rfl | omega) ?_
    refine V_iald (f := nu) (N := 100) ok 11 ((2 * j) + 1) dX3_isDone_18 rfl rfl (by omega) (by decide) ?_
    refine V_istore_n (lv2 := [(3, .int (nu ((2 * j) + 1))), (2, .int (nu (2 * j))), (0, .ref (b 0)), (1, .int (nI j))]) ok dX3_isDone_19 rfl (by decide) rfl ?_
    refine V_aload_n ok dX3_isDone_20 rfl 2 rfl ?_
    refine V_get (v := .ref (b 10)) ok 0 13 tw_X3 twf_X3_38 rfl rfl (by decide) dX3_isDone_21 rfl rfl ?_
    refine V_iload_n ok dX3_isDone_24 rfl 3 rfl ?_
    refine V_iald (f := lr) (N := 50) ok 10 j dX3_isDone_25 rfl rfl (by omega) (by decide) ?_
    refine V_top_int (b := nI 97) (hc) ?_
    refine V_istore (lv2 := [(4, .int (nI 97)), (3, .int (nu ((2 * j) + 1))), (2, .int (nu (2 * j))), (0, .ref (b 0)), (1, .int (nI j))]) ok dX3_isDone_26 (by decide) rfl ?_
    refine V_iload ok dX3_isDone_28 0 rfl ?_
    refine V_bipush (v := nI 104) ok dX3_isDone_30 rfl ?_
    refine V_icmpN_ne (tgt := 39) ok dX3_isDone_32 (by decide) (by omega) (by omega) (fun h32 => ?_) (fun h32 => absurd h32 (by decide))
    refine V_iload ok dX3_isDone_39 0 rfl ?_
    refine V_bipush (v := nI 113) ok dX3_isDone_41 rfl ?_
    refine V_icmpN_ne (tgt := 50) ok dX3_isDone_43 (by decide) (by omega) (by omega) (fun h43 => ?_) (fun h43 => absurd h43 (by decide))
    refine V_iconst (v := nI 2) ok dX3_isDone_50 rfl ?_
    refine V_istore (lv2 := [(5, .int (nI 2)), (4, .int (nI 97)), (3, .int (nu ((2 * j) + 1))), (2, .int (nu (2 * j))), (0, .ref (b 0)), (1, .int (nI j))]) ok dX3_isDone_51 (by decide) rfl ?_
    refine V_iload ok dX3_isDone_53 1 rfl ?_
    refine V_bipush (v := nI 108) ok dX3_isDone_55 rfl ?_
    refine V_icmpN_ne (tgt := 64) ok dX3_isDone_57 (by decide) (by omega) (by omega) (fun h57 => ?_) (fun h57 => absurd h57 (by decide))
    refine V_iconst (v := nI 1) ok dX3_isDone_64 rfl ?_
    refine V_istore (lv2 := [(6, .int (nI 1)), (5, .int (nI 2)), (4, .int (nI 97)), (3, .int (nu ((2 * j) + 1))), (2, .int (nu (2 * j))), (0, .ref (b 0)), (1, .int (nI j))]) ok dX3_isDone_65 (by decide) rfl ?_
    refine V_iload ok dX3_isDone_67 2 rfl ?_
    refine V_tabIn (off := 129) (tgt := 198) ok dX3_isDone_69 (by decide) (by decide) rfl (by decide) ?_
    refine V_aload_n ok dX3_isDone_198 rfl 5 rfl ?_
    refine V_iload ok dX3_isDone_199 1 rfl ?_
    refine V_iload_n ok dX3_isDone_201 rfl 4 rfl ?_
    refine V_cW (v2 := some (.int (bI (setB (nI 2) (nu (2 * j)))))) (w2 := modelW g b x.1 wv ah pa pw ai aw sts rf tx len pl ord lr nu hsh) (rest := []) ok 0 3 (c_X3_maySet g b x.1 wv ah pa pw ai aw sts rf tx len pl ord lr nu hsh (nI 2) (nu (2 * j))) 2 twm_X3_92 twi_yX3_maySet twv_yX3_maySet twin_X3 twc_yX3_maySet yok_X3_maySet (by decide) ⟨rfl, rfl⟩ dX3_isDone_202 rfl rfl rfl rfl (Nat.le_of_ble_eq_true rfl) ⟨Nat.zero_le _, Nat.zero_le _⟩ ?_
    refine V_istore (lv2 := [(7, .int (bI (setB (nI 2) (nu (2 * j))))), (6, .int (nI 1)), (5, .int (nI 2)), (4, .int (nI 97)), (3, .int (nu ((2 * j) + 1))), (2, .int (nu (2 * j))), (0, .ref (b 0)), (1, .int (nI j))]) ok dX3_isDone_205 (by decide) rfl ?_
    refine V_iload ok dX3_isDone_207 0 rfl ?_
    refine V_ifB_eq (tgt := 222) ok dX3_isDone_209 (by decide) (fun h209 => ?_) (fun h209 => ?_)
    · refine V_iload ok dX3_isDone_222 0 rfl ?_
      exact V_zret ok dX3_isDone_224 (Nat.zero_le _) (Nat.zero_le _) (bI_nar _) ⟨by rw [(show obeyF x (lr j) (nu (2 * j)) (nu (2 * j + 1)) = _ from obey_no 3 (by rw [hc]; decide) (by rw [hc]; decide) (show valN (lr j) = nI 3 by rw [hc]; decide) (show ¬ fitsB (nI 3) (nu (2 * j)) = true from fun z => h209 ((set_fits (j := 2) (by decide) _).trans z))), Bool.eq_false_iff.mpr h209], _, _, by rw [(show obeyF x (lr j) (nu (2 * j)) (nu (2 * j + 1)) = _ from obey_no 3 (by rw [hc]; decide) (by rw [hc]; decide) (show valN (lr j) = nI 3 by rw [hc]; decide) (show ¬ fitsB (nI 3) (nu (2 * j)) = true from fun z => h209 ((set_fits (j := 2) (by decide) _).trans z)))]; exact hw, by rw [(show obeyF x (lr j) (nu (2 * j)) (nu (2 * j + 1)) = _ from obey_no 3 (by rw [hc]; decide) (by rw [hc]; decide) (show valN (lr j) = nI 3 by rw [hc]; decide) (show ¬ fitsB (nI 3) (nu (2 * j)) = true from fun z => h209 ((set_fits (j := 2) (by decide) _).trans z)))]⟩
    · refine V_aload_n ok dX3_isDone_212 rfl 6 rfl ?_
      refine V_iconst (v := nI 1) ok dX3_isDone_213 rfl ?_
      refine V_iload ok dX3_isDone_214 2 rfl ?_
      refine V_iaddN (a := 1) (b := 2) (c := 3) ok dX3_isDone_216 (by first | rfl | omega) ?_
      refine V_iload_n ok dX3_isDone_217 rfl 5 rfl ?_
      refine V_cX (rest := []) ok 0 3 (c_X3_becomes g b x wv ah pa pw ai aw sts rf tx len pl ord lr nu hsh 3 (nu (2 * j)) (by decide) (hx.1.put1 (fits_ok (by decide) (show fitsB (nI 3) (nu (2 * j)) = true by rw [← h209]; exact (set_fits (j := 2) (by decide) _).symm)))) 2 twm_X3_88 twi_yX3_becomes twv_yX3_becomes twin_X3 twc_yX3_becomes yok_X3_becomes (by decide) ⟨rfl, rfl⟩ dX3_isDone_218 rfl rfl rfl rfl (Nat.le_of_ble_eq_true rfl) ⟨Nat.zero_le _, Nat.zero_le _⟩ (fun v_ w_ hh => ?_)
      obtain ⟨rfl, wv218, hw218, rfl⟩ := hh
      refine V_pop ok dX3_isDone_221 rfl ?_
      refine V_iload ok dX3_isDone_222 0 rfl ?_
      exact V_zret ok dX3_isDone_224 (Nat.zero_le _) (Nat.zero_le _) (bI_nar _) ⟨by rw [(show obeyF x (lr j) (nu (2 * j)) (nu (2 * j + 1)) = _ from obeyF_p (by rw [hc]; decide) (by rw [hc]; decide) (by rw [(show valN (lr j) = nI 3 by rw [hc]; decide)]; exact (show fitsB (nI 3) (nu (2 * j)) = true by rw [← h209]; exact (set_fits (j := 2) (by decide) _).symm)) (by decide) (show valN (lr j) = nI 3 by rw [hc]; decide)), h209], _, _, by rw [(show obeyF x (lr j) (nu (2 * j)) (nu (2 * j + 1)) = _ from obeyF_p (by rw [hc]; decide) (by rw [hc]; decide) (by rw [(show valN (lr j) = nI 3 by rw [hc]; decide)]; exact (show fitsB (nI 3) (nu (2 * j)) = true by rw [← h209]; exact (set_fits (j := 2) (by decide) _).symm)) (by decide) (show valN (lr j) = nI 3 by rw [hc]; decide))]; exact hw218, by rw [(show obeyF x (lr j) (nu (2 * j)) (nu (2 * j + 1)) = _ from obeyF_p (by rw [hc]; decide) (by rw [hc]; decide) (by rw [(show valN (lr j) = nI 3 by rw [hc]; decide)]; exact (show fitsB (nI 3) (nu (2 * j)) = true by rw [← h209]; exact (set_fits (j := 2) (by decide) _).symm)) (by decide) (show valN (lr j) = nI 3 by rw [hc]; decide))]⟩
  · refine V_aload_n ok dX3_isDone_0 rfl 0 rfl ?_
    refine V_get (v := .ref (b 11)) ok 0 14 tw_X3 twf_X3_41 rfl rfl (by decide) dX3_isDone_1 rfl rfl ?_
    refine V_iconst (v := nI 2) ok dX3_isDone_4 rfl ?_
    refine V_iload_n ok dX3_isDone_5 rfl 1 rfl ?_
    refine V_imulN (a := 2) (b := j) (c := 2 * j) ok dX3_isDone_6 (by first | rfl | omega) ?_
    refine V_iald (f := nu) (N := 100) ok 11 (2 * j) dX3_isDone_7 rfl rfl (by omega) (by decide) ?_
    refine V_istore_n (lv2 := [(2, .int (nu (2 * j))), (0, .ref (b 0)), (1, .int (nI j))]) ok dX3_isDone_8 rfl (by decide) rfl ?_
    refine V_aload_n ok dX3_isDone_9 rfl 1 rfl ?_
    refine V_get (v := .ref (b 11)) ok 0 14 tw_X3 twf_X3_41 rfl rfl (by decide) dX3_isDone_10 rfl rfl ?_
    refine V_iconst (v := nI 2) ok dX3_isDone_13 rfl ?_
    refine V_iload_n ok dX3_isDone_14 rfl 2 rfl ?_
    refine V_imulN (a := 2) (b := j) (c := 2 * j) ok dX3_isDone_15 (by first | rfl | omega) ?_
    refine V_iconst (v := nI 1) ok dX3_isDone_16 rfl ?_
    refine V_iaddN (a := 2 * j) (b := 1) (c := (2 * j) + 1) ok dX3_isDone_17 (by first | rfl | omega) ?_
    refine V_iald (f := nu) (N := 100) ok 11 ((2 * j) + 1) dX3_isDone_18 rfl rfl (by omega) (by decide) ?_
    refine V_istore_n (lv2 := [(3, .int (nu ((2 * j) + 1))), (2, .int (nu (2 * j))), (0, .ref (b 0)), (1, .int (nI j))]) ok dX3_isDone_19 rfl (by decide) rfl ?_
    refine V_aload_n ok dX3_isDone_20 rfl 2 rfl ?_
    refine V_get (v := .ref (b 10)) ok 0 13 tw_X3 twf_X3_38 rfl rfl (by decide) dX3_isDone_21 rfl rfl ?_
    refine V_iload_n ok dX3_isDone_24 rfl 3 rfl ?_
    refine V_iald (f := lr) (N := 50) ok 10 j dX3_isDone_25 rfl rfl (by omega) (by decide) ?_
    refine V_top_int (b := nI 108) (hc) ?_
    refine V_istore (lv2 := [(4, .int (nI 108)), (3, .int (nu ((2 * j) + 1))), (2, .int (nu (2 * j))), (0, .ref (b 0)), (1, .int (nI j))]) ok dX3_isDone_26 (by decide) rfl ?_
    refine V_iload ok dX3_isDone_28 0 rfl ?_
    refine V_bipush (v := nI 104) ok dX3_isDone_30 rfl ?_
    refine V_icmpN_ne (tgt := 39) ok dX3_isDone_32 (by decide) (by omega) (by omega) (fun h32 => ?_) (fun h32 => absurd h32 (by decide))
    refine V_iload ok dX3_isDone_39 0 rfl ?_
    refine V_bipush (v := nI 113) ok dX3_isDone_41 rfl ?_
    refine V_icmpN_ne (tgt := 50) ok dX3_isDone_43 (by decide) (by omega) (by omega) (fun h43 => ?_) (fun h43 => absurd h43 (by decide))
    refine V_iconst (v := nI 2) ok dX3_isDone_50 rfl ?_
    refine V_istore (lv2 := [(5, .int (nI 2)), (4, .int (nI 108)), (3, .int (nu ((2 * j) + 1))), (2, .int (nu (2 * j))), (0, .ref (b 0)), (1, .int (nI j))]) ok dX3_isDone_51 (by decide) rfl ?_
    refine V_iload ok dX3_isDone_53 1 rfl ?_
    refine V_bipush (v := nI 108) ok dX3_isDone_55 rfl ?_
    refine V_icmpN_ne (tgt := 64) ok dX3_isDone_57 (by decide) (by omega) (by omega) (fun h57 => absurd (by decide) h57) (fun h57 => ?_)
    refine V_iconst (v := nI 0) ok dX3_isDone_60 rfl ?_
    refine V_goto (tgt := 65) ok dX3_isDone_61 (by decide) ?_
    refine V_istore (lv2 := [(6, .int (nI 0)), (5, .int (nI 2)), (4, .int (nI 108)), (3, .int (nu ((2 * j) + 1))), (2, .int (nu (2 * j))), (0, .ref (b 0)), (1, .int (nI j))]) ok dX3_isDone_65 (by decide) rfl ?_
    refine V_iload ok dX3_isDone_67 2 rfl ?_
    refine V_tabIn (off := 156) (tgt := 225) ok dX3_isDone_69 (by decide) (by decide) rfl (by decide) ?_
    refine V_aload_n ok dX3_isDone_225 rfl 5 rfl ?_
    refine V_iload ok dX3_isDone_226 0 rfl ?_
    refine V_iload_n ok dX3_isDone_228 rfl 4 rfl ?_
    refine V_cW (v2 := some (.int (bI (endB (nI 0) (nu (2 * j)))))) (w2 := modelW g b x.1 wv ah pa pw ai aw sts rf tx len pl ord lr nu hsh) (rest := []) ok 0 3 (c_X3_mayEnd g b x.1 wv ah pa pw ai aw sts rf tx len pl ord lr nu hsh (nI 0) (nu (2 * j))) 2 twm_X3_96 twi_yX3_mayEnd twv_yX3_mayEnd twin_X3 twc_yX3_mayEnd yok_X3_mayEnd (by decide) ⟨rfl, rfl⟩ dX3_isDone_229 rfl rfl rfl rfl (Nat.le_of_ble_eq_true rfl) ⟨Nat.zero_le _, Nat.zero_le _⟩ ?_
    refine V_istore (lv2 := [(7, .int (bI (endB (nI 0) (nu (2 * j))))), (6, .int (nI 0)), (5, .int (nI 2)), (4, .int (nI 108)), (3, .int (nu ((2 * j) + 1))), (2, .int (nu (2 * j))), (0, .ref (b 0)), (1, .int (nI j))]) ok dX3_isDone_232 (by decide) rfl ?_
    refine V_iload ok dX3_isDone_234 0 rfl ?_
    refine V_ifB_eq (tgt := 249) ok dX3_isDone_236 (by decide) (fun h236 => ?_) (fun h236 => ?_)
    · refine V_iload ok dX3_isDone_249 0 rfl ?_
      exact V_zret ok dX3_isDone_251 (Nat.zero_le _) (Nat.zero_le _) (bI_nar _) ⟨by rw [(show obeyF x (lr j) (nu (2 * j)) (nu (2 * j + 1)) = _ from obey_no 4 (by rw [hc]; decide) (by rw [hc]; decide) (show valN (lr j) = nI 4 by rw [hc]; decide) (show ¬ fitsB (nI 4) (nu (2 * j)) = true from fun z => h236 ((end_fits (j := 0) (by decide) _).trans z))), Bool.eq_false_iff.mpr h236], _, _, by rw [(show obeyF x (lr j) (nu (2 * j)) (nu (2 * j + 1)) = _ from obey_no 4 (by rw [hc]; decide) (by rw [hc]; decide) (show valN (lr j) = nI 4 by rw [hc]; decide) (show ¬ fitsB (nI 4) (nu (2 * j)) = true from fun z => h236 ((end_fits (j := 0) (by decide) _).trans z)))]; exact hw, by rw [(show obeyF x (lr j) (nu (2 * j)) (nu (2 * j + 1)) = _ from obey_no 4 (by rw [hc]; decide) (by rw [hc]; decide) (show valN (lr j) = nI 4 by rw [hc]; decide) (show ¬ fitsB (nI 4) (nu (2 * j)) = true from fun z => h236 ((end_fits (j := 0) (by decide) _).trans z)))]⟩
    · refine V_aload_n ok dX3_isDone_239 rfl 6 rfl ?_
      refine V_iconst (v := nI 4) ok dX3_isDone_240 rfl ?_
      refine V_iload ok dX3_isDone_241 1 rfl ?_
      refine V_iaddN (a := 4) (b := 0) (c := 4) ok dX3_isDone_243 (by first | rfl | omega) ?_
      refine V_iload_n ok dX3_isDone_244 rfl 5 rfl ?_
      refine V_cX (rest := []) ok 0 3 (c_X3_becomes g b x wv ah pa pw ai aw sts rf tx len pl ord lr nu hsh 4 (nu (2 * j)) (by decide) (hx.1.put1 (fits_ok (by decide) (show fitsB (nI 4) (nu (2 * j)) = true by rw [← h236]; exact (end_fits (j := 0) (by decide) _).symm)))) 2 twm_X3_88 twi_yX3_becomes twv_yX3_becomes twin_X3 twc_yX3_becomes yok_X3_becomes (by decide) ⟨rfl, rfl⟩ dX3_isDone_245 rfl rfl rfl rfl (Nat.le_of_ble_eq_true rfl) ⟨Nat.zero_le _, Nat.zero_le _⟩ (fun v_ w_ hh => ?_)
      obtain ⟨rfl, wv245, hw245, rfl⟩ := hh
      refine V_pop ok dX3_isDone_248 rfl ?_
      refine V_iload ok dX3_isDone_249 0 rfl ?_
      exact V_zret ok dX3_isDone_251 (Nat.zero_le _) (Nat.zero_le _) (bI_nar _) ⟨by rw [(show obeyF x (lr j) (nu (2 * j)) (nu (2 * j + 1)) = _ from obeyF_p (by rw [hc]; decide) (by rw [hc]; decide) (by rw [(show valN (lr j) = nI 4 by rw [hc]; decide)]; exact (show fitsB (nI 4) (nu (2 * j)) = true by rw [← h236]; exact (end_fits (j := 0) (by decide) _).symm)) (by decide) (show valN (lr j) = nI 4 by rw [hc]; decide)), h236], _, _, by rw [(show obeyF x (lr j) (nu (2 * j)) (nu (2 * j + 1)) = _ from obeyF_p (by rw [hc]; decide) (by rw [hc]; decide) (by rw [(show valN (lr j) = nI 4 by rw [hc]; decide)]; exact (show fitsB (nI 4) (nu (2 * j)) = true by rw [← h236]; exact (end_fits (j := 0) (by decide) _).symm)) (by decide) (show valN (lr j) = nI 4 by rw [hc]; decide))]; exact hw245, by rw [(show obeyF x (lr j) (nu (2 * j)) (nu (2 * j + 1)) = _ from obeyF_p (by rw [hc]; decide) (by rw [hc]; decide) (by rw [(show valN (lr j) = nI 4 by rw [hc]; decide)]; exact (show fitsB (nI 4) (nu (2 * j)) = true by rw [← h236]; exact (end_fits (j := 0) (by decide) _).symm)) (by decide) (show valN (lr j) = nI 4 by rw [hc]; decide))]⟩
  · refine V_aload_n ok dX3_isDone_0 rfl 0 rfl ?_
    refine V_get (v := .ref (b 11)) ok 0 14 tw_X3 twf_X3_41 rfl rfl (by decide) dX3_isDone_1 rfl rfl ?_
    refine V_iconst (v := nI 2) ok dX3_isDone_4 rfl ?_
    refine V_iload_n ok dX3_isDone_5 rfl 1 rfl ?_
    refine V_imulN (a := 2) (b := j) (c := 2 * j) ok dX3_isDone_6 (by first | rfl | omega) ?_
    refine V_iald (f := nu) (N := 100) ok 11 (2 * j) dX3_isDone_7 rfl rfl (by omega) (by decide) ?_
    refine V_istore_n (lv2 := [(2, .int (nu (2 * j))), (0, .ref (b 0)), (1, .int (nI j))]) ok dX3_isDone_8 rfl (by decide) rfl ?_
    refine V_aload_n ok dX3_isDone_9 rfl 1 rfl ?_
    refine V_get (v := .ref (b 11)) ok 0 14 tw_X3 twf_X3_41 rfl rfl (by decide) dX3_isDone_10 rfl rfl ?_
    refine V_iconst (v := nI 2) ok dX3_isDone_13 rfl ?_
    refine V_iload_n ok dX3_isDone_14 rfl 2 rfl ?_
    refine V_imulN (a := 2) (b := j) (c := 2 * j) ok dX3_isDone_15 (by first | rfl | omega) ?_
    refine V_iconst (v := nI 1) ok dX3_isDone_16 rfl ?_
    refine V_iaddN (a := 2 * j) (b := 1) (c := (2 * j) + 1) ok dX3_isDone_17 (by first | rfl | omega) ?_
    refine V_iald (f := nu) (N := 100) ok 11 ((2 * j) + 1) dX3_isDone_18 rfl rfl (by omega) (by decide) ?_
    refine V_istore_n (lv2 := [(3, .int (nu ((2 * j) + 1))), (2, .int (nu (2 * j))), (0, .ref (b 0)), (1, .int (nI j))]) ok dX3_isDone_19 rfl (by decide) rfl ?_
    refine V_aload_n ok dX3_isDone_20 rfl 2 rfl ?_
    refine V_get (v := .ref (b 10)) ok 0 13 tw_X3 twf_X3_38 rfl rfl (by decide) dX3_isDone_21 rfl rfl ?_
    refine V_iload_n ok dX3_isDone_24 rfl 3 rfl ?_
    refine V_iald (f := lr) (N := 50) ok 10 j dX3_isDone_25 rfl rfl (by omega) (by decide) ?_
    refine V_top_int (b := nI 114) (hc) ?_
    refine V_istore (lv2 := [(4, .int (nI 114)), (3, .int (nu ((2 * j) + 1))), (2, .int (nu (2 * j))), (0, .ref (b 0)), (1, .int (nI j))]) ok dX3_isDone_26 (by decide) rfl ?_
    refine V_iload ok dX3_isDone_28 0 rfl ?_
    refine V_bipush (v := nI 104) ok dX3_isDone_30 rfl ?_
    refine V_icmpN_ne (tgt := 39) ok dX3_isDone_32 (by decide) (by omega) (by omega) (fun h32 => ?_) (fun h32 => absurd h32 (by decide))
    refine V_iload ok dX3_isDone_39 0 rfl ?_
    refine V_bipush (v := nI 113) ok dX3_isDone_41 rfl ?_
    refine V_icmpN_ne (tgt := 50) ok dX3_isDone_43 (by decide) (by omega) (by omega) (fun h43 => ?_) (fun h43 => absurd h43 (by decide))
    refine V_iconst (v := nI 2) ok dX3_isDone_50 rfl ?_
    refine V_istore (lv2 := [(5, .int (nI 2)), (4, .int (nI 114)), (3, .int (nu ((2 * j) + 1))), (2, .int (nu (2 * j))), (0, .ref (b 0)), (1, .int (nI j))]) ok dX3_isDone_51 (by decide) rfl ?_
    refine V_iload ok dX3_isDone_53 1 rfl ?_
    refine V_bipush (v := nI 108) ok dX3_isDone_55 rfl ?_
    refine V_icmpN_ne (tgt := 64) ok dX3_isDone_57 (by decide) (by omega) (by omega) (fun h57 => ?_) (fun h57 => absurd h57 (by decide))
    refine V_iconst (v := nI 1) ok dX3_isDone_64 rfl ?_
    refine V_istore (lv2 := [(6, .int (nI 1)), (5, .int (nI 2)), (4, .int (nI 114)), (3, .int (nu ((2 * j) + 1))), (2, .int (nu (2 * j))), (0, .ref (b 0)), (1, .int (nI j))]) ok dX3_isDone_65 (by decide) rfl ?_
    refine V_iload ok dX3_isDone_67 2 rfl ?_
    refine V_tabIn (off := 156) (tgt := 225) ok dX3_isDone_69 (by decide) (by decide) rfl (by decide) ?_
    refine V_aload_n ok dX3_isDone_225 rfl 5 rfl ?_
    refine V_iload ok dX3_isDone_226 0 rfl ?_
    refine V_iload_n ok dX3_isDone_228 rfl 4 rfl ?_
    refine V_cW (v2 := some (.int (bI (endB (nI 1) (nu (2 * j)))))) (w2 := modelW g b x.1 wv ah pa pw ai aw sts rf tx len pl ord lr nu hsh) (rest := []) ok 0 3 (c_X3_mayEnd g b x.1 wv ah pa pw ai aw sts rf tx len pl ord lr nu hsh (nI 1) (nu (2 * j))) 2 twm_X3_96 twi_yX3_mayEnd twv_yX3_mayEnd twin_X3 twc_yX3_mayEnd yok_X3_mayEnd (by decide) ⟨rfl, rfl⟩ dX3_isDone_229 rfl rfl rfl rfl (Nat.le_of_ble_eq_true rfl) ⟨Nat.zero_le _, Nat.zero_le _⟩ ?_
    refine V_istore (lv2 := [(7, .int (bI (endB (nI 1) (nu (2 * j))))), (6, .int (nI 1)), (5, .int (nI 2)), (4, .int (nI 114)), (3, .int (nu ((2 * j) + 1))), (2, .int (nu (2 * j))), (0, .ref (b 0)), (1, .int (nI j))]) ok dX3_isDone_232 (by decide) rfl ?_
    refine V_iload ok dX3_isDone_234 0 rfl ?_
    refine V_ifB_eq (tgt := 249) ok dX3_isDone_236 (by decide) (fun h236 => ?_) (fun h236 => ?_)
    · refine V_iload ok dX3_isDone_249 0 rfl ?_
      exact V_zret ok dX3_isDone_251 (Nat.zero_le _) (Nat.zero_le _) (bI_nar _) ⟨by rw [(show obeyF x (lr j) (nu (2 * j)) (nu (2 * j + 1)) = _ from obey_no 5 (by rw [hc]; decide) (by rw [hc]; decide) (show valN (lr j) = nI 5 by rw [hc]; decide) (show ¬ fitsB (nI 5) (nu (2 * j)) = true from fun z => h236 ((end_fits (j := 1) (by decide) _).trans z))), Bool.eq_false_iff.mpr h236], _, _, by rw [(show obeyF x (lr j) (nu (2 * j)) (nu (2 * j + 1)) = _ from obey_no 5 (by rw [hc]; decide) (by rw [hc]; decide) (show valN (lr j) = nI 5 by rw [hc]; decide) (show ¬ fitsB (nI 5) (nu (2 * j)) = true from fun z => h236 ((end_fits (j := 1) (by decide) _).trans z)))]; exact hw, by rw [(show obeyF x (lr j) (nu (2 * j)) (nu (2 * j + 1)) = _ from obey_no 5 (by rw [hc]; decide) (by rw [hc]; decide) (show valN (lr j) = nI 5 by rw [hc]; decide) (show ¬ fitsB (nI 5) (nu (2 * j)) = true from fun z => h236 ((end_fits (j := 1) (by decide) _).trans z)))]⟩
    · refine V_aload_n ok dX3_isDone_239 rfl 6 rfl ?_
      refine V_iconst (v := nI 4) ok dX3_isDone_240 rfl ?_
      refine V_iload ok dX3_isDone_241 1 rfl ?_
      refine V_iaddN (a := 4) (b := 1) (c := 5) ok dX3_isDone_243 (by first | rfl | omega) ?_
      refine V_iload_n ok dX3_isDone_244 rfl 5 rfl ?_
      refine V_cX (rest := []) ok 0 3 (c_X3_becomes g b x wv ah pa pw ai aw sts rf tx len pl ord lr nu hsh 5 (nu (2 * j)) (by decide) (hx.1.put1 (fits_ok (by decide) (show fitsB (nI 5) (nu (2 * j)) = true by rw [← h236]; exact (end_fits (j := 1) (by decide) _).symm)))) 2 twm_X3_88 twi_yX3_becomes twv_yX3_becomes twin_X3 twc_yX3_becomes yok_X3_becomes (by decide) ⟨rfl, rfl⟩ dX3_isDone_245 rfl rfl rfl rfl (Nat.le_of_ble_eq_true rfl) ⟨Nat.zero_le _, Nat.zero_le _⟩ (fun v_ w_ hh => ?_)
      obtain ⟨rfl, wv245, hw245, rfl⟩ := hh
      refine V_pop ok dX3_isDone_248 rfl ?_
      refine V_iload ok dX3_isDone_249 0 rfl ?_
      exact V_zret ok dX3_isDone_251 (Nat.zero_le _) (Nat.zero_le _) (bI_nar _) ⟨by rw [(show obeyF x (lr j) (nu (2 * j)) (nu (2 * j + 1)) = _ from obeyF_p (by rw [hc]; decide) (by rw [hc]; decide) (by rw [(show valN (lr j) = nI 5 by rw [hc]; decide)]; exact (show fitsB (nI 5) (nu (2 * j)) = true by rw [← h236]; exact (end_fits (j := 1) (by decide) _).symm)) (by decide) (show valN (lr j) = nI 5 by rw [hc]; decide)), h236], _, _, by rw [(show obeyF x (lr j) (nu (2 * j)) (nu (2 * j + 1)) = _ from obeyF_p (by rw [hc]; decide) (by rw [hc]; decide) (by rw [(show valN (lr j) = nI 5 by rw [hc]; decide)]; exact (show fitsB (nI 5) (nu (2 * j)) = true by rw [← h236]; exact (end_fits (j := 1) (by decide) _).symm)) (by decide) (show valN (lr j) = nI 5 by rw [hc]; decide))]; exact hw245, by rw [(show obeyF x (lr j) (nu (2 * j)) (nu (2 * j + 1)) = _ from obeyF_p (by rw [hc]; decide) (by rw [hc]; decide) (by rw [(show valN (lr j) = nI 5 by rw [hc]; decide)]; exact (show fitsB (nI 5) (nu (2 * j)) = true by rw [← h236]; exact (end_fits (j := 1) (by decide) _).symm)) (by decide) (show valN (lr j) = nI 5 by rw [hc]; decide))]⟩
  · refine V_aload_n ok dX3_isDone_0 rfl 0 rfl ?_
    refine V_get (v := .ref (b 11)) ok 0 14 tw_X3 twf_X3_41 rfl rfl (by decide) dX3_isDone_1 rfl rfl ?_
    refine V_iconst (v := nI 2) ok dX3_isDone_4 rfl ?_
    refine V_iload_n ok dX3_isDone_5 rfl 1 rfl ?_
    refine V_imulN (a := 2) (b := j) (c := 2 * j) ok dX3_isDone_6 (by first | rfl | omega) ?_
    refine V_iald (f := nu) (N := 100) ok 11 (2 * j) dX3_isDone_7 rfl rfl (by omega) (by decide) ?_
    refine V_istore_n (lv2 := [(2, .int (nu (2 * j))), (0, .ref (b 0)), (1, .int (nI j))]) ok dX3_isDone_8 rfl (by decide) rfl ?_
    refine V_aload_n ok dX3_isDone_9 rfl 1 rfl ?_
    refine V_get (v := .ref (b 11)) ok 0 14 tw_X3 twf_X3_41 rfl rfl (by decide) dX3_isDone_10 rfl rfl ?_
    refine V_iconst (v := nI 2) ok dX3_isDone_13 rfl ?_
    refine V_iload_n ok dX3_isDone_14 rfl 2 rfl ?_
    refine V_imulN (a := 2) (b := j) (c := 2 * j) ok dX3_isDone_15 (by first | rfl | omega) ?_
    refine V_iconst (v := nI 1) ok dX3_isDone_16 rfl ?_
    refine V_iaddN (a := 2 * j) (b := 1) (c := (2 * j) + 1) ok dX3_isDone_17 (by first | rfl | omega) ?_
    refine V_iald (f := nu) (N := 100) ok 11 ((2 * j) + 1) dX3_isDone_18 rfl rfl (by omega) (by decide) ?_
    refine V_istore_n (lv2 := [(3, .int (nu ((2 * j) + 1))), (2, .int (nu (2 * j))), (0, .ref (b 0)), (1, .int (nI j))]) ok dX3_isDone_19 rfl (by decide) rfl ?_
    refine V_aload_n ok dX3_isDone_20 rfl 2 rfl ?_
    refine V_get (v := .ref (b 10)) ok 0 13 tw_X3 twf_X3_38 rfl rfl (by decide) dX3_isDone_21 rfl rfl ?_
    refine V_iload_n ok dX3_isDone_24 rfl 3 rfl ?_
    refine V_iald (f := lr) (N := 50) ok 10 j dX3_isDone_25 rfl rfl (by omega) (by decide) ?_
    refine V_top_int (b := nI 119) (hc) ?_
    refine V_istore (lv2 := [(4, .int (nI 119)), (3, .int (nu ((2 * j) + 1))), (2, .int (nu (2 * j))), (0, .ref (b 0)), (1, .int (nI j))]) ok dX3_isDone_26 (by decide) rfl ?_
    refine V_iload ok dX3_isDone_28 0 rfl ?_
    refine V_bipush (v := nI 104) ok dX3_isDone_30 rfl ?_
    refine V_icmpN_ne (tgt := 39) ok dX3_isDone_32 (by decide) (by omega) (by omega) (fun h32 => ?_) (fun h32 => absurd h32 (by decide))
    refine V_iload ok dX3_isDone_39 0 rfl ?_
    refine V_bipush (v := nI 113) ok dX3_isDone_41 rfl ?_
    refine V_icmpN_ne (tgt := 50) ok dX3_isDone_43 (by decide) (by omega) (by omega) (fun h43 => ?_) (fun h43 => absurd h43 (by decide))
    refine V_iconst (v := nI 2) ok dX3_isDone_50 rfl ?_
    refine V_istore (lv2 := [(5, .int (nI 2)), (4, .int (nI 119)), (3, .int (nu ((2 * j) + 1))), (2, .int (nu (2 * j))), (0, .ref (b 0)), (1, .int (nI j))]) ok dX3_isDone_51 (by decide) rfl ?_
    refine V_iload ok dX3_isDone_53 1 rfl ?_
    refine V_bipush (v := nI 108) ok dX3_isDone_55 rfl ?_
    refine V_icmpN_ne (tgt := 64) ok dX3_isDone_57 (by decide) (by omega) (by omega) (fun h57 => ?_) (fun h57 => absurd h57 (by decide))
    refine V_iconst (v := nI 1) ok dX3_isDone_64 rfl ?_
    refine V_istore (lv2 := [(6, .int (nI 1)), (5, .int (nI 2)), (4, .int (nI 119)), (3, .int (nu ((2 * j) + 1))), (2, .int (nu (2 * j))), (0, .ref (b 0)), (1, .int (nI j))]) ok dX3_isDone_65 (by decide) rfl ?_
    refine V_iload ok dX3_isDone_67 2 rfl ?_
    refine V_tabIn (off := 183) (tgt := 252) ok dX3_isDone_69 (by decide) (by decide) rfl (by decide) ?_
    refine V_aload_n ok dX3_isDone_252 rfl 5 rfl ?_
    refine V_iload_n ok dX3_isDone_253 rfl 4 rfl ?_
    refine V_iload_n ok dX3_isDone_254 rfl 3 rfl ?_
    refine V_cW (v2 := some (.int (bI (lawB (nu (2 * j)) (nu ((2 * j) + 1)))))) (w2 := modelW g b x.1 wv ah pa pw ai aw sts rf tx len pl ord lr nu hsh) (rest := []) ok 0 3 (c_X3_isLaw g b x.1 wv ah pa pw ai aw sts rf tx len pl ord lr nu hsh (nu (2 * j)) (nu ((2 * j) + 1))) 2 twm_X3_99 twi_yX3_isLaw twv_yX3_isLaw twin_X3 twc_yX3_isLaw yok_X3_isLaw (by decide) ⟨rfl, rfl⟩ dX3_isDone_255 rfl rfl rfl rfl (Nat.le_of_ble_eq_true rfl) ⟨Nat.zero_le _, Nat.zero_le _⟩ ?_
    refine V_istore (lv2 := [(7, .int (bI (lawB (nu (2 * j)) (nu ((2 * j) + 1))))), (6, .int (nI 1)), (5, .int (nI 2)), (4, .int (nI 119)), (3, .int (nu ((2 * j) + 1))), (2, .int (nu (2 * j))), (0, .ref (b 0)), (1, .int (nI j))]) ok dX3_isDone_258 (by decide) rfl ?_
    refine V_iload ok dX3_isDone_260 0 rfl ?_
    refine V_ifB_eq (tgt := 272) ok dX3_isDone_262 (by decide) (fun h262 => ?_) (fun h262 => ?_)
    · refine V_iload ok dX3_isDone_272 0 rfl ?_
      exact V_zret ok dX3_isDone_274 (Nat.zero_le _) (Nat.zero_le _) (bI_nar _) ⟨by rw [(show obeyF x (lr j) (nu (2 * j)) (nu (2 * j + 1)) = _ from obey_wn hc (fun z => h262 ((law_fits _ _).trans z))), Bool.eq_false_iff.mpr h262], _, _, by rw [(show obeyF x (lr j) (nu (2 * j)) (nu (2 * j + 1)) = _ from obey_wn hc (fun z => h262 ((law_fits _ _).trans z)))]; exact hw, by rw [(show obeyF x (lr j) (nu (2 * j)) (nu (2 * j + 1)) = _ from obey_wn hc (fun z => h262 ((law_fits _ _).trans z)))]⟩
    · refine V_aload_n ok dX3_isDone_265 rfl 6 rfl ?_
      refine V_iload_n ok dX3_isDone_266 rfl 5 rfl ?_
      refine V_iload_n ok dX3_isDone_267 rfl 4 rfl ?_
      refine V_cW (v2 := some (.int (x.1 6))) (w2 := modelW g b (upd (upd x.1 6 (nu (2 * j))) 7 (nu ((2 * j) + 1))) wv ah pa pw ai aw sts rf tx len pl ord lr nu hsh) (rest := []) ok 0 3 (c_X3_becomesLaw g b x.1 wv ah pa pw ai aw sts rf tx len pl ord lr nu hsh (nu (2 * j)) (nu ((2 * j) + 1))) 2 twm_X3_102 twi_yX3_becomesLaw twv_yX3_becomesLaw twin_X3 twc_yX3_becomesLaw yok_X3_becomesLaw (by decide) ⟨rfl, rfl⟩ dX3_isDone_268 rfl rfl rfl rfl (Nat.le_of_ble_eq_true rfl) ⟨Nat.zero_le _, Nat.zero_le _⟩ ?_
      refine V_pop ok dX3_isDone_271 rfl ?_
      refine V_iload ok dX3_isDone_272 0 rfl ?_
      exact V_zret ok dX3_isDone_274 (Nat.zero_le _) (Nat.zero_le _) (bI_nar _) ⟨by rw [(show obeyF x (lr j) (nu (2 * j)) (nu (2 * j + 1)) = _ from obey_w hc ((law_fits _ _).symm.trans h262)), h262], _, _, by rw [(show obeyF x (lr j) (nu (2 * j)) (nu (2 * j + 1)) = _ from obey_w hc ((law_fits _ _).symm.trans h262))]; exact hw.law _ _, by rw [(show obeyF x (lr j) (nu (2 * j)) (nu (2 * j + 1)) = _ from obey_w hc ((law_fits _ _).symm.trans h262))]⟩
  · refine V_aload_n ok dX3_isDone_0 rfl 0 rfl ?_
    refine V_get (v := .ref (b 11)) ok 0 14 tw_X3 twf_X3_41 rfl rfl (by decide) dX3_isDone_1 rfl rfl ?_
    refine V_iconst (v := nI 2) ok dX3_isDone_4 rfl ?_
    refine V_iload_n ok dX3_isDone_5 rfl 1 rfl ?_
    refine V_imulN (a := 2) (b := j) (c := 2 * j) ok dX3_isDone_6 (by first | rfl | omega) ?_
    refine V_iald (f := nu) (N := 100) ok 11 (2 * j) dX3_isDone_7 rfl rfl (by omega) (by decide) ?_
    refine V_istore_n (lv2 := [(2, .int (nu (2 * j))), (0, .ref (b 0)), (1, .int (nI j))]) ok dX3_isDone_8 rfl (by decide) rfl ?_
    refine V_aload_n ok dX3_isDone_9 rfl 1 rfl ?_
    refine V_get (v := .ref (b 11)) ok 0 14 tw_X3 twf_X3_41 rfl rfl (by decide) dX3_isDone_10 rfl rfl ?_
    refine V_iconst (v := nI 2) ok dX3_isDone_13 rfl ?_
    refine V_iload_n ok dX3_isDone_14 rfl 2 rfl ?_
    refine V_imulN (a := 2) (b := j) (c := 2 * j) ok dX3_isDone_15 (by first | rfl | omega) ?_
    refine V_iconst (v := nI 1) ok dX3_isDone_16 rfl ?_
    refine V_iaddN (a := 2 * j) (b := 1) (c := (2 * j) + 1) ok dX3_isDone_17 (by first | rfl | omega) ?_
    refine V_iald (f := nu) (N := 100) ok 11 ((2 * j) + 1) dX3_isDone_18 rfl rfl (by omega) (by decide) ?_
    refine V_istore_n (lv2 := [(3, .int (nu ((2 * j) + 1))), (2, .int (nu (2 * j))), (0, .ref (b 0)), (1, .int (nI j))]) ok dX3_isDone_19 rfl (by decide) rfl ?_
    refine V_aload_n ok dX3_isDone_20 rfl 2 rfl ?_
    refine V_get (v := .ref (b 10)) ok 0 13 tw_X3 twf_X3_38 rfl rfl (by decide) dX3_isDone_21 rfl rfl ?_
    refine V_iload_n ok dX3_isDone_24 rfl 3 rfl ?_
    refine V_iald (f := lr) (N := 50) ok 10 j dX3_isDone_25 rfl rfl (by omega) (by decide) ?_
    refine V_top_int (b := nI 115) (hc) ?_
    refine V_istore (lv2 := [(4, .int (nI 115)), (3, .int (nu ((2 * j) + 1))), (2, .int (nu (2 * j))), (0, .ref (b 0)), (1, .int (nI j))]) ok dX3_isDone_26 (by decide) rfl ?_
    refine V_iload ok dX3_isDone_28 0 rfl ?_
    refine V_bipush (v := nI 104) ok dX3_isDone_30 rfl ?_
    refine V_icmpN_ne (tgt := 39) ok dX3_isDone_32 (by decide) (by omega) (by omega) (fun h32 => ?_) (fun h32 => absurd h32 (by decide))
    refine V_iload ok dX3_isDone_39 0 rfl ?_
    refine V_bipush (v := nI 113) ok dX3_isDone_41 rfl ?_
    refine V_icmpN_ne (tgt := 50) ok dX3_isDone_43 (by decide) (by omega) (by omega) (fun h43 => ?_) (fun h43 => absurd h43 (by decide))
    refine V_iconst (v := nI 2) ok dX3_isDone_50 rfl ?_
    refine V_istore (lv2 := [(5, .int (nI 2)), (4, .int (nI 115)), (3, .int (nu ((2 * j) + 1))), (2, .int (nu (2 * j))), (0, .ref (b 0)), (1, .int (nI j))]) ok dX3_isDone_51 (by decide) rfl ?_
    refine V_iload ok dX3_isDone_53 1 rfl ?_
    refine V_bipush (v := nI 108) ok dX3_isDone_55 rfl ?_
    refine V_icmpN_ne (tgt := 64) ok dX3_isDone_57 (by decide) (by omega) (by omega) (fun h57 => ?_) (fun h57 => absurd h57 (by decide))
    refine V_iconst (v := nI 1) ok dX3_isDone_64 rfl ?_
    refine V_istore (lv2 := [(6, .int (nI 1)), (5, .int (nI 2)), (4, .int (nI 115)), (3, .int (nu ((2 * j) + 1))), (2, .int (nu (2 * j))), (0, .ref (b 0)), (1, .int (nI j))]) ok dX3_isDone_65 (by decide) rfl ?_
    refine V_iload ok dX3_isDone_67 2 rfl ?_
    refine V_tabIn (off := 206) (tgt := 275) ok dX3_isDone_69 (by decide) (by decide) rfl (by decide) ?_
    refine V_iload_n ok dX3_isDone_275 rfl 4 rfl ?_
    refine V_iconst (v := nI 1) ok dX3_isDone_276 rfl ?_
    refine V_bipush (v := nI 100) ok dX3_isDone_277 rfl ?_
    refine V_cS (v2 := some (.int (bI (wiB (nu (2 * j)) (nI 1) (nI 100))))) (wn := modelW g b x.1 wv ah pa pw ai aw sts rf tx len pl ord lr nu hsh) (rest := []) ok (c_X3_within g (nu (2 * j)) (nI 1) (nI 100)) 3 twm_X3_74 tws_yX3_within twin_X3 twc_yX3_within yok_X3_within (by decide) ⟨rfl, rfl⟩ dX3_isDone_279 rfl rfl (Nat.le_of_ble_eq_true rfl) ⟨Nat.zero_le _, Nat.zero_le _⟩ [] rfl rfl (Nat.le_of_ble_eq_true rfl) rfl ?_
    refine V_ifB_eq (tgt := 304) ok dX3_isDone_282 (by decide) (fun h282 => ?_) (fun h282 => ?_)
    · refine V_iconst (v := nI 0) ok dX3_isDone_304 rfl ?_
      refine V_istore (lv2 := [(7, .int (nI 0)), (6, .int (nI 1)), (5, .int (nI 2)), (4, .int (nI 115)), (3, .int (nu ((2 * j) + 1))), (2, .int (nu (2 * j))), (0, .ref (b 0)), (1, .int (nI j))]) ok dX3_isDone_305 (by decide) rfl ?_
      refine V_iload ok dX3_isDone_307 0 rfl ?_
      refine V_ifN_eq (tgt := 318) ok dX3_isDone_309 (by decide) (by omega) (fun h309 => ?_) (fun h309 => absurd rfl h309)
      refine V_iload ok dX3_isDone_318 0 rfl ?_
      exact V_zret ok dX3_isDone_320 (Nat.zero_le _) (Nat.zero_le _) rfl ⟨by rw [(show obeyF x (lr j) (nu (2 * j)) (nu (2 * j + 1)) = _ from obey_sn hc (fun z => by first | exact h282 z.1 | exact time_f h297 z.2))]; rfl, _, _, by rw [(show obeyF x (lr j) (nu (2 * j)) (nu (2 * j + 1)) = _ from obey_sn hc (fun z => by first | exact h282 z.1 | exact time_f h297 z.2))]; exact hw, by rw [(show obeyF x (lr j) (nu (2 * j)) (nu (2 * j + 1)) = _ from obey_sn hc (fun z => by first | exact h282 z.1 | exact time_f h297 z.2))]⟩
    · refine V_aload_n ok dX3_isDone_285 rfl 5 rfl ?_
      refine V_get (v := .ref (b 1)) ok 0 0 tw_X3 twf_X3_7 rfl rfl (by decide) dX3_isDone_286 rfl rfl ?_
      refine V_bipush (v := nI 8) ok dX3_isDone_289 rfl ?_
      refine V_iald (f := x.1) (N := 9) ok 1 8 dX3_isDone_291 rfl rfl (by decide) (by decide) ?_
      refine V_iload_n ok dX3_isDone_292 rfl 4 rfl ?_
      refine V_iadd ok dX3_isDone_293 ?_
      refine V_sipush (v := nI 999) ok dX3_isDone_294 rfl ?_
      refine V_icmp_gt (tgt := 304) ok dX3_isDone_297 (by decide) (fun h297 => ?_) (fun h297 => ?_)
      · refine V_iconst (v := nI 0) ok dX3_isDone_304 rfl ?_
        refine V_istore (lv2 := [(7, .int (nI 0)), (6, .int (nI 1)), (5, .int (nI 2)), (4, .int (nI 115)), (3, .int (nu ((2 * j) + 1))), (2, .int (nu (2 * j))), (0, .ref (b 0)), (1, .int (nI j))]) ok dX3_isDone_305 (by decide) rfl ?_
        refine V_iload ok dX3_isDone_307 0 rfl ?_
        refine V_ifN_eq (tgt := 318) ok dX3_isDone_309 (by decide) (by omega) (fun h309 => ?_) (fun h309 => absurd rfl h309)
        refine V_iload ok dX3_isDone_318 0 rfl ?_
        exact V_zret ok dX3_isDone_320 (Nat.zero_le _) (Nat.zero_le _) rfl ⟨by rw [(show obeyF x (lr j) (nu (2 * j)) (nu (2 * j + 1)) = _ from obey_sn hc (fun z => by first | exact h282 z.1 | exact time_f h297 z.2))]; rfl, _, _, by rw [(show obeyF x (lr j) (nu (2 * j)) (nu (2 * j + 1)) = _ from obey_sn hc (fun z => by first | exact h282 z.1 | exact time_f h297 z.2))]; exact hw, by rw [(show obeyF x (lr j) (nu (2 * j)) (nu (2 * j + 1)) = _ from obey_sn hc (fun z => by first | exact h282 z.1 | exact time_f h297 z.2))]⟩
      · have hst := stepB_iff (show stepB (nu (2 * j)) = true from h282)
        refine V_iconst (v := nI 1) ok dX3_isDone_300 rfl ?_
        refine V_goto (tgt := 305) ok dX3_isDone_301 (by decide) ?_
        refine V_istore (lv2 := [(7, .int (nI 1)), (6, .int (nI 1)), (5, .int (nI 2)), (4, .int (nI 115)), (3, .int (nu ((2 * j) + 1))), (2, .int (nu (2 * j))), (0, .ref (b 0)), (1, .int (nI j))]) ok dX3_isDone_305 (by decide) rfl ?_
        refine V_iload ok dX3_isDone_307 0 rfl ?_
        refine V_ifN_eq (tgt := 318) ok dX3_isDone_309 (by decide) (by omega) (fun h309 => absurd h309 (by decide)) (fun h309 => ?_)
        refine V_aload_n ok dX3_isDone_312 rfl 6 rfl ?_
        refine V_iload_n ok dX3_isDone_313 rfl 5 rfl ?_
        refine V_top_int (b := nI ((nu (2 * j)).toNatClampNeg)) (hst.1) ?_
        refine V_cX (rest := []) ok 0 3 (c_X3_goesOnFor g b x wv ah pa pw ai aw sts rf tx len pl ord lr nu hsh ((nu (2 * j)).toNatClampNeg) hx ((timeB_iff hx.1 hst.2.2).mp (by rw [← hst.1]; exact time_t h297)) hw) 1 twm_X3_105 twi_yX3_goesOnFor twv_yX3_goesOnFor twin_X3 twc_yX3_goesOnFor yok_X3_goesOnFor (by decide) ⟨rfl, rfl⟩ dX3_isDone_314 rfl rfl rfl rfl (Nat.le_of_ble_eq_true rfl) ⟨Nat.zero_le _, Nat.zero_le _⟩ (fun v_ w_ hh => ?_)
        obtain ⟨rfl, wv314, ah314, hw314, rfl⟩ := hh
        refine V_pop ok dX3_isDone_317 rfl ?_
        refine V_iload ok dX3_isDone_318 0 rfl ?_
        exact V_zret ok dX3_isDone_320 (Nat.zero_le _) (Nat.zero_le _) rfl ⟨by rw [(show obeyF x (lr j) (nu (2 * j)) (nu (2 * j + 1)) = _ from obeyF_s hc h282 (time_t h297))]; rfl, _, _, by rw [(show obeyF x (lr j) (nu (2 * j)) (nu (2 * j + 1)) = _ from obeyF_s hc h282 (time_t h297))]; exact hw314, by rw [(show obeyF x (lr j) (nu (2 * j)) (nu (2 * j + 1)) = _ from obeyF_s hc h282 (time_t h297))]⟩
