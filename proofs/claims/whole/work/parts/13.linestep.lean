/-! one step of a Line: all that its methods ask for, and that it stays as it should be -/
theorem wb_le {t : Nat} (h : t ≤ 999) : wb t ≤ 1000000000 := by unfold wb; omega
theorem wb_s (t : Nat) : wb (t + 1) = wb t + 1000000 := by unfold wb; omega
/-- behind shift and the left end -/
theorem LG.mid {x : LineSt} (h : LG x) (ht : nv x.1 8 + 1 ≤ 999) : VG (turnLeftL (shiftL (tickL x))).1 ∧ WG (wb (nv x.1 8) + 1000) (nv x.1 0) (turnLeftL (shiftL (tickL x))).2.1 (turnLeftL (shiftL (tickL x))).2.2.1 ∧ nv (turnLeftL (shiftL (tickL x))).1 0 = nv x.1 0 ∧ nv (turnLeftL (shiftL (tickL x))).1 8 = nv x.1 8 + 1 := by
  obtain ⟨hv, hw, -⟩ := h
  obtain ⟨hv2, h8⟩ := hv.tick ht
  have hN : nv (tickL x).1 0 = nv x.1 0 := nv_upd_ne (by decide)
  have hb := wb_le (t := nv x.1 8) (by omega)
  refine ⟨hv2, fun i hi => ?_, hN, h8⟩
  have hs := hw.shift
  show bz _ (vf_upd (shF (nv (tickL x).1 0) 0 x.2.1) 0 (leftF (tickL x).1 (shB (nv (tickL x).1 0) x.2.2.1 0)) i) ∧ bz _ (shB (nv (tickL x).1 0) x.2.2.1 i)
  rw [hN]
  refine ⟨?_, (hs i hi).2.mono (by omega)⟩
  simp only [vf_upd]
  split
  · exact leftF_bz hv2 (hs 0 (by omega)).2 (by omega)
  · exact (hs i hi).1.mono (by omega)
/-- behind both ends -/
theorem LG.ends {x : LineSt} (h : LG x) (ht : nv x.1 8 + 1 ≤ 999) : WG (wb (nv x.1 8 + 1)) (nv x.1 0) (turnRightL (turnLeftL (shiftL (tickL x)))).2.1 (turnRightL (turnLeftL (shiftL (tickL x)))).2.2.1 ∧ bz 10000 (turnRightL (turnLeftL (shiftL (tickL x)))).2.2.2.2.2.2.2 := by
  obtain ⟨hv, hw, hN, h8⟩ := h.mid ht
  have hb := wb_le (t := nv x.1 8) (by omega)
  have hl : bz 10000 (turnLeftL (shiftL (tickL x))).2.2.2.2.2.2.2 := h.2.2.2.1
  generalize hy : turnLeftL (shiftL (tickL x)) = y at *
  have hf := hw (nv x.1 0) (Nat.le_refl _)
  rw [wb_s]
  refine ⟨fun i hi => ⟨(hw i hi).1.mono (by omega), ?_⟩, ?_⟩
  · show bz _ (vf_upd y.2.2.1 (nv y.1 0) (rightB y.1 (y.2.1 (nv y.1 0)) y.2.2.2.2.2.2.2) i)
    rw [hN]
    simp only [vf_upd]
    split
    · exact (rightB_bz hv hf.1 hl (by omega)).mono (by omega)
    · exact (hw i hi).2.mono (by omega)
  · show bz 10000 (rightLev y.1 (y.2.1 (nv y.1 0)) y.2.2.2.2.2.2.2)
    rw [hN]
    exact rightLev_bz hv hf.1.1 hl (by omega)
theorem WG.press {b N : Nat} {F B : Nat → UInt64} (h : WG b N F B) (hb : b ≤ 2000000000) : ∀ i, i ≤ N → bz (2 * b) (FP.dadd (F i) (B i)) := fun i hi => bz_add (h i hi).1 (h i hi).2.1 (by omega) (by omega)
theorem LG.widen {y : LineSt} {N t : Nat} (hv : VG y.1) (hN : nv y.1 0 = N) (h8 : nv y.1 8 = t) (hw : WG (wb t) N y.2.1 y.2.2.1) (hE : WG (2 * wb t) N y.2.2.2.1 y.2.2.2.2.1) (hl : bz 10000 y.2.2.2.2.2.2.2) (hlv : nv y.1 5 ≠ 3 → y.2.2.2.2.2.2.2 = FP.i2d (y.1 1)) (hmx : y.2.2.2.2.2.1 = maxU y.2.2.2.1 N) (hmn : y.2.2.2.2.2.2.1 = minU y.2.2.2.2.1 N) (ht : t ≤ 999) : LG (widenL y) := by
  have hb := wb_le ht
  have hp := hw.press (by omega)
  have hh : bz (2 * wb t) y.2.2.2.2.2.1 := by rw [hmx]; obtain ⟨j, a, b⟩ := maxU_mem y.2.2.2.1 N; rw [b]; exact (hE j a).1
  have hlo : bz (2 * wb t) y.2.2.2.2.2.2.1 := by rw [hmn]; obtain ⟨j, a, b⟩ := minU_mem y.2.2.2.2.1 N; rw [b]; exact (hE j a).2
  have a1 := widN_all (bz (2 * wb t)) (P := fun i => FP.dadd (y.2.1 i) (y.2.2.1 i)) (e := (y.2.2.2.1, y.2.2.2.2.1, y.2.2.2.2.2.1, y.2.2.2.2.2.2.1)) hp (fun j hj => (hE j hj).1) (fun j hj => (hE j hj).2) hh hlo (N + 1) (Nat.le_refl _)
  have b1 := widN_hi (P := fun i => FP.dadd (y.2.1 i) (y.2.2.1 i)) (e := (y.2.2.2.1, y.2.2.2.2.1, y.2.2.2.2.2.1, y.2.2.2.2.2.2.1)) (N := N) (fun j hj => (hp j hj).fz) (fun j hj => (hE j hj).1.fz) (fun j hj => (hE j hj).2.fz) hmx hmn (N + 1) (Nat.le_refl _)
  rw [show widN (fun i => FP.dadd (y.2.1 i) (y.2.2.1 i)) (N + 1) (y.2.2.2.1, y.2.2.2.2.1, y.2.2.2.2.2.1, y.2.2.2.2.2.2.1) = widE y by unfold widE; rw [hN]] at a1 b1
  unfold LG widenL
  simp only
  rw [hN, h8]
  exact ⟨hv, hw, fun i hi => ⟨a1.1 i hi, a1.2.1 i hi⟩, hl, hlv, b1.1, b1.2⟩
theorem LG.step {x : LineSt} (h : LG x) (ht : nv x.1 8 + 1 ≤ 999) : LG (stepL x) ∧ nv (stepL x).1 8 = nv x.1 8 + 1 ∧ nv (stepL x).1 0 = nv x.1 0 := by
  obtain ⟨hv, -, hN, h8⟩ := h.mid ht
  obtain ⟨hw, hl⟩ := h.ends ht
  have hb0 : 2 * wb (nv x.1 8) ≤ 2 * wb (nv x.1 8 + 1) := by rw [wb_s]; omega
  obtain ⟨-, -, hE, -, hlv, hmx, hmn⟩ := h
  refine ⟨LG.widen hv hN h8 hw (hE.mono hb0) hl ?_ hmx hmn ht, h8, hN⟩
  intro h5
  have e5 : nv (tickL x).1 5 = nv x.1 5 := nv_upd_ne (by decide)
  have h5' : nv (tickL x).1 5 ≠ 3 := h5
  have e6 : rightLev (tickL x).1 ((turnLeftL (shiftL (tickL x))).2.1 (nv (tickL x).1 0)) x.2.2.2.2.2.2.2 = x.2.2.2.2.2.2.2 := if_neg h5'
  have e7 : (tickL x).1 1 = x.1 1 := by show upd x.1 8 (x.1 8 + nI 1) 1 = _; exact upd_ne (by decide)
  show rightLev (tickL x).1 ((turnLeftL (shiftL (tickL x))).2.1 (nv (tickL x).1 0)) x.2.2.2.2.2.2.2 = FP.i2d ((tickL x).1 1)
  rw [e6, e7]
  exact hlv (by rw [← e5]; exact h5')
theorem LG.adv {x : LineSt} (h : LG x) : ∀ i, nv x.1 8 + i ≤ 999 → LG (advL i x) ∧ nv (advL i x).1 8 = nv x.1 8 + i ∧ nv (advL i x).1 0 = nv x.1 0
  | 0, _ => ⟨h, rfl, rfl⟩
  | i + 1, ht => by
    obtain ⟨a, b, c⟩ := LG.adv h i (by omega)
    obtain ⟨a1, b1, c1⟩ := LG.step a (by omega)
    exact ⟨a1, by show nv (stepL (advL i x)).1 8 = _; rw [b1, b]; omega, by show nv (stepL (advL i x)).1 0 = _; rw [c1, c]⟩
theorem step_mono (x : LineSt) : zv x.2.2.2.2.2.1 ≤ zv (stepL x).2.2.2.2.2.1 := widN_mono _ _ _
/-- steady is as it should be -/
theorem half_nz : ∀ n : Fin 1201, FP.ddiv (FP.i2d (nI n.val - nI 100)) 4611686018427387904 ≠ 9223372036854775808 := by decide +kernel
theorem i2d_of {y : Int32} {z : Int64} (h : y.toInt = z.toInt) : FP.i2d y = FP.Core.l2d z := by
  show FP.Core.i2d y = _
  rw [FP.Core.i2d_l2d]
  congr 1
  exact Int64.toInt_inj.mp (by rw [Int32.toInt_toInt64]; exact h)
theorem half_ok {z : Int64} (h1 : -100 ≤ z.toInt) (h2 : z.toInt ≤ 1100) : nz (FP.ddiv (FP.Core.l2d z) 4611686018427387904) := by
  have h := half_nz ⟨(z.toInt + 100).toNat, by omega⟩
  have e : (nI (z.toInt + 100).toNat - nI 100).toInt = z.toInt := by rw [pk_sub_toInt (by omega) (by decide)]; omega
  rw [i2d_of e] at h
  exact h
theorem small_i {y : Int32} : FP.Core.Small53 y.toInt64 := ⟨by rw [Int32.toInt_toInt64]; have := y.le_toInt; omega, by rw [Int32.toInt_toInt64]; have := y.toInt_lt; omega⟩
theorem hq_i {v : Nat → Int32} (hv : VG v) : 0 ≤ (v 1).toInt ∧ (v 1).toInt ≤ 1000 := by rw [hv.h.1, nI_toInt (by have := hv.h; omega)]; have := hv.h; omega
theorem st_Fz {v : Nat → Int32} (hv : VG v) : bz 1100 (stF v) := by
  refine ⟨st_F hv, ?_⟩
  have e : FP.dadd (FP.i2d (v 1)) (FP.i2d (v 2)) = FP.Core.l2d ((v 1).toInt64 + (v 2).toInt64) := by
    show FP.Core.dadd (FP.Core.i2d (v 1)) (FP.Core.i2d (v 2)) = _
    rw [FP.Core.i2d_l2d, FP.Core.i2d_l2d, FP.Core.dadd_l2d small_i small_i]
  have a := hq_i hv
  have b := hv.q
  have e2 : ((v 1).toInt64 + (v 2).toInt64).toInt = (v 1).toInt + (v 2).toInt := by rw [FP.Core.int64_add (by rw [Int32.toInt_toInt64, Int32.toInt_toInt64]; omega) (by rw [Int32.toInt_toInt64, Int32.toInt_toInt64]; omega), Int32.toInt_toInt64, Int32.toInt_toInt64]
  unfold stF
  rw [e]
  exact half_ok (by omega) (by omega)
theorem st_Bz {v : Nat → Int32} (hv : VG v) : bz 1100 (stB v) := by
  refine ⟨st_B hv, ?_⟩
  have e : FP.dsub (FP.i2d (v 1)) (FP.i2d (v 2)) = FP.Core.l2d ((v 1).toInt64 - (v 2).toInt64) := by
    show FP.Core.dsub (FP.Core.i2d (v 1)) (FP.Core.i2d (v 2)) = _
    rw [FP.Core.i2d_l2d, FP.Core.i2d_l2d, FP.Core.dsub_l2d small_i small_i]
  have a := hq_i hv
  have b := hv.q
  have e2 : ((v 1).toInt64 - (v 2).toInt64).toInt = (v 1).toInt - (v 2).toInt := by rw [FP.Core.int64_sub (by rw [Int32.toInt_toInt64, Int32.toInt_toInt64]; omega) (by rw [Int32.toInt_toInt64, Int32.toInt_toInt64]; omega), Int32.toInt_toInt64, Int32.toInt_toInt64]
  unfold stB
  rw [e]
  exact half_ok (by omega) (by omega)
theorem st_Pz {v : Nat → Int32} (hv : VG v) : bz 2200 (stP v) := bz_add (st_Fz hv) (st_B hv) (by decide) (by decide)
theorem maxU_const {f : Nat → UInt64} {x : UInt64} : ∀ n, (∀ j, j ≤ n → f j = x) → maxU f n = x
  | 0, h => h 0 (Nat.le_refl _)
  | n + 1, h => by show mx _ _ = _; rw [h (n + 1) (Nat.le_refl _), maxU_const n (fun j hj => h j (by omega))]; unfold mx; split <;> rfl
theorem minU_const {f : Nat → UInt64} {x : UInt64} : ∀ n, (∀ j, j ≤ n → f j = x) → minU f n = x
  | 0, h => h 0 (Nat.le_refl _)
  | n + 1, h => by show mn _ _ = _; rw [h (n + 1) (Nat.le_refl _), minU_const n (fun j hj => h j (by omega))]; unfold mn; split <;> rfl
theorem VG.steady {v : Nat → Int32} (h : VG v) : VG (upd v 8 (nI 0)) ∧ nv (upd v 8 (nI 0)) 8 = 0 ∧ nv (upd v 8 (nI 0)) 0 = nv v 0 := by
  have e8 : nv (upd v 8 (nI 0)) 8 = 0 := nv_upd_eq (by decide)
  have u : ∀ j, j ≠ 8 → upd v 8 (nI 0) j = v j := fun j hj => upd_ne hj
  have w : ∀ j, j ≠ 8 → nv (upd v 8 (nI 0)) j = nv v j := fun j hj => nv_upd_ne hj
  refine ⟨?_, e8, w 0 (by decide)⟩
  unfold VG
  rw [u 0 (by decide), u 1 (by decide), u 2 (by decide), u 3 (by decide), u 4 (by decide), u 5 (by decide), u 6 (by decide), u 7 (by decide), w 0 (by decide), w 1 (by decide), w 3 (by decide), w 4 (by decide), w 5 (by decide), w 6 (by decide), w 7 (by decide), e8, upd_eq]
  exact ⟨h.n, h.h, h.q, h.a, h.lf, h.rt, h.k, h.t, rfl, by decide⟩
theorem LG.settle {x : LineSt} (hv : VG x.1) : LG (settleL x) := by
  obtain ⟨hv2, h8, h0⟩ := hv.steady
  have e1 : upd x.1 8 (nI 0) 1 = x.1 1 := upd_ne (by decide)
  unfold LG settleL
  simp only
  rw [h8, h0, e1]
  refine ⟨hv2, fun i hi => ?_, fun i hi => ?_, ⟨hv.bh.mono (by decide), nz_i2d _⟩, fun _ => rfl, ?_, ?_⟩
  · rw [fil_at _ _ (by omega), fil_at _ _ (by omega)]
    exact ⟨(st_Fz hv).mono (by decide), (st_Bz hv).mono (by decide)⟩
  · rw [fil_at _ _ (by omega), fil_at _ _ (by omega)]
    exact ⟨(st_Pz hv).mono (by decide), (st_Pz hv).mono (by decide)⟩
  · exact (maxU_const _ (fun j hj => fil_at _ _ (by omega))).symm
  · exact (minU_const _ (fun j hj => fil_at _ _ (by omega))).symm
