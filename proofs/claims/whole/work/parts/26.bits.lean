/-! the bits of a double, found by doubling -/
theorem lgc_lt {a b : Int64} (h : a < b) : lg_cmp a b = -1 := by
  have h0 := Int64.lt_iff_toInt_lt.mp h
  have h1 : ¬ b < a := fun q => by have := Int64.lt_iff_toInt_lt.mp q; omega
  have h2 : ¬ a = b := fun q => by rw [q] at h0; omega
  unfold lg_cmp; simp [h1, h2]
theorem lgc_ge {a b : Int64} (h : ¬ a < b) : 0 ≤ lg_cmp a b := by
  unfold lg_cmp
  split
  · decide
  · split
    · decide
    · rename_i h1 h2
      exfalso
      have e1 : ¬ a.toInt < b.toInt := fun q => h (Int64.lt_iff_toInt_lt.mpr q)
      have e2 : ¬ b.toInt < a.toInt := fun q => h1 (Int64.lt_iff_toInt_lt.mpr q)
      exact h2 (Int64.toInt_inj.mp (by omega))
theorem lgc_eq {a : Int64} : lg_cmp a a = 0 := by
  have h1 : ¬ a < a := fun q => by have := Int64.lt_iff_toInt_lt.mp q; omega
  unfold lg_cmp; simp [h1]
theorem lgc_ne {a b : Int64} (h : ¬ a = b) : ¬ lg_cmp a b = 0 := by
  unfold lg_cmp
  split
  · decide
  · first | decide | (rw [if_neg h]; decide)
section VLC
variable {g : Glob} {Γ : Ctx} {y : MethodName} {cc : ByteArray} {nL : Nat} {ret : Option FieldType} {rm : Room} {post : Option Value → va_W → Prop} {k n pc : Nat} {ws : va_W} {lv : List (Nat × Value)} {st : List Value}
theorem V_lcmp_ge (ok : OK g Γ y cc nL ret rm post) {a b : Int64} {off : Int} {tgt : Nat} (hd : decode cc pc = .ok (.lcmp, 1)) (hd2 : decode cc (pc + 1) = .ok (.ifCond .ge off, 3)) (ht : ((pc + 1 : Nat) : Int) + off = (tgt : Int)) (kt : ¬ a < b → V g Γ nL k n tgt ws lv st) (kf : a < b → V g Γ nL k n (pc + 4) ws lv st) : V g Γ nL k n pc ws lv (.long b :: .long a :: st) := fun H locs ls hP hD hS hl => by
  refine W.lcmp ok.hx ok.hb hd ?_
  by_cases h : a < b
  · rw [lgc_lt h]
    exact lv_if_ge ok.hx ok.hb hd2 ht (fun q => absurd q (by decide)) (fun _ => kf h H locs ls hP hD hS hl)
  · exact lv_if_ge ok.hx ok.hb hd2 ht (fun _ => kt h H locs ls hP hD hS hl) (fun q => absurd (lgc_ge h) q)
theorem V_lcmp_eq (ok : OK g Γ y cc nL ret rm post) {a b : Int64} {off : Int} {tgt : Nat} (hd : decode cc pc = .ok (.lcmp, 1)) (hd2 : decode cc (pc + 1) = .ok (.ifCond .eq off, 3)) (ht : ((pc + 1 : Nat) : Int) + off = (tgt : Int)) (kt : a = b → V g Γ nL k n tgt ws lv st) (kf : ¬ a = b → V g Γ nL k n (pc + 4) ws lv st) : V g Γ nL k n pc ws lv (.long b :: .long a :: st) := fun H locs ls hP hD hS hl => by
  refine W.lcmp ok.hx ok.hb hd ?_
  by_cases h : a = b
  · subst h
    rw [lgc_eq]
    exact lv_if_eq ok.hx ok.hb hd2 ht (fun _ => kt rfl H locs ls hP hD hS hl) (fun q => absurd rfl q)
  · exact lv_if_eq ok.hx ok.hb hd2 ht (fun q => absurd q (lgc_ne h)) (fun _ => kf h H locs ls hP hD hS hl)
end VLC
/-- doubling is exact -/
theorem dbl_zv {m : UInt64} (hm : FP.Core.DFin m) (hb : (zv m).natAbs < 2 ^ 52 * one) : FP.Core.DFin (FP.dmul m 4611686018427387904) ∧ zv (FP.dmul m 4611686018427387904) = 2 * zv m := by
  have q1 : FP.Core.b64.qmin = -1074 := by decide +kernel
  have q2 : FP.Core.b64.qmax = 971 := by decide +kernel
  have q3 : FP.Core.b64.p = 53 := rfl
  have q4 : FP.Core.b64.tails = 2 ^ 52 := by decide +kernel
  have e2 : FP.Core.val64 4611686018427387904 = .fin false (2 ^ 52) (-51) := by decide +kernel
  have hf := FP.Core.val64_fits m
  have hv : FP.Core.val64 (FP.dmul m 4611686018427387904) = _ := FP.Core.val64_dmul m 4611686018427387904
  obtain ⟨s, c, q, e⟩ := hm
  have hz : (zv m).natAbs = c * 2 ^ (q - FP.Core.b64.qmin).toNat := by
    show (FP.Core.zval FP.Core.b64 (FP.Core.val64 m)).natAbs = _
    rw [e]
    show (FP.Core.signed s (FP.Core.inUnits c q FP.Core.b64.qmin)).natAbs = _
    show (FP.Core.signed s (c * 2 ^ (q - FP.Core.b64.qmin).toNat)).natAbs = _
    generalize c * 2 ^ (q - FP.Core.b64.qmin).toNat = Z
    unfold FP.Core.signed
    split <;> omega
  rw [e] at hf
  obtain ⟨f1, f2, f3, f4⟩ := hf
  rw [e, e2] at hv
  have hv2 : FP.Core.val64 (FP.dmul m 4611686018427387904) = FP.Core.roundRatio FP.Core.b64 (s != false) (c * 2 ^ 52) 1 (q + -51) := hv
  have hs : (s != false) = s := by cases s <;> rfl
  rw [hs] at hv2
  by_cases hc : FP.Core.b64.tails ≤ c
  · have hq : q + 1 ≤ FP.Core.b64.qmax := by
      rcases Int.lt_or_le FP.Core.b64.qmax (q + 1) with h | h
      · exfalso
        rw [hz, one_eq] at hb
        have h1 : 2 ^ 52 * 2 ^ 1074 ≤ c * 2 ^ (q - FP.Core.b64.qmin).toNat := Nat.mul_le_mul (by rw [← q4]; exact hc) (Nat.pow_le_pow_right (by decide) (by omega))
        exact absurd (Nat.lt_of_le_of_lt h1 hb) (Nat.lt_irrefl _)
      · exact h
    have r := FP.Core.roundRatio_exact FP.Core.good_b64 (s := s) (A := c * 2 ^ 52) (B := 1) (c := c) (e := q + -51) (q := q + 1) (by decide) ⟨f1, by omega, hq, Or.inr hc⟩ (by
      rw [show (q + -51 - (q + 1)).toNat = 0 by omega, show (q + 1 - (q + -51)).toNat = 52 by omega]; simp)
    rw [r] at hv2
    refine ⟨⟨s, c, q + 1, hv2⟩, ?_⟩
    show FP.Core.zval FP.Core.b64 (FP.Core.val64 (FP.dmul m 4611686018427387904)) = 2 * FP.Core.zval FP.Core.b64 (FP.Core.val64 m)
    rw [hv2, e]
    show FP.Core.signed s (FP.Core.inUnits c (q + 1) FP.Core.b64.qmin) = 2 * FP.Core.signed s (FP.Core.inUnits c q FP.Core.b64.qmin)
    have e3 : FP.Core.inUnits c (q + 1) FP.Core.b64.qmin = 2 * FP.Core.inUnits c q FP.Core.b64.qmin := by
      unfold FP.Core.inUnits
      rw [show (q + 1 - FP.Core.b64.qmin).toNat = (q - FP.Core.b64.qmin).toNat + 1 by omega, Nat.pow_succ]
      rw [← Nat.mul_assoc, Nat.mul_comm]
    rw [e3]
    unfold FP.Core.signed
    split <;> omega
  · have hq : q = FP.Core.b64.qmin := f4.resolve_right hc
    have r := FP.Core.roundRatio_exact FP.Core.good_b64 (s := s) (A := c * 2 ^ 52) (B := 1) (c := 2 * c) (e := q + -51) (q := q) (by decide) ⟨by rw [q3]; omega, by omega, by omega, Or.inl hq⟩ (by
      rw [show (q + -51 - q).toNat = 0 by omega, show (q - (q + -51)).toNat = 51 by omega]; omega)
    rw [r] at hv2
    refine ⟨⟨s, 2 * c, q, hv2⟩, ?_⟩
    show FP.Core.zval FP.Core.b64 (FP.Core.val64 (FP.dmul m 4611686018427387904)) = 2 * FP.Core.zval FP.Core.b64 (FP.Core.val64 m)
    rw [hv2, e]
    show FP.Core.signed s (FP.Core.inUnits (2 * c) q FP.Core.b64.qmin) = 2 * FP.Core.signed s (FP.Core.inUnits c q FP.Core.b64.qmin)
    have e3 : FP.Core.inUnits (2 * c) q FP.Core.b64.qmin = 2 * FP.Core.inUnits c q FP.Core.b64.qmin := by
      unfold FP.Core.inUnits
      rw [Nat.mul_assoc]
    rw [e3]
    unfold FP.Core.signed
    split <;> omega
theorem hid_zv : zv (FP.l2d 4503599627370496) = 2 ^ 52 * (one : Int) := by
  have h : FP.Core.Whole (4503599627370496 : Int64).toInt (FP.Core.val64 (FP.Core.l2d 4503599627370496)) := FP.Core.l2d_whole ⟨by decide, by decide⟩
  have := FP.Core.whole_zval FP.Core.good_b64 (FP.Core.val64_fits _) h
  rw [FP.Core.pow_qmin64] at this
  exact this
/-- the magnitude's bits, and what they stand for -/
def magB (x : UInt64) : Nat := x.toNat % 2 ^ 63
theorem magB_zv {x : UInt64} (h : FP.Core.DFin x) : (zv x).natAbs = (if magB x < 2 ^ 52 then magB x else (2 ^ 52 + magB x % 2 ^ 52) * 2 ^ (magB x / 2 ^ 52 - 1)) := by
  have q4 : FP.Core.b64.tails = 2 ^ 52 := by decide +kernel
  have e : (zv x).natAbs = FP.Core.zmag FP.Core.b64 (FP.Core.val64 x) := by
    show (FP.Core.signed _ _).natAbs = _
    unfold FP.Core.signed
    split <;> simp
  rw [e, FP.Core.zmag_bits h.ne_nan]
  unfold FP.Core.unitsOf magB
  rw [q4]
/-- the end of the doubling: at exponent j with the whole number w the bits are those of the magnitude -/
theorem bits_end {x m : UInt64} {j : Nat} (hx : FP.Core.DFin x) (hb : (zv x).natAbs < 2 ^ 52 * one) (hm : FP.Core.DFin m) (hj1 : 1 ≤ j) (hj2 : j ≤ 1075) (hv : zv m = ((zv x).natAbs * 2 ^ (1075 - j) : Nat)) (hlow : ∀ i, j < i → i ≤ 1075 → (zv x).natAbs * 2 ^ (1075 - i) < 2 ^ 52 * one) (hend : 2 ^ 52 * one ≤ (zv x).natAbs * 2 ^ (1075 - j) ∨ j = 1) :
    ∃ w : Nat, FP.d2l m = lN w ∧ w < 2 ^ 53 ∧ ((w < 2 ^ 52 ∧ w = magB x) ∨ (2 ^ 52 ≤ w ∧ j * 2 ^ 52 + (w - 2 ^ 52) = magB x)) := by
  have hz := magB_zv hx
  have hop : 0 < one := FP.Core.one64_pos
  -- the whole number
  have hd : ∀ w : Nat, w < 2 ^ 53 → (zv x).natAbs * 2 ^ (1075 - j) = w * one → FP.d2l m = lN w := by
    intro w hw he
    have h1 := FP.Core.d2l_val hm.ne_nan
    have hs : FP.Core.signed (FP.Core.sgn (FP.Core.val64 m)) (FP.Core.zmag FP.Core.b64 (FP.Core.val64 m)) = ((w * one : Nat) : Int) := by rw [← he]; exact hv
    have h2 : FP.Core.signed (FP.Core.sgn (FP.Core.val64 m)) (FP.Core.zmag FP.Core.b64 (FP.Core.val64 m) / one) = (w : Int) := by
      cases hsg : FP.Core.sgn (FP.Core.val64 m) with
      | false =>
        rw [hsg] at hs
        have e1 : FP.Core.zmag FP.Core.b64 (FP.Core.val64 m) = w * one := by
          have : ((FP.Core.zmag FP.Core.b64 (FP.Core.val64 m) : Nat) : Int) = ((w * one : Nat) : Int) := hs
          exact Int.ofNat_inj.mp this
        show ((FP.Core.zmag FP.Core.b64 (FP.Core.val64 m) / one : Nat) : Int) = _
        rw [e1, Nat.mul_div_cancel _ hop]
      | true =>
        rw [hsg] at hs
        have e0 : -((FP.Core.zmag FP.Core.b64 (FP.Core.val64 m) : Nat) : Int) = ((w * one : Nat) : Int) := hs
        have e1 : w * one = 0 := by omega
        have e2 : FP.Core.zmag FP.Core.b64 (FP.Core.val64 m) = 0 := by omega
        have e3 : w = 0 := by rcases Nat.mul_eq_zero.mp e1 with h | h <;> omega
        show -((FP.Core.zmag FP.Core.b64 (FP.Core.val64 m) / one : Nat) : Int) = _
        rw [e2, e3, Nat.zero_div]; rfl
    rw [h2] at h1
    refine Int64.toInt_inj.mp ?_
    show (FP.Core.d2l m).toInt = _
    rw [h1, pk_lT (by omega)]
    omega
  by_cases hs : magB x < 2 ^ 52
  · rw [if_pos hs] at hz
    have hj : j = 1 := by
      rcases hend with h | h
      · exfalso
        rw [hz, one_eq] at h
        have h1 : magB x * 2 ^ (1075 - j) < 2 ^ 52 * 2 ^ 1074 := Nat.lt_of_lt_of_le (Nat.mul_lt_mul_of_pos_right hs (Nat.two_pow_pos _)) (Nat.mul_le_mul_left _ (Nat.pow_le_pow_right (by decide) (by omega)))
        exact absurd (Nat.lt_of_le_of_lt h h1) (Nat.lt_irrefl _)
      · exact h
    exact ⟨magB x, hd (magB x) (by omega) (by rw [hz, hj, one_eq]), by omega, Or.inl ⟨hs, rfl⟩⟩
  · rw [if_neg hs] at hz
    generalize hF : magB x % 2 ^ 52 = F at hz
    generalize hE : magB x / 2 ^ 52 = E at hz
    have hF2 : F < 2 ^ 52 := by rw [← hF]; exact Nat.mod_lt _ (Nat.two_pow_pos _)
    have hM : magB x = E * 2 ^ 52 + F := by rw [← hE, ← hF, Nat.mul_comm]; exact (Nat.div_add_mod _ _).symm
    have hE1 : 1 ≤ E := by
      rcases Nat.eq_zero_or_pos E with h | h
      · rw [h] at hM; omega
      · exact h
    have hE2 : E ≤ 1074 := by
      rcases Nat.lt_or_ge 1074 E with h | h
      · exfalso
        rw [hz, one_eq] at hb
        have h1 : 2 ^ 52 * 2 ^ 1074 ≤ (2 ^ 52 + F) * 2 ^ (E - 1) := Nat.mul_le_mul (by omega) (Nat.pow_le_pow_right (by decide) (by omega))
        exact absurd (Nat.lt_of_le_of_lt h1 hb) (Nat.lt_irrefl _)
      · exact h
    have hk : ∀ i, i ≤ 1075 → (zv x).natAbs * 2 ^ (1075 - i) = (2 ^ 52 + F) * 2 ^ (E - 1 + (1075 - i)) := fun i hi => by rw [hz, Nat.mul_assoc, ← Nat.pow_add]
    have hjE : j = E := by
      rcases Nat.lt_trichotomy j E with h | h | h
      · exfalso
        have h1 := hlow E h (by omega)
        rw [hk E (by omega), one_eq, show E - 1 + (1075 - E) = 1074 by omega] at h1
        have h2 : 2 ^ 52 * 2 ^ 1074 ≤ (2 ^ 52 + F) * 2 ^ 1074 := Nat.mul_le_mul_right _ (by omega)
        exact absurd (Nat.lt_of_le_of_lt h2 h1) (Nat.lt_irrefl _)
      · exact h
      · exfalso
        rcases hend with q | q
        · rw [hk j hj2, one_eq] at q
          have h1 : (2 ^ 52 + F) * 2 ^ (E - 1 + (1075 - j)) < (2 * 2 ^ 52) * 2 ^ (E - 1 + (1075 - j)) := Nat.mul_lt_mul_of_pos_right (by omega) (Nat.two_pow_pos _)
          have h2 : (2 * 2 ^ 52) * 2 ^ (E - 1 + (1075 - j)) ≤ 2 ^ 52 * 2 ^ 1074 := by
            rw [show 2 * 2 ^ 52 = 2 ^ 52 * 2 by rfl, Nat.mul_assoc, ← Nat.pow_succ']
            exact Nat.mul_le_mul_left _ (Nat.pow_le_pow_right (by decide) (by omega))
          exact absurd (Nat.lt_of_le_of_lt q (Nat.lt_of_lt_of_le h1 h2)) (Nat.lt_irrefl _)
        · omega
    refine ⟨2 ^ 52 + F, hd _ (by omega) ?_, by omega, Or.inr ⟨by omega, ?_⟩⟩
    · rw [hk j hj2, hjE, one_eq, show E - 1 + (1075 - E) = 1074 by omega]
    · rw [hjE, hM]; omega
