/-! doubles: a bound on the size, no -0, the order by the value in least units -/
abbrev zv (x : UInt64) : Int := FP.Core.zval FP.Core.b64 (FP.Core.val64 x)
abbrev one : Nat := FP.Core.one64
def Bd (n : Nat) (x : UInt64) : Prop := FP.Core.DFin x ∧ (zv x).natAbs ≤ n * one
def nz (x : UInt64) : Prop := x ≠ 9223372036854775808
abbrev nn (x : UInt64) : Prop := FP.Core.val64 x ≠ .nan
theorem Bd.fin {n : Nat} {x : UInt64} (h : Bd n x) : FP.Core.DFin x := h.1
theorem Bd.nn {n : Nat} {x : UInt64} (h : Bd n x) : nn x := h.1.ne_nan
theorem Bd.mono {a b : Nat} {x : UInt64} (h : Bd a x) (hab : a ≤ b) : Bd b x := ⟨h.1, Nat.le_trans h.2 (Nat.mul_le_mul_right _ hab)⟩
theorem n64_of {x : UInt64} (h : nn x) : vf_n64 x := by
  have h1 := (FP.Core.ne_nan x).mp h
  unfold vf_n64
  rw [UInt64.le_iff_toNat_le, FP.Core.mask_toNat]
  exact h1
theorem n64_isNaN {x : UInt64} (h : FP.Core.dIsNaN x = false) : vf_n64 x := n64_of ((FP.Core.notNaN_iff x).mp h)
theorem Bd.n64 {n : Nat} {x : UInt64} (h : Bd n x) : vf_n64 x := n64_of h.nn
/-- sizes that a double can be -/
def Rp (n : Nat) : Prop := ∃ m k : Nat, n = m * 2 ^ k ∧ m < 2 ^ 53 ∧ k ≤ 800
theorem Rp.small {n : Nat} (h : n < 2 ^ 53) : Rp n := ⟨n, 0, by simp, h, by omega⟩
theorem one_eq : one = 2 ^ 1074 := by unfold one FP.Core.one64; exact rfl
theorem Rp.val {n : Nat} (h : Rp n) : ∃ V : FP.Core.Datum, FP.Core.fits FP.Core.b64 V ∧ V ≠ .nan ∧ FP.Core.zval FP.Core.b64 V = ((n * one : Nat) : Int) := by
  obtain ⟨m, k, rfl, hm, hk⟩ := h
  have q1 : FP.Core.b64.qmin = -1074 := by decide +kernel
  have q2 : FP.Core.b64.qmax = 971 := by decide +kernel
  have q3 : FP.Core.b64.p = 53 := rfl
  have q4 : FP.Core.b64.tails = 2 ^ 52 := by decide +kernel
  by_cases h0 : m = 0
  · refine ⟨.fin false 0 FP.Core.b64.qmin, ⟨by rw [q3]; exact Nat.two_pow_pos _, Int.le_refl _, by rw [q1, q2]; decide, Or.inl rfl⟩, (fun h => by cases h), ?_⟩
    subst h0
    simp [FP.Core.zval, FP.Core.sgn, FP.Core.zmag, FP.Core.inUnits, FP.Core.signed]
  · have l1 : 2 ^ m.log2 ≤ m := Nat.log2_self_le h0
    have l2 : m < 2 ^ (m.log2 + 1) := Nat.lt_log2_self
    have l3 : m.log2 ≤ 52 := by
      rcases Nat.lt_or_ge 52 m.log2 with h | h
      · have : 2 ^ 53 ≤ 2 ^ m.log2 := Nat.pow_le_pow_right (by decide) h
        omega
      · exact h
    generalize m.log2 = L at l1 l2 l3
    have c1 : m * 2 ^ (52 - L) < 2 ^ 53 := by
      calc m * 2 ^ (52 - L) < 2 ^ (L + 1) * 2 ^ (52 - L) := Nat.mul_lt_mul_of_pos_right l2 (Nat.two_pow_pos _)
        _ = 2 ^ 53 := by rw [← Nat.pow_add]; congr 1; omega
    have c2 : 2 ^ 52 ≤ m * 2 ^ (52 - L) := by
      calc 2 ^ 52 = 2 ^ L * 2 ^ (52 - L) := by rw [← Nat.pow_add]; congr 1; omega
        _ ≤ m * 2 ^ (52 - L) := Nat.mul_le_mul_right _ l1
    refine ⟨.fin false (m * 2 ^ (52 - L)) ((k : Int) - (52 - L : Nat)), ⟨by rw [q3]; exact c1, by rw [q1]; omega, by rw [q2]; omega, Or.inr (by rw [q4]; exact c2)⟩, (fun h => by cases h), ?_⟩
    show FP.Core.signed false (m * 2 ^ (52 - L) * 2 ^ ((k : Int) - (52 - L : Nat) - FP.Core.b64.qmin).toNat) = _
    rw [q1]
    have e : ((k : Int) - (52 - L : Nat) - -1074).toNat = k + 1074 - (52 - L) := by omega
    rw [e]
    have e2 : m * 2 ^ (52 - L) * 2 ^ (k + 1074 - (52 - L)) = m * 2 ^ k * one := by
      rw [one_eq, Nat.mul_assoc, ← Nat.pow_add, Nat.mul_assoc, ← Nat.pow_add, show 52 - L + (k + 1074 - (52 - L)) = k + 1074 by omega]
    rw [e2]
    exact if_neg (by decide)
theorem fin_of_zv {x : UInt64} (hn : nn x) {n : Nat} (h : Rp n) (hb : (zv x).natAbs ≤ n * one) : FP.Core.DFin x := by
  cases hx : FP.Core.val64 x with
  | nan => exact absurd hx hn
  | fin s c q => exact ⟨s, c, q, hx⟩
  | inf s =>
    exfalso
    have q4 : FP.Core.b64.tails = 2 ^ 52 := by decide +kernel
    have q5 : FP.Core.b64.exps - 2 = 2046 := by decide +kernel
    have e : (zv x).natAbs = 2 ^ 52 * 2 ^ 2046 := by
      show (FP.Core.zval FP.Core.b64 (FP.Core.val64 x)).natAbs = _
      rw [hx, ← q4, ← q5]
      show (FP.Core.signed s (FP.Core.b64.tails * 2 ^ (FP.Core.b64.exps - 2))).natAbs = _
      generalize FP.Core.b64.tails * 2 ^ (FP.Core.b64.exps - 2) = Z
      cases s
      · exact Int.natAbs_natCast _
      · show (-(Z : Int)).natAbs = _
        rw [Int.natAbs_neg]; exact Int.natAbs_natCast _
    rw [e] at hb
    obtain ⟨m, k, rfl, hm, hk⟩ := h
    have h1 : m * 2 ^ k * one < 2 ^ 53 * 2 ^ 800 * 2 ^ 1074 := by
      have a1 : m * 2 ^ k < 2 ^ 53 * 2 ^ 800 := Nat.lt_of_lt_of_le (Nat.mul_lt_mul_of_pos_right hm (Nat.two_pow_pos _)) (Nat.mul_le_mul_left _ (Nat.pow_le_pow_right (by decide) hk))
      rw [one_eq]
      exact Nat.mul_lt_mul_of_pos_right a1 (Nat.two_pow_pos 1074)
    have h2 : (2 : Nat) ^ 53 * 2 ^ 800 * 2 ^ 1074 ≤ 2 ^ 52 * 2 ^ 2046 := by
      rw [← Nat.pow_add, ← Nat.pow_add, ← Nat.pow_add]
      exact Nat.pow_le_pow_right (by decide) (by decide)
    exact absurd (Nat.lt_of_le_of_lt hb (Nat.lt_of_lt_of_le h1 h2)) (Nat.lt_irrefl _)
theorem bd_of {x : UInt64} (hn : nn x) {n : Nat} (h : Rp n) (h1 : zv x ≤ ((n * one : Nat) : Int)) (h2 : -((n * one : Nat) : Int) ≤ zv x) : Bd n x :=
  have hb : (zv x).natAbs ≤ n * one := by omega
  ⟨fin_of_zv hn h hb, hb⟩
theorem bd_add {a b : Nat} {x y : UInt64} (hx : Bd a x) (hy : Bd b y) (h : Rp (a + b)) : Bd (a + b) (FP.dadd x y) := by
  obtain ⟨V, v1, v2, v3⟩ := h.val
  have hn : nn (FP.dadd x y) := (FP.Core.notNaN_iff _).mp (FP.Core.dadd_out hx.1.notNaN hy.1)
  have e : (a + b) * one = a * one + b * one := Nat.add_mul _ _ _
  have hx2 := hx.2
  have hy2 := hy.2
  refine bd_of hn h ?_ ?_
  · rw [← v3]
    show FP.Core.zval FP.Core.b64 (FP.Core.val64 (FP.Core.dadd x y)) ≤ _
    rw [FP.Core.val64_dadd]
    refine FP.Core.sum_le FP.Core.good_b64 hx.1 hy.1 (FP.Core.val64_fits x) (FP.Core.val64_fits y) v1 v2 ?_
    rw [v3]
    show zv x + zv y ≤ _
    omega
  · have := FP.Core.sum_ge FP.Core.good_b64 hx.1 hy.1 (FP.Core.val64_fits x) (FP.Core.val64_fits y) (FP.Core.negate_fits v1) (FP.Core.negate_ne_nan v2) (by
      rw [FP.Core.zval_negate, v3]
      show _ ≤ zv x + zv y
      omega)
    rw [FP.Core.zval_negate, v3, ← FP.Core.val64_dadd] at this
    exact this
theorem zv_neg {y : UInt64} : FP.Core.zval FP.Core.b64 (FP.Core.negate (FP.Core.val64 y)) = -zv y := FP.Core.zval_negate _ _
theorem fin_neg {y : UInt64} (h : FP.Core.DFin y) : ∃ s c q, FP.Core.negate (FP.Core.val64 y) = .fin s c q := by
  obtain ⟨s, c, q, h⟩ := h
  exact ⟨!s, c, q, by rw [h]; rfl⟩
theorem bd_sub {a b : Nat} {x y : UInt64} (hx : Bd a x) (hy : Bd b y) (h : Rp (a + b)) : Bd (a + b) (FP.dsub x y) := by
  obtain ⟨V, v1, v2, v3⟩ := h.val
  have hn : nn (FP.dsub x y) := (FP.Core.notNaN_iff _).mp (FP.Core.dsub_out hx.1.notNaN hy.1)
  have e : (a + b) * one = a * one + b * one := Nat.add_mul _ _ _
  have hx2 := hx.2
  have hy2 := hy.2
  refine bd_of hn h ?_ ?_
  · rw [← v3]
    show FP.Core.zval FP.Core.b64 (FP.Core.val64 (FP.Core.dsub x y)) ≤ _
    rw [FP.Core.val64_dsub]
    refine FP.Core.sum_le FP.Core.good_b64 hx.1 (fin_neg hy.1) (FP.Core.val64_fits x) (FP.Core.negate_fits (FP.Core.val64_fits y)) v1 v2 ?_
    rw [v3, zv_neg]
    show zv x + -zv y ≤ _
    omega
  · have := FP.Core.sum_ge FP.Core.good_b64 hx.1 (fin_neg hy.1) (FP.Core.val64_fits x) (FP.Core.negate_fits (FP.Core.val64_fits y)) (FP.Core.negate_fits v1) (FP.Core.negate_ne_nan v2) (by
      rw [FP.Core.zval_negate, v3, zv_neg]
      show _ ≤ zv x + -zv y
      omega)
    rw [FP.Core.zval_negate, v3, ← FP.Core.val64_dsub] at this
    exact this
/-- no -0 comes of a sum whose first part is none -/
theorem sum_nz {s t : Bool} {c d : Nat} {q r : Int} (fx : FP.Core.fits FP.Core.b64 (.fin s c q)) (fy : FP.Core.fits FP.Core.b64 (.fin t d r)) (hs : s = true → 0 < FP.Core.zmag FP.Core.b64 (.fin s c q))
    (h1 : FP.Core.sgn (FP.Core.round FP.Core.b64 (FP.Core.exactSum (.fin s c q) (.fin t d r))) = true) (h2 : FP.Core.zval FP.Core.b64 (FP.Core.round FP.Core.b64 (FP.Core.exactSum (.fin s c q) (.fin t d r))) = 0) : False := by
  have ft : FP.Core.fits FP.Core.b64 (.fin true 1 FP.Core.b64.qmin) := ⟨by decide +kernel, Int.le_refl _, by decide +kernel, Or.inl rfl⟩
  have ff : FP.Core.fits FP.Core.b64 (.fin false 1 FP.Core.b64.qmin) := ⟨by decide +kernel, Int.le_refl _, by decide +kernel, Or.inl rfl⟩
  have zt : FP.Core.zval FP.Core.b64 (.fin true 1 FP.Core.b64.qmin) = -1 := by simp [FP.Core.zval, FP.Core.sgn, FP.Core.zmag, FP.Core.inUnits, FP.Core.signed]
  have zf : FP.Core.zval FP.Core.b64 (.fin false 1 FP.Core.b64.qmin) = 1 := by simp [FP.Core.zval, FP.Core.sgn, FP.Core.zmag, FP.Core.inUnits, FP.Core.signed]
  have le1 := fun h => FP.Core.sum_le FP.Core.good_b64 ⟨s, c, q, rfl⟩ ⟨t, d, r, rfl⟩ fx fy ft (fun h => by cases h) h
  have ge1 := fun h => FP.Core.sum_ge FP.Core.good_b64 ⟨s, c, q, rfl⟩ ⟨t, d, r, rfl⟩ fx fy ff (fun h => by cases h) h
  rw [h2, zt] at le1
  rw [h2, zf] at ge1
  have hz : FP.Core.zval FP.Core.b64 (.fin s c q) + FP.Core.zval FP.Core.b64 (.fin t d r) = 0 := by
    rcases Int.lt_trichotomy (FP.Core.zval FP.Core.b64 (.fin s c q) + FP.Core.zval FP.Core.b64 (.fin t d r)) 0 with h | h | h
    · have := le1 (by omega); omega
    · exact h
    · have := ge1 (by omega); omega
  have hv : FP.Core.sumUnits s c q t d r (min q r) = 0 := by
    obtain ⟨sg, n, e, g1, g2, g3⟩ := FP.Core.sum_units fx fy
    rw [hz] at g3
    have g4 : FP.Core.exactSum (.fin s c q) (.fin t d r) = .fin (FP.Core.sumSign s t (FP.Core.sumUnits s c q t d r (min q r))) (FP.Core.sumUnits s c q t d r (min q r)).natAbs (min q r) := rfl
    rw [g4] at g1
    cases g1
    have g5 : FP.Core.inUnits (FP.Core.sumUnits s c q t d r (min q r)).natAbs (min q r) FP.Core.b64.qmin = 0 := by
      unfold FP.Core.signed at g3
      split at g3 <;> omega
    unfold FP.Core.inUnits at g5
    rcases Nat.mul_eq_zero.mp g5 with h | h
    · omega
    · exact absurd h (Nat.pos_iff_ne_zero.mp (Nat.two_pow_pos _))
  have hsg : s = true ∧ t = true := by
    have e1 : FP.Core.sgn (FP.Core.round FP.Core.b64 (FP.Core.exactSum (.fin s c q) (.fin t d r))) = FP.Core.sumSign s t (FP.Core.sumUnits s c q t d r (min q r)) := FP.Core.sgn_roundRatio _ _ _ _ _
    rw [e1, hv] at h1
    simpa [FP.Core.sumSign] using h1
  have z1 : FP.Core.zval FP.Core.b64 (.fin s c q) = -(FP.Core.zmag FP.Core.b64 (.fin s c q) : Int) := by rw [hsg.1]; rfl
  have z2 : FP.Core.zval FP.Core.b64 (.fin t d r) = -(FP.Core.zmag FP.Core.b64 (.fin t d r) : Int) := by rw [hsg.2]; rfl
  have := hs hsg.1
  omega
theorem nz_iff {x : UInt64} (hf : FP.Core.DFin x) : nz x ↔ (FP.Core.sgn (FP.Core.val64 x) = true → 0 < FP.Core.zmag FP.Core.b64 (FP.Core.val64 x)) := by
  have hl := x.toNat_lt
  have e1 := FP.Core.sgn_bits hf.ne_nan
  have e2 := FP.Core.zval_eq_zero hf.ne_nan
  have e3 : zv x = 0 ↔ FP.Core.zmag FP.Core.b64 (FP.Core.val64 x) = 0 := by
    show FP.Core.signed _ _ = 0 ↔ _
    unfold FP.Core.signed
    split <;> omega
  rw [e1]
  constructor
  · intro h h1
    refine Nat.pos_of_ne_zero fun h0 => h ?_
    have h2 := e2.mp (e3.mpr h0)
    have h3 : 2 ^ 63 ≤ x.toNat := by simpa using h1
    apply UInt64.toNat.inj
    show x.toNat = 9223372036854775808
    omega
  · intro h h1
    have h2 : x.toNat = 9223372036854775808 := by rw [h1]; rfl
    have h3 := h (by simp [h2])
    have h4 := e3.mp (e2.mpr (by rw [h2]))
    omega
theorem nz_add {x y : UInt64} (hx : FP.Core.DFin x) (hy : FP.Core.DFin y) (hr : FP.Core.DFin (FP.dadd x y)) (hz : nz x) : nz (FP.dadd x y) := by
  have hzx := (nz_iff hx).mp hz
  refine (nz_iff hr).mpr fun h1 => Nat.pos_of_ne_zero fun h0 => ?_
  have h2 : zv (FP.dadd x y) = 0 := by
    show FP.Core.signed _ _ = 0
    rw [h0]; cases FP.Core.sgn (FP.Core.val64 (FP.dadd x y)) <;> rfl
  obtain ⟨s, c, q, ex⟩ := hx
  obtain ⟨t, d, r, ey⟩ := hy
  have fx := FP.Core.val64_fits x
  have fy := FP.Core.val64_fits y
  have h3 : FP.Core.val64 (FP.dadd x y) = _ := FP.Core.val64_dadd x y
  have h2 : FP.Core.zval FP.Core.b64 (FP.Core.val64 (FP.dadd x y)) = 0 := h2
  rw [h3, ex, ey] at h1 h2
  rw [ex] at fx hzx
  rw [ey] at fy
  exact sum_nz fx fy hzx h1 h2
theorem nz_sub {x y : UInt64} (hx : FP.Core.DFin x) (hy : FP.Core.DFin y) (hr : FP.Core.DFin (FP.dsub x y)) (hz : nz x) : nz (FP.dsub x y) := by
  have hzx := (nz_iff hx).mp hz
  refine (nz_iff hr).mpr fun h1 => Nat.pos_of_ne_zero fun h0 => ?_
  have h2 : zv (FP.dsub x y) = 0 := by
    show FP.Core.signed _ _ = 0
    rw [h0]; cases FP.Core.sgn (FP.Core.val64 (FP.dsub x y)) <;> rfl
  obtain ⟨s, c, q, ex⟩ := hx
  obtain ⟨t, d, r, ey⟩ := hy
  have fx := FP.Core.val64_fits x
  have fy := FP.Core.negate_fits (FP.Core.val64_fits y)
  have h3 : FP.Core.val64 (FP.dsub x y) = _ := FP.Core.val64_dsub x y
  have h2 : FP.Core.zval FP.Core.b64 (FP.Core.val64 (FP.dsub x y)) = 0 := h2
  rw [h3, ex, ey] at h1 h2
  rw [ex] at fx hzx
  rw [ey] at fy
  exact sum_nz fx fy hzx h1 h2
/-- products and quotients -/
theorem bd_mul {a b : Nat} {x y : UInt64} (hx : Bd a x) (hy : Bd b y) (h : Rp (a * b)) : Bd (a * b) (FP.dmul x y) := by
  obtain ⟨V, v1, v2, v3⟩ := h.val
  have hn : nn (FP.dmul x y) := (FP.Core.notNaN_iff _).mp (FP.Core.dmul_out hx.1 hy.1)
  have q1 : FP.Core.b64.qmin = -1074 := by decide +kernel
  have fx := FP.Core.val64_fits x
  have fy := FP.Core.val64_fits y
  have hx2 := hx.2
  have hy2 := hy.2
  have hv : FP.Core.val64 (FP.dmul x y) = _ := FP.Core.val64_dmul x y
  obtain ⟨⟨s, c, q, ex⟩, -⟩ := hx
  obtain ⟨⟨t, d, r, ey⟩, -⟩ := hy
  rw [ex] at fx
  rw [ey] at fy
  have hq := fx.2.1
  have hr := fy.2.1
  have mx : FP.Core.inUnits c q FP.Core.b64.qmin ≤ a * one := by
    have : (zv x).natAbs = FP.Core.inUnits c q FP.Core.b64.qmin := by
      show (FP.Core.zval FP.Core.b64 (FP.Core.val64 x)).natAbs = _
      rw [ex]
      show (FP.Core.signed s (FP.Core.inUnits c q FP.Core.b64.qmin)).natAbs = _
      cases s <;> simp [FP.Core.signed]
    omega
  have my : FP.Core.inUnits d r FP.Core.b64.qmin ≤ b * one := by
    have : (zv y).natAbs = FP.Core.inUnits d r FP.Core.b64.qmin := by
      show (FP.Core.zval FP.Core.b64 (FP.Core.val64 y)).natAbs = _
      rw [ey]
      show (FP.Core.signed t (FP.Core.inUnits d r FP.Core.b64.qmin)).natAbs = _
      cases t <;> simp [FP.Core.signed]
    omega
  have mu : FP.Core.inUnits (c * d) (q + r) (2 * FP.Core.b64.qmin) = FP.Core.inUnits c q FP.Core.b64.qmin * FP.Core.inUnits d r FP.Core.b64.qmin := by
    unfold FP.Core.inUnits
    rw [show (q + r - 2 * FP.Core.b64.qmin).toNat = (q - FP.Core.b64.qmin).toNat + (r - FP.Core.b64.qmin).toNat by omega, Nat.pow_add]
    ac_rfl
  have e0 : 2 ^ (FP.Core.b64.qmin - 2 * FP.Core.b64.qmin).toNat = one := by
    rw [one_eq, show (FP.Core.b64.qmin - 2 * FP.Core.b64.qmin).toNat = 1074 by rw [q1]; decide]
  have bnd : FP.Core.inUnits (c * d) (q + r) (2 * FP.Core.b64.qmin) ≤ a * b * one * one := by
    rw [mu]
    calc _ ≤ (a * one) * (b * one) := Nat.mul_le_mul mx my
      _ = a * b * one * one := by rw [Nat.mul_mul_mul_comm, Nat.mul_assoc (a * b)]
  have rnd : FP.Core.val64 (FP.dmul x y) = FP.Core.round FP.Core.b64 (.fin (s != t) (c * d) (q + r)) := by rw [hv, ex, ey]; rfl
  refine bd_of hn h ?_ ?_
  · show FP.Core.zval FP.Core.b64 (FP.Core.val64 (FP.dmul x y)) ≤ _
    rw [← v3, rnd]
    refine FP.Core.zval_round_le FP.Core.good_b64 (e0 := 2 * FP.Core.b64.qmin) v1 v2 (by omega) (by omega) ?_
    rw [v3, e0]
    have : FP.Core.signed (s != t) (FP.Core.inUnits (c * d) (q + r) (2 * FP.Core.b64.qmin)) ≤ (FP.Core.inUnits (c * d) (q + r) (2 * FP.Core.b64.qmin) : Int) := by
      cases (s != t) <;> simp [FP.Core.signed]
    have b2 : ((FP.Core.inUnits (c * d) (q + r) (2 * FP.Core.b64.qmin) : Nat) : Int) ≤ ((a * b * one * one : Nat) : Int) := Int.ofNat_le.mpr bnd
    rw [Int.natCast_mul (a * b * one) one] at b2
    omega
  · have := FP.Core.zval_round_ge FP.Core.good_b64 (s := (s != t)) (c := c * d) (q := q + r) (e0 := 2 * FP.Core.b64.qmin) (FP.Core.negate_fits v1) (FP.Core.negate_ne_nan v2) (by omega) (by omega) (by
      rw [FP.Core.zval_negate, v3, e0]
      have : -(FP.Core.inUnits (c * d) (q + r) (2 * FP.Core.b64.qmin) : Int) ≤ FP.Core.signed (s != t) (FP.Core.inUnits (c * d) (q + r) (2 * FP.Core.b64.qmin)) := by
        cases (s != t) <;> simp [FP.Core.signed]
      have b2 : ((FP.Core.inUnits (c * d) (q + r) (2 * FP.Core.b64.qmin) : Nat) : Int) ≤ ((a * b * one * one : Nat) : Int) := Int.ofNat_le.mpr bnd
      rw [Int.natCast_mul (a * b * one) one] at b2
      rw [Int.neg_mul]
      omega)
    rw [FP.Core.zval_negate, v3, ← rnd] at this
    exact this
/-- at least one in size: a divisor that makes nothing greater -/
theorem bd_div {a : Nat} {x y : UInt64} (hx : Bd a x) (hy : FP.Core.DFin y) (h1 : one ≤ (zv y).natAbs) (h : Rp a) : Bd a (FP.ddiv x y) := by
  obtain ⟨V, v1, v2, v3⟩ := h.val
  have q1 : FP.Core.b64.qmin = -1074 := by decide +kernel
  have q2 : FP.Core.b64.qmax = 971 := by decide +kernel
  have fx := FP.Core.val64_fits x
  have fy := FP.Core.val64_fits y
  have hx2 := hx.2
  have hv : FP.Core.val64 (FP.ddiv x y) = _ := FP.Core.val64_ddiv x y
  obtain ⟨⟨s, c, q, ex⟩, -⟩ := hx
  obtain ⟨t, d, r, ey⟩ := hy
  rw [ex] at fx
  rw [ey] at fy
  have hq := fx.2.1
  have hr := fy.2.1
  have hr2 := fy.2.2.1
  have mx : FP.Core.inUnits c q FP.Core.b64.qmin ≤ a * one := by
    have : (zv x).natAbs = FP.Core.inUnits c q FP.Core.b64.qmin := by
      show (FP.Core.zval FP.Core.b64 (FP.Core.val64 x)).natAbs = _
      rw [ex]
      show (FP.Core.signed s (FP.Core.inUnits c q FP.Core.b64.qmin)).natAbs = _
      cases s <;> simp [FP.Core.signed]
    omega
  have my : one ≤ FP.Core.inUnits d r FP.Core.b64.qmin := by
    have : (zv y).natAbs = FP.Core.inUnits d r FP.Core.b64.qmin := by
      show (FP.Core.zval FP.Core.b64 (FP.Core.val64 y)).natAbs = _
      rw [ey]
      show (FP.Core.signed t (FP.Core.inUnits d r FP.Core.b64.qmin)).natAbs = _
      cases t <;> simp [FP.Core.signed]
    omega
  have hd : 0 < d := by
    rcases Nat.eq_zero_or_pos d with h0 | h0
    · subst h0
      have : FP.Core.inUnits 0 r FP.Core.b64.qmin = 0 := Nat.zero_mul _
      rw [this] at my
      exact absurd my (Nat.not_le.mpr FP.Core.one64_pos)
    · exact h0
  have rnd : FP.Core.val64 (FP.ddiv x y) = FP.Core.roundRatio FP.Core.b64 (s != t) c d (q - r) := by
    rw [hv, ex, ey]
    show (if d = 0 then _ else _) = _
    rw [if_neg (by omega)]
  have zV : FP.Core.zmag FP.Core.b64 V = a * one := by
    have : FP.Core.signed (FP.Core.sgn V) (FP.Core.zmag FP.Core.b64 V) = ((a * one : Nat) : Int) := v3
    unfold FP.Core.signed at this
    split at this <;> omega
  have key : 2 ^ (FP.Core.b64.qmax - r).toNat ≤ 2 ^ FP.Core.b64.qmax.toNat * d := by
    unfold FP.Core.inUnits at my
    rcases Int.le_total 0 r with h0 | h0
    · exact Nat.le_trans (Nat.pow_le_pow_right (by decide) (by omega)) (Nat.le_mul_of_pos_right _ hd)
    · have hdr : 2 ^ (-r).toNat ≤ d := by
        refine Nat.le_of_mul_le_mul_right (c := 2 ^ (r - FP.Core.b64.qmin).toNat) ?_ (Nat.two_pow_pos _)
        rw [← Nat.pow_add, show (-r).toNat + (r - FP.Core.b64.qmin).toNat = 1074 by omega, ← one_eq]
        exact my
      rw [show (FP.Core.b64.qmax - r).toNat = FP.Core.b64.qmax.toNat + (-r).toNat by omega, Nat.pow_add]
      exact Nat.mul_le_mul_left _ hdr
  have mag : FP.Core.zmag FP.Core.b64 (FP.Core.val64 (FP.ddiv x y)) ≤ a * one := by
    rw [rnd, ← zV]
    refine FP.Core.zmag_roundRatio_le FP.Core.good_b64 (e0 := FP.Core.b64.qmin - FP.Core.b64.qmax) hd v1 v2 (by omega) (by omega) ?_
    rw [zV, show (FP.Core.b64.qmin - (FP.Core.b64.qmin - FP.Core.b64.qmax)).toNat = FP.Core.b64.qmax.toNat by omega]
    have e1 : FP.Core.inUnits c (q - r) (FP.Core.b64.qmin - FP.Core.b64.qmax) = FP.Core.inUnits c q FP.Core.b64.qmin * 2 ^ (FP.Core.b64.qmax - r).toNat := by
      unfold FP.Core.inUnits
      rw [show (q - r - (FP.Core.b64.qmin - FP.Core.b64.qmax)).toNat = (q - FP.Core.b64.qmin).toNat + (FP.Core.b64.qmax - r).toNat by omega, Nat.pow_add, Nat.mul_assoc]
    rw [e1, Nat.mul_assoc]
    exact Nat.mul_le_mul mx key
  have hn : nn (FP.ddiv x y) := by
    show FP.Core.val64 (FP.ddiv x y) ≠ .nan
    rw [rnd]; exact FP.Core.roundRatio_ne_nan _ _ _ _ _
  have hb : (zv (FP.ddiv x y)).natAbs ≤ a * one := by
    have : (zv (FP.ddiv x y)).natAbs = FP.Core.zmag FP.Core.b64 (FP.Core.val64 (FP.ddiv x y)) := by
      show (FP.Core.signed _ _).natAbs = _
      unfold FP.Core.signed
      split <;> simp
    omega
  exact ⟨fin_of_zv hn h hb, hb⟩
/-- whole numbers -/
theorem zv_i2d (v : Int32) : zv (FP.i2d v) = v.toInt * (one : Int) := by
  have h : FP.Core.Whole v.toInt64.toInt (FP.Core.val64 (FP.Core.l2d v.toInt64)) := FP.Core.l2d_whole ⟨by rw [Int32.toInt_toInt64]; have := v.le_toInt; omega, by rw [Int32.toInt_toInt64]; have := v.toInt_lt; omega⟩
  rw [← FP.Core.i2d_l2d, Int32.toInt_toInt64] at h
  have := FP.Core.whole_zval FP.Core.good_b64 (FP.Core.val64_fits _) h
  rw [FP.Core.pow_qmin64] at this
  exact this
theorem bd_i2d {v : Int32} {n : Nat} (h1 : v.toInt ≤ n) (h2 : -(n : Int) ≤ v.toInt) : Bd n (FP.i2d v) := by
  refine ⟨FP.Core.i2d_fin v, ?_⟩
  rw [zv_i2d, Int.natAbs_mul, Int.natAbs_natCast]
  exact Nat.mul_le_mul_right _ (by omega)
theorem nz_i2d (v : Int32) : nz (FP.i2d v) := by
  by_cases h : v = 0
  · subst h; unfold nz; decide +kernel
  · intro h1
    have := FP.Core.i2d_ne_zero h
    have h2 : (FP.i2d v).toNat = 9223372036854775808 := by rw [h1]; rfl
    exact this (by show (FP.i2d v).toNat % 2 ^ 63 = 0; rw [h2])
theorem i2d_one {v : Int32} (h : 1 ≤ v.toInt) : one ≤ (zv (FP.i2d v)).natAbs := by
  rw [zv_i2d, Int.natAbs_mul, Int.natAbs_natCast]
  exact Nat.le_mul_of_pos_left _ (by omega)
/-- comparisons, by the value -/
theorem zv_inj {x y : UInt64} (hx : FP.Core.DFin x) (hy : FP.Core.DFin y) (nx : nz x) (ny : nz y) (h : zv x = zv y) : x = y := by
  have h1 : FP.Core.dcmp x y = some .eq := by
    rw [FP.Core.dcmp_zval hx.ne_nan hy.ne_nan]
    rw [FP.Core.compare_ite, if_neg (by show ¬ zv x < zv y; omega), if_pos h]
  have h2 := (FP.Core.dcmp_eq_key hx.ne_nan hy.ne_nan).mp h1
  have lx := x.toNat_lt
  have ly := y.toNat_lt
  have n1 : x.toNat ≠ 9223372036854775808 := fun e => nx (UInt64.toNat.inj e)
  have n2 : y.toNat ≠ 9223372036854775808 := fun e => ny (UInt64.toNat.inj e)
  refine UInt64.toNat.inj ?_
  unfold FP.Core.dkey at h2
  split at h2 <;> split at h2 <;> omega
theorem cmp_z {x y : UInt64} (hx : nn x) (hy : nn y) (op : CmpOp) : Op.cmpValue (FP.dcmp x y) op = if zv x < zv y then -1 else if zv x = zv y then 0 else 1 := by
  have h1 : FP.dcmp x y = some (compare (zv x) (zv y)) := FP.Core.dcmp_zval hx hy
  rw [h1, FP.Core.compare_ite]
  by_cases h2 : zv x < zv y
  · rw [if_pos h2, if_pos h2]; rfl
  · rw [if_neg h2, if_neg h2]
    by_cases h3 : zv x = zv y
    · rw [if_pos h3, if_pos h3]; rfl
    · rw [if_neg h3, if_neg h3]; rfl
