/-! numbers that fit keep a Line as it should be -/
def okI : Nat → Int32 → Prop
  | 0, x => x = nI x.toNatClampNeg ∧ 1 ≤ x.toNatClampNeg ∧ x.toNatClampNeg ≤ 10
  | 1, x => x = nI x.toNatClampNeg ∧ x.toNatClampNeg ≤ 1000
  | 2, x => -100 ≤ x.toInt ∧ x.toInt ≤ 100
  | 3, x => x = nI x.toNatClampNeg ∧ 1 ≤ x.toNatClampNeg ∧ x.toNatClampNeg ≤ 99
  | 4, x => x = nI x.toNatClampNeg ∧ x.toNatClampNeg ≤ 1
  | 5, x => x = nI x.toNatClampNeg ∧ x.toNatClampNeg ≤ 3
  | 6, x => x = nI x.toNatClampNeg ∧ x.toNatClampNeg ≤ 5
  | 7, x => x = nI x.toNatClampNeg ∧ 1 ≤ x.toNatClampNeg ∧ x.toNatClampNeg ≤ 60
  | 8, x => x = nI x.toNatClampNeg ∧ x.toNatClampNeg ≤ 999
  | _, _ => True
theorem VG_iff {v : Nat → Int32} : VG v ↔ ∀ i, i < 9 → okI i (v i) := by
  constructor
  · intro h i hi
    rcases (show i = 0 ∨ i = 1 ∨ i = 2 ∨ i = 3 ∨ i = 4 ∨ i = 5 ∨ i = 6 ∨ i = 7 ∨ i = 8 by omega) with rfl | rfl | rfl | rfl | rfl | rfl | rfl | rfl | rfl
    · exact h.n
    · exact h.h
    · exact h.q
    · exact h.a
    · exact h.lf
    · exact h.rt
    · exact h.k
    · exact h.t
    · exact h.tm
  · intro h
    exact ⟨h 0 (by decide), h 1 (by decide), h 2 (by decide), h 3 (by decide), h 4 (by decide), h 5 (by decide), h 6 (by decide), h 7 (by decide), h 8 (by decide)⟩
theorem VG.put1 {v : Nat → Int32} (h : VG v) {w : Nat} {u : Int32} (hu : okI w u) : VG (upd v w u) := VG_iff.mpr fun i hi => by
  by_cases e : i = w
  · subst e; rw [upd_eq]; exact hu
  · rw [upd_ne e]; exact VG_iff.mp h i hi
theorem rng {u : Int32} {lo hi : Nat} (h1 : nI lo ≤ u) (h2 : u ≤ nI hi) (hh : hi < 2 ^ 31) (hl : lo < 2 ^ 31) : u = nI u.toNatClampNeg ∧ lo ≤ u.toNatClampNeg ∧ u.toNatClampNeg ≤ hi := by
  have a := Int32.le_iff_toInt_le.mp h1
  have b := Int32.le_iff_toInt_le.mp h2
  rw [nI_toInt hl] at a
  rw [nI_toInt hh] at b
  have e : u = nI u.toInt.toNat := Int32.toInt_inj.mp (by rw [nI_toInt (by omega)]; omega)
  have c : u.toNatClampNeg = u.toInt.toNat := by rw [e]; rw [nI_clamp (by omega), nI_toInt (by omega)]; omega
  rw [c]
  exact ⟨e, by omega, by omega⟩
theorem fitsB_iff {w : Nat} {u : Int32} (hw : w < 8) : fitsB (nI w) u = true ↔ ¬ u < sLO w ∧ ¬ sHI w < u := by
  unfold fitsB
  rw [if_neg (nI_pos (by omega)), if_neg (nI_ge hw (by decide)), nI_clamp (by omega)]
  constructor
  · intro h
    split at h
    · cases h
    · split at h
      · cases h
      · exact ⟨‹_›, ‹_›⟩
  · intro ⟨h1, h2⟩
    rw [if_neg h1, if_neg h2]
theorem nlt_le {a b : Int32} (h : ¬ a < b) : b ≤ a := Int32.not_lt.mp h
theorem fits_ok {w : Nat} {u : Int32} (hw : w < 8) (h : fitsB (nI w) u = true) : okI w u := by
  obtain ⟨h1, h2⟩ := (fitsB_iff hw).mp h
  have h1 := nlt_le h1
  have h2 := nlt_le h2
  rcases (show w = 0 ∨ w = 1 ∨ w = 2 ∨ w = 3 ∨ w = 4 ∨ w = 5 ∨ w = 6 ∨ w = 7 by omega) with rfl | rfl | rfl | rfl | rfl | rfl | rfl | rfl
  · exact rng (lo := 1) (hi := 10) h1 h2 (by decide) (by decide)
  · have r := rng (lo := 0) (hi := 1000) h1 h2 (by decide) (by decide); exact ⟨r.1, r.2.2⟩
  · exact ⟨Int32.le_iff_toInt_le.mp h1, Int32.le_iff_toInt_le.mp h2⟩
  · exact rng (lo := 1) (hi := 99) h1 h2 (by decide) (by decide)
  · have r := rng (lo := 0) (hi := 1) h1 h2 (by decide) (by decide); exact ⟨r.1, r.2.2⟩
  · have r := rng (lo := 0) (hi := 3) h1 h2 (by decide) (by decide); exact ⟨r.1, r.2.2⟩
  · have r := rng (lo := 0) (hi := 5) h1 h2 (by decide) (by decide); exact ⟨r.1, r.2.2⟩
  · exact rng (lo := 1) (hi := 60) h1 h2 (by decide) (by decide)
theorem isLaw_ok {k t : Int32} (h : isLawB k t = true) : okI 6 k ∧ okI 7 t := by
  unfold isLawB at h
  split at h
  · split at h
    · exact ⟨fits_ok (by decide) ‹_›, fits_ok (by decide) ‹_›⟩
    · cases h
  · cases h
theorem VG.law {v : Nat → Int32} (h : VG v) {k t : Int32} (hk : okI 6 k) (ht : okI 7 t) : VG (upd (upd v 6 k) 7 t) := VG.put1 (w := 7) (VG.put1 (w := 6) h hk) ht
theorem VG.try {v : Nat → Int32} (h : VG v) {k t : Int32} (hk : okI 6 k) (ht : okI 7 t) : VG (tryV v k t) := VG.law (VG.put1 (w := 5) (u := nI 0) h ⟨rfl, by decide⟩) hk ht
theorem LG.law {x : LineSt} (h : LG x) {k t : Int32} (hk : okI 6 k) (ht : okI 7 t) : LG (upd (upd x.1 6 k) 7 t, x.2) := by
  have e0 : nv (upd (upd x.1 6 k) 7 t) 0 = nv x.1 0 := by rw [nv_upd_ne (by decide), nv_upd_ne (by decide)]
  have e8 : nv (upd (upd x.1 6 k) 7 t) 8 = nv x.1 8 := by rw [nv_upd_ne (by decide), nv_upd_ne (by decide)]
  have e5 : nv (upd (upd x.1 6 k) 7 t) 5 = nv x.1 5 := by rw [nv_upd_ne (by decide), nv_upd_ne (by decide)]
  have e1 : upd (upd x.1 6 k) 7 t 1 = x.1 1 := by rw [upd_ne (by decide), upd_ne (by decide)]
  obtain ⟨h1, h2⟩ := h
  unfold LG
  simp only
  rw [e0, e8, e5, e1]
  exact ⟨h1.law hk ht, h2⟩
theorem stepB_iff {n : Int32} : stepB n = true → n = nI n.toNatClampNeg ∧ 1 ≤ n.toNatClampNeg ∧ n.toNatClampNeg ≤ 100 := by
  intro h
  unfold stepB at h
  split at h
  · cases h
  · split at h
    · cases h
    · exact rng (nlt_le ‹_›) (nlt_le ‹_›) (by decide) (by decide)
theorem trialB_iff {n : Int32} : trialB n = true → n = nI n.toNatClampNeg ∧ n.toNatClampNeg ≤ 100 := by
  intro h
  unfold trialB at h
  split at h
  · cases h
  · split at h
    · cases h
    · have r := rng (lo := 0) (hi := 100) (u := n) (nlt_le ‹_›) (nlt_le ‹_›) (by decide) (by decide)
      exact ⟨r.1, r.2.2⟩
theorem timeB_iff {v : Nat → Int32} (hv : VG v) {n : Nat} (hn : n ≤ 100) : timeB v (nI n) = true ↔ nv v 8 + n ≤ 999 := by
  have h := hv.tm
  unfold timeB
  rw [h.1, nI_add]
  constructor
  · intro q
    split at q
    · cases q
    · rename_i z
      rcases Nat.lt_or_ge 999 (nv v 8 + n) with w | w
      · exact absurd (nI_lt w (by omega)) z
      · exact w
  · intro q
    rw [if_neg (nI_nlt q (by decide))]
theorem nodeB_iff {v : Nat → Int32} (hv : VG v) {i : Int32} : nodeB v i = true → i = nI i.toNatClampNeg ∧ i.toNatClampNeg ≤ nv v 0 := by
  intro h
  unfold nodeB at h
  split at h
  · cases h
  · split at h
    · cases h
    · have r := rng (lo := 0) (hi := nv v 0) (u := i) (nlt_le ‹_›) (by rw [← hv.n.1]; exact nlt_le ‹_›) (by have := hv.n; omega) (by decide)
      exact ⟨r.1, r.2.2⟩
theorem LG.press {x : LineSt} (h : LG x) {i : Nat} (hi : i ≤ nv x.1 0) : bz 2000000000 (FP.dadd (x.2.1 i) (x.2.2.1 i)) := by
  have hb := wb_le h.1.tm.2
  exact (h.2.1.press (by omega) i hi).mono (by omega)
/-- what is kept is finite -/
theorem kept_ok {x : LineSt} (h : LG x) : ∀ i, i ≤ nv x.1 0 → vf_n64 (FP.dmul (x.2.1 i) (x.2.1 i)) ∧ vf_n64 (FP.dmul (x.2.2.1 i) (x.2.2.1 i)) ∧ vf_n64 (FP.dadd (FP.dmul (x.2.1 i) (x.2.1 i)) (FP.dmul (x.2.2.1 i) (x.2.2.1 i))) ∧ vf_n64 (kept0 x.2.1 x.2.2.1 (i + 1)) ∧ Bd ((i + 1) * 2 ^ 61) (kept0 x.2.1 x.2.2.1 (i + 1)) := by
  have hb := wb_le h.1.tm.2
  have hN := h.1.n
  have sq : ∀ {z : UInt64}, Bd 1000000000 z → Bd (2 ^ 60) (FP.dmul z z) := fun {z} hz => by
    have e : Bd (2 ^ 30 * 2 ^ 30) (FP.dmul z z) := bd_mul (hz.mono (by decide)) (hz.mono (by decide)) ⟨1, 60, by decide, by decide, by decide⟩
    exact e
  have two : ∀ i, i ≤ nv x.1 0 → Bd (2 ^ 61) (FP.dadd (FP.dmul (x.2.1 i) (x.2.1 i)) (FP.dmul (x.2.2.1 i) (x.2.2.1 i))) := fun i hi => by
    have e : Bd (2 ^ 60 + 2 ^ 60) _ := bd_add (sq ((h.2.1 i hi).1.1.mono (by omega))) (sq ((h.2.1 i hi).2.1.mono (by omega))) ⟨1, 61, by decide, by decide, by decide⟩
    exact e
  intro i
  induction i with
  | zero =>
    intro hi
    have e : Bd (0 + 2 ^ 61) (kept0 x.2.1 x.2.2.1 (0 + 1)) := bd_add (zero_bd 0) (two 0 hi) ⟨1, 61, by decide, by decide, by decide⟩
    exact ⟨(sq ((h.2.1 0 hi).1.1.mono (by omega))).n64, (sq ((h.2.1 0 hi).2.1.mono (by omega))).n64, (two 0 hi).n64, e.n64, e.mono (by decide)⟩
  | succ i ih =>
    intro hi
    have q := (ih (by omega)).2.2.2.2
    have r : Rp ((i + 1) * 2 ^ 61 + 2 ^ 61) := ⟨i + 2, 61, by rw [← Nat.succ_mul], by omega, by decide⟩
    have e : Bd ((i + 1) * 2 ^ 61 + 2 ^ 61) (kept0 x.2.1 x.2.2.1 (i + 1 + 1)) := bd_add q (two (i + 1) hi) r
    exact ⟨(sq ((h.2.1 (i + 1) hi).1.1.mono (by omega))).n64, (sq ((h.2.1 (i + 1) hi).2.1.mono (by omega))).n64, (two (i + 1) hi).n64, e.n64, e.mono (by rw [← Nat.succ_mul]; exact Nat.le_refl _)⟩
theorem LG.hiF {x : LineSt} (h : LG x) : FP.Core.DFin x.2.2.2.2.2.1 := by
  rw [h.2.2.2.2.2.1]; obtain ⟨j, a, b⟩ := maxU_mem x.2.2.2.1 (nv x.1 0); rw [b]; exact (h.2.2.1 j a).1.1.fin
theorem LG.loF {x : LineSt} (h : LG x) : FP.Core.DFin x.2.2.2.2.2.2.1 := by
  rw [h.2.2.2.2.2.2]; obtain ⟨j, a, b⟩ := minU_mem x.2.2.2.2.1 (nv x.1 0); rw [b]; exact (h.2.2.1 j a).2.1.fin
