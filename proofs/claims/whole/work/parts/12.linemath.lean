/-! a Line that is as it should be stays so: bounds, no -0, the greatest and the least -/
theorem upd_ne {f : Nat → Int32} {k j : Nat} {x : Int32} (h : j ≠ k) : upd f k x j = f j := pk_un h
theorem upd_eq {f : Nat → Int32} {k : Nat} {x : Int32} : upd f k x k = x := pk_us
def maxU (f : Nat → UInt64) : Nat → UInt64
  | 0 => f 0
  | n + 1 => mx (f (n + 1)) (maxU f n)
def minU (f : Nat → UInt64) : Nat → UInt64
  | 0 => f 0
  | n + 1 => mn (f (n + 1)) (minU f n)
theorem mx_ge1 (a b : UInt64) : zv a ≤ zv (mx a b) := by unfold mx; split <;> omega
theorem mx_ge2 (a b : UInt64) : zv b ≤ zv (mx a b) := by unfold mx; split <;> omega
theorem mn_le1 (a b : UInt64) : zv (mn a b) ≤ zv a := by unfold mn; split <;> omega
theorem mn_le2 (a b : UInt64) : zv (mn a b) ≤ zv b := by unfold mn; split <;> omega
theorem mx_or (a b : UInt64) : mx a b = a ∨ mx a b = b := by unfold mx; split <;> simp
theorem mn_or (a b : UInt64) : mn a b = a ∨ mn a b = b := by unfold mn; split <;> simp
theorem le_maxU (f : Nat → UInt64) : ∀ (n j : Nat), j ≤ n → zv (f j) ≤ zv (maxU f n)
  | 0, j, h => by rw [show j = 0 by omega]; exact Int.le_refl _
  | n + 1, j, h => by
    by_cases h1 : j = n + 1
    · rw [h1]; exact mx_ge1 _ _
    · exact Int.le_trans (le_maxU f n j (by omega)) (mx_ge2 _ _)
theorem maxU_mem (f : Nat → UInt64) : ∀ n : Nat, ∃ j, j ≤ n ∧ maxU f n = f j
  | 0 => ⟨0, Nat.le_refl _, rfl⟩
  | n + 1 => by
    obtain ⟨j, h1, h2⟩ := maxU_mem f n
    rcases mx_or (f (n + 1)) (maxU f n) with h | h
    · exact ⟨n + 1, Nat.le_refl _, h⟩
    · exact ⟨j, by omega, by show mx _ _ = _; rw [h, h2]⟩
theorem minU_le (f : Nat → UInt64) : ∀ (n j : Nat), j ≤ n → zv (minU f n) ≤ zv (f j)
  | 0, j, h => by rw [show j = 0 by omega]; exact Int.le_refl _
  | n + 1, j, h => by
    by_cases h1 : j = n + 1
    · rw [h1]; exact mn_le1 _ _
    · exact Int.le_trans (mn_le2 _ _) (minU_le f n j (by omega))
theorem minU_mem (f : Nat → UInt64) : ∀ n : Nat, ∃ j, j ≤ n ∧ minU f n = f j
  | 0 => ⟨0, Nat.le_refl _, rfl⟩
  | n + 1 => by
    obtain ⟨j, h1, h2⟩ := minU_mem f n
    rcases mn_or (f (n + 1)) (minU f n) with h | h
    · exact ⟨n + 1, Nat.le_refl _, h⟩
    · exact ⟨j, by omega, by show mn _ _ = _; rw [h, h2]⟩
/-- finite, and no -0 -/
def fz (x : UInt64) : Prop := FP.Core.DFin x ∧ nz x
theorem fz_inj {x y : UInt64} (hx : fz x) (hy : fz y) (h : zv x = zv y) : x = y := zv_inj hx.1 hy.1 hx.2 hy.2 h
theorem maxU_upd {f : Nat → UInt64} {N i : Nat} {p : UInt64} (hf : ∀ j, j ≤ N → fz (f j)) (hp : fz p) (hi : i ≤ N) (h : zv (f i) < zv p) : maxU (vf_upd f i p) N = mx p (maxU f N) := by
  have hf' : ∀ j, j ≤ N → fz (vf_upd f i p j) := fun j hj => by simp only [vf_upd]; split; exact hp; exact hf j hj
  obtain ⟨j0, a1, a2⟩ := maxU_mem (vf_upd f i p) N
  obtain ⟨j1, b1, b2⟩ := maxU_mem f N
  have e1 : fz (maxU (vf_upd f i p) N) := by rw [a2]; exact hf' j0 a1
  have e2 : fz (mx p (maxU f N)) := by
    rcases mx_or p (maxU f N) with q | q <;> rw [q]
    · exact hp
    · rw [b2]; exact hf j1 b1
  refine fz_inj e1 e2 (Int.le_antisymm ?_ ?_)
  · rw [a2]
    simp only [vf_upd]
    split
    · exact mx_ge1 _ _
    · exact Int.le_trans (le_maxU f N j0 a1) (mx_ge2 _ _)
  · rcases mx_or p (maxU f N) with q | q
    · rw [q]
      have := le_maxU (vf_upd f i p) N i hi
      simpa [vf_upd] using this
    · rw [q, b2]
      by_cases hj : j1 = i
      · have := le_maxU (vf_upd f i p) N i hi
        simp [vf_upd] at this
        rw [hj]; omega
      · have := le_maxU (vf_upd f i p) N j1 b1
        simpa [vf_upd, hj] using this
theorem minU_upd {f : Nat → UInt64} {N i : Nat} {p : UInt64} (hf : ∀ j, j ≤ N → fz (f j)) (hp : fz p) (hi : i ≤ N) (h : zv p < zv (f i)) : minU (vf_upd f i p) N = mn p (minU f N) := by
  have hf' : ∀ j, j ≤ N → fz (vf_upd f i p j) := fun j hj => by simp only [vf_upd]; split; exact hp; exact hf j hj
  obtain ⟨j0, a1, a2⟩ := minU_mem (vf_upd f i p) N
  obtain ⟨j1, b1, b2⟩ := minU_mem f N
  have e1 : fz (minU (vf_upd f i p) N) := by rw [a2]; exact hf' j0 a1
  have e2 : fz (mn p (minU f N)) := by
    rcases mn_or p (minU f N) with q | q <;> rw [q]
    · exact hp
    · rw [b2]; exact hf j1 b1
  refine fz_inj e1 e2 (Int.le_antisymm ?_ ?_)
  · rcases mn_or p (minU f N) with q | q
    · rw [q]
      have := minU_le (vf_upd f i p) N i hi
      simpa [vf_upd] using this
    · rw [q, b2]
      by_cases hj : j1 = i
      · have := minU_le (vf_upd f i p) N i hi
        simp [vf_upd] at this
        rw [hj]; omega
      · have := minU_le (vf_upd f i p) N j1 b1
        simpa [vf_upd, hj] using this
  · rw [a2]
    simp only [vf_upd]
    split
    · exact mn_le1 _ _
    · exact Int.le_trans (mn_le2 _ _) (minU_le f N j0 a1)
abbrev EnvT : Type := (Nat → UInt64) × (Nat → UInt64) × UInt64 × UInt64
/-- what all nodes' pressures and envelopes have, they keep -/
theorem widN_all (Q : UInt64 → Prop) {P : Nat → UInt64} {N : Nat} {e : EnvT} (hP : ∀ j, j ≤ N → Q (P j)) (hG : ∀ j, j ≤ N → Q (e.1 j)) (hL : ∀ j, j ≤ N → Q (e.2.1 j)) (hh : Q e.2.2.1) (hl : Q e.2.2.2) :
    ∀ i, i ≤ N + 1 → (∀ j, j ≤ N → Q ((widN P i e).1 j)) ∧ (∀ j, j ≤ N → Q ((widN P i e).2.1 j)) ∧ Q (widN P i e).2.2.1 ∧ Q (widN P i e).2.2.2
  | 0, _ => ⟨hG, hL, hh, hl⟩
  | i + 1, hi => by
    obtain ⟨a1, a2, a3, a4⟩ := widN_all Q hP hG hL hh hl i (by omega)
    have hp := hP i (by omega)
    refine ⟨fun j hj => ?_, fun j hj => ?_, ?_, ?_⟩
    · show Q ((if _ then _ else _ : Nat → UInt64) j)
      split
      · simp only [vf_upd]; split
        · exact hp
        · exact a1 j hj
      · exact a1 j hj
    · show Q ((if _ then _ else _ : Nat → UInt64) j)
      split
      · simp only [vf_upd]; split
        · exact hp
        · exact a2 j hj
      · exact a2 j hj
    · show Q (if _ then _ else _)
      split
      · rcases mx_or (P i) (widN P i e).2.2.1 with q | q <;> rw [q]
        · exact hp
        · exact a3
      · exact a3
    · show Q (if _ then _ else _)
      split
      · rcases mn_or (P i) (widN P i e).2.2.2 with q | q <;> rw [q]
        · exact hp
        · exact a4
      · exact a4
theorem widN_hi {P : Nat → UInt64} {N : Nat} {e : EnvT} (hP : ∀ j, j ≤ N → fz (P j)) (hG : ∀ j, j ≤ N → fz (e.1 j)) (hL : ∀ j, j ≤ N → fz (e.2.1 j)) (h1 : e.2.2.1 = maxU e.1 N) (h2 : e.2.2.2 = minU e.2.1 N) :
    ∀ i, i ≤ N + 1 → (widN P i e).2.2.1 = maxU (widN P i e).1 N ∧ (widN P i e).2.2.2 = minU (widN P i e).2.1 N
  | 0, _ => ⟨h1, h2⟩
  | i + 1, hi => by
    have hh : fz e.2.2.1 := by rw [h1]; obtain ⟨j, a, b⟩ := maxU_mem e.1 N; rw [b]; exact hG j a
    have hl : fz e.2.2.2 := by rw [h2]; obtain ⟨j, a, b⟩ := minU_mem e.2.1 N; rw [b]; exact hL j a
    obtain ⟨a1, a2, a3, a4⟩ := widN_all fz hP hG hL hh hl i (by omega)
    obtain ⟨b1, b2⟩ := widN_hi hP hG hL h1 h2 i (by omega)
    have hp := hP i (by omega)
    constructor
    · show (if _ then _ else _) = maxU (if _ then _ else _) N
      split
      · rw [maxU_upd a1 hp (by omega) ‹_›, b1]
      · exact b1
    · show (if _ then _ else _) = minU (if _ then _ else _) N
      split
      · rw [minU_upd a2 hp (by omega) ‹_›, b2]
      · exact b2
/-- the greatest of all never falls -/
theorem widN_mono (P : Nat → UInt64) (e : EnvT) : ∀ i, zv e.2.2.1 ≤ zv (widN P i e).2.2.1
  | 0 => Int.le_refl _
  | i + 1 => by
    refine Int.le_trans (widN_mono P e i) ?_
    show _ ≤ zv (if _ then _ else _)
    split
    · exact mx_ge2 _ _
    · exact Int.le_refl _
/-- bounds: waves by the time -/
def wb (t : Nat) : Nat := 1000000 * (t + 1)
def bz (b : Nat) (x : UInt64) : Prop := Bd b x ∧ nz x
theorem bz.fz {b : Nat} {x : UInt64} (h : bz b x) : fz x := ⟨h.1.fin, h.2⟩
theorem bz.mono {a b : Nat} {x : UInt64} (h : bz a x) (hab : a ≤ b) : bz b x := ⟨h.1.mono hab, h.2⟩
theorem bz_add {a b n : Nat} {x y : UInt64} (hx : bz a x) (hy : Bd b y) (h : a + b ≤ n) (hn : n < 9007199254740992) : bz n (FP.dadd x y) :=
  have q := bdA hx.1 hy h hn
  ⟨q, nz_add hx.1.fin hy.fin q.fin hx.2⟩
theorem bz_sub {a b n : Nat} {x y : UInt64} (hx : bz a x) (hy : Bd b y) (h : a + b ≤ n) (hn : n < 9007199254740992) : bz n (FP.dsub x y) :=
  have q := bdS hx.1 hy h hn
  ⟨q, nz_sub hx.1.fin hy.fin q.fin hx.2⟩
def WG (b N : Nat) (F B : Nat → UInt64) : Prop := ∀ i, i ≤ N → bz b (F i) ∧ bz b (B i)
theorem WG.mono {a b N : Nat} {F B : Nat → UInt64} (h : WG a N F B) (hab : a ≤ b) : WG b N F B := fun i hi => ⟨(h i hi).1.mono hab, (h i hi).2.mono hab⟩
theorem WG.shift {b N : Nat} {F B : Nat → UInt64} (h : WG b N F B) : WG b N (shF N 0 F) (shB N B) := fun i hi => by
  refine ⟨?_, ?_⟩
  · simp only [shF]; split
    · exact (h (i - 1) (by omega)).1
    · exact (h i hi).1
  · simp only [shB]; split
    · exact (h (i + 1) (by omega)).2
    · exact (h i hi).2
theorem leftF_bz {v : Nat → Int32} {b : Nat} {x : UInt64} (hv : VG v) (hx : bz b x) (hb : b ≤ 2000000000) : bz (b + 1000) (leftF v x) := by
  unfold leftF
  split
  · exact bz_sub (a := 1000) ⟨hv.bh, nz_i2d _⟩ hx.1 (by omega) (by omega)
  · exact hx.mono (by omega)
theorem rightB_bz {v : Nat → Int32} {b : Nat} {x l : UInt64} (hv : VG v) (hx : bz b x) (hl : bz 10000 l) (hb : b ≤ 2000000000) : bz (b + 720000) (rightB v x l) := by
  unfold rightB
  split
  · exact bz_sub hx (letF_bd hv.bq hv.t.2.2) (by omega) (by omega)
  · split
    · exact bz_sub (a := 1000) ⟨hv.bh, nz_i2d _⟩ hx.1 (by omega) (by omega)
    · split
      · exact hx.mono (by omega)
      · exact bz_sub hl hx.1 (by omega) (by omega)
theorem risen_bz {v : Nat → Int32} {b : Nat} {x l : UInt64} (hv : VG v) (hx : Bd b x) (hl : bz 10000 l) (hb : b ≤ 2000000000) : Bd (2 * b + 10000) (FP.ddiv (FP.dsub x (FP.dsub l x)) (FP.i2d (v 3))) ∧ bz (2 * b + 20000) (risen l (FP.dsub x (FP.dsub l x)) (v 3)) := by
  have h1 : Bd (b + 10000) (FP.dsub l x) := bdS hl.1 hx (by omega) (by omega)
  have h2 : Bd (2 * b + 10000) (FP.dsub x (FP.dsub l x)) := bdS hx h1 (by omega) (by omega)
  have h3 : one ≤ (zv (FP.i2d (v 3))).natAbs := by rw [hv.a.1]; exact one_nI hv.a.2.1 (by have := hv.a; omega)
  have h4 : Bd (2 * b + 10000) (FP.ddiv (FP.dsub x (FP.dsub l x)) (FP.i2d (v 3))) := bdQ h2 (FP.Core.i2d_fin _) h3 (by omega)
  exact ⟨h4, bz_add hl h4 (by omega) (by omega)⟩
theorem ten_zv : zv 4666723172467343360 = 10000 * (one : Int) := by
  have h : zv 4666723172467343360 = zv (FP.i2d 10000) := by rw [show FP.i2d 10000 = 4666723172467343360 by decide +kernel]
  rw [h, zv_i2d]; rfl
theorem mten_zv : zv 13890095209322119168 = -10000 * (one : Int) := by
  have h : zv 13890095209322119168 = zv (FP.i2d (-10000)) := by rw [show FP.i2d (-10000) = 13890095209322119168 by decide +kernel]
  rw [h, zv_i2d]; rfl
theorem clampF_bz {b : Nat} {r : UInt64} (hr : bz b r) : bz 10000 (clampF r) := by
  unfold clampF
  split
  · exact ⟨⟨ten_fin, by rw [ten_zv]; omega⟩, by unfold nz; decide⟩
  · split
    · exact ⟨⟨mten_fin, by rw [mten_zv]; omega⟩, by unfold nz; decide⟩
    · rename_i h1 h2
      rw [ten_zv] at h1
      rw [mten_zv] at h2
      exact ⟨⟨hr.1.fin, by omega⟩, hr.2⟩
theorem rightLev_bz {v : Nat → Int32} {b : Nat} {x l : UInt64} (hv : VG v) (hx : Bd b x) (hl : bz 10000 l) (hb : b ≤ 2000000000) : bz 10000 (rightLev v x l) := by
  unfold rightLev
  split
  · exact clampF_bz (risen_bz hv hx hl hb).2
  · exact hl
def LG (x : LineSt) : Prop := VG x.1 ∧ WG (wb (nv x.1 8)) (nv x.1 0) x.2.1 x.2.2.1 ∧ WG (2 * wb (nv x.1 8)) (nv x.1 0) x.2.2.2.1 x.2.2.2.2.1 ∧ bz 10000 x.2.2.2.2.2.2.2 ∧
  (nv x.1 5 ≠ 3 → x.2.2.2.2.2.2.2 = FP.i2d (x.1 1)) ∧ x.2.2.2.2.2.1 = maxU x.2.2.2.1 (nv x.1 0) ∧ x.2.2.2.2.2.2.1 = minU x.2.2.2.2.1 (nv x.1 0)
theorem nv_upd_ne {v : Nat → Int32} {k j : Nat} {x : Int32} (h : j ≠ k) : nv (upd v k x) j = nv v j := by unfold nv; rw [upd_ne h]
theorem nv_upd_eq {v : Nat → Int32} {k n : Nat} (h : n < 2 ^ 31) : nv (upd v k (nI n)) k = n := by unfold nv; rw [upd_eq]; exact nI_clamp h
theorem VG.tick {v : Nat → Int32} (h : VG v) (ht : nv v 8 + 1 ≤ 999) : VG (upd v 8 (v 8 + nI 1)) ∧ nv (upd v 8 (v 8 + nI 1)) 8 = nv v 8 + 1 := by
  have e : v 8 + nI 1 = nI (nv v 8 + 1) := by rw [h.tm.1, nI_add]
  have e8 : nv (upd v 8 (v 8 + nI 1)) 8 = nv v 8 + 1 := by rw [e]; exact nv_upd_eq (by omega)
  have u : ∀ j, j ≠ 8 → upd v 8 (v 8 + nI 1) j = v j := fun j hj => upd_ne hj
  have w : ∀ j, j ≠ 8 → nv (upd v 8 (v 8 + nI 1)) j = nv v j := fun j hj => nv_upd_ne hj
  refine ⟨?_, e8⟩
  unfold VG
  rw [u 0 (by decide), u 1 (by decide), u 2 (by decide), u 3 (by decide), u 4 (by decide), u 5 (by decide), u 6 (by decide), u 7 (by decide), w 0 (by decide), w 1 (by decide), w 3 (by decide), w 4 (by decide), w 5 (by decide), w 6 (by decide), w 7 (by decide), e8, upd_eq]
  exact ⟨h.n, h.h, h.q, h.a, h.lf, h.rt, h.k, h.t, e, ht⟩
