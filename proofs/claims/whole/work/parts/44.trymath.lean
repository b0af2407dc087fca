/-! trials: what lies beyond the last node counts for nothing; the early stop and the order of the search change no answer -/
theorem advL_s (n : Nat) (x : LineSt) : advL (n + 1) x = advL n (stepL x) := by
  induction n with
  | zero => rfl
  | succ n ih => show stepL (advL (n + 1) x) = stepL (advL n (stepL x)); rw [ih]
theorem adv_mono (n : Nat) (x : LineSt) : zv x.2.2.2.2.2.1 ≤ zv (advL n x).2.2.2.2.2.1 := by
  induction n with
  | zero => exact Int.le_refl _
  | succ n ih => exact Int.le_trans ih (step_mono _)
theorem stay_iff (b : UInt64) : ∀ (f : Nat) (x : LineSt), zv b < zv (stayN b f x).2.2.2.2.2.1 ↔ zv b < zv (advL f x).2.2.2.2.2.1
  | 0, _ => Iff.rfl
  | f + 1, x => by
    by_cases h : zv b < zv x.2.2.2.2.2.1
    · rw [show stayN b (f + 1) x = x from if_pos h]
      exact ⟨fun _ => Int.lt_of_lt_of_le h (adv_mono _ _), fun _ => h⟩
    · rw [show stayN b (f + 1) x = stayN b f (stepL x) from if_neg h, advL_s]
      exact stay_iff b f (stepL x)
def SL (x y : LineSt) : Prop := x.1 = y.1 ∧ (∀ i, i ≤ nv x.1 0 → x.2.1 i = y.2.1 i ∧ x.2.2.1 i = y.2.2.1 i ∧ x.2.2.2.1 i = y.2.2.2.1 i ∧ x.2.2.2.2.1 i = y.2.2.2.2.1 i) ∧ x.2.2.2.2.2 = y.2.2.2.2.2
theorem SL.settle (v : Nat → Int32) (r r2 : (Nat → UInt64) × (Nat → UInt64) × (Nat → UInt64) × (Nat → UInt64) × UInt64 × UInt64 × UInt64) : SL (settleL (v, r)) (settleL (v, r2)) := by
  refine ⟨rfl, fun i hi => ?_, rfl⟩
  have e0 : nv (upd v 8 (nI 0)) 0 = nv v 0 := nv_upd_ne (by decide)
  have hi : i ≤ nv (upd v 8 (nI 0)) 0 := hi
  rw [e0] at hi
  refine ⟨?_, ?_, ?_, ?_⟩
  · show fil r.1 (nv v 0 + 1) (stF v) i = fil r2.1 (nv v 0 + 1) (stF v) i; rw [fil_at _ _ (by omega), fil_at _ _ (by omega)]
  · show fil r.2.1 (nv v 0 + 1) (stB v) i = fil r2.2.1 (nv v 0 + 1) (stB v) i; rw [fil_at _ _ (by omega), fil_at _ _ (by omega)]
  · show fil r.2.2.1 (nv v 0 + 1) (stP v) i = fil r2.2.2.1 (nv v 0 + 1) (stP v) i; rw [fil_at _ _ (by omega), fil_at _ _ (by omega)]
  · show fil r.2.2.2.1 (nv v 0 + 1) (stP v) i = fil r2.2.2.2.1 (nv v 0 + 1) (stP v) i; rw [fil_at _ _ (by omega), fil_at _ _ (by omega)]
theorem widN_same {P Q : Nat → UInt64} {N : Nat} (hP : ∀ i, i ≤ N → P i = Q i) {e d : EnvT} (h1 : ∀ i, i ≤ N → e.1 i = d.1 i ∧ e.2.1 i = d.2.1 i) (h2 : e.2.2 = d.2.2) : ∀ k, k ≤ N + 1 → (∀ i, i ≤ N → (widN P k e).1 i = (widN Q k d).1 i ∧ (widN P k e).2.1 i = (widN Q k d).2.1 i) ∧ (widN P k e).2.2 = (widN Q k d).2.2
  | 0, _ => ⟨h1, h2⟩
  | k + 1, hk => by
    obtain ⟨a, b⟩ := widN_same hP h1 h2 k (by omega)
    have ek : widN P (k + 1) e = wid1 (P k) k (widN P k e) := rfl
    have dk : widN Q (k + 1) d = wid1 (Q k) k (widN Q k d) := rfl
    rw [ek, dk, hP k (by omega)]
    generalize widN P k e = E at a b
    generalize widN Q k d = D at a b
    obtain ⟨a1, a2⟩ := a k (by omega)
    have b1 : E.2.2.1 = D.2.2.1 := congrArg Prod.fst b
    have b2 : E.2.2.2 = D.2.2.2 := congrArg Prod.snd b
    unfold wid1
    rw [a1, a2, b1, b2]
    refine ⟨fun i hi => ⟨?_, ?_⟩, rfl⟩
    · dsimp only
      split
      · by_cases e : i = k
        · subst e; rw [vu_eq, vu_eq]
        · rw [vu_ne _ _ e, vu_ne _ _ e]; exact (a i hi).1
      · exact (a i hi).1
    · dsimp only
      split
      · by_cases e : i = k
        · subst e; rw [vu_eq, vu_eq]
        · rw [vu_ne _ _ e, vu_ne _ _ e]; exact (a i hi).2
      · exact (a i hi).2
theorem SL.widen {x y : LineSt} (h : SL x y) : SL (widenL x) (widenL y) := by
  obtain ⟨v, F, B, G, L, hi, lo, lev⟩ := x
  obtain ⟨v2, F2, B2, G2, L2, hi2, lo2, lev2⟩ := y
  obtain ⟨h1, h2, h3⟩ := h
  dsimp only at h1 h2 h3
  subst h1
  have k1 : hi = hi2 := congrArg Prod.fst h3
  have k2 : lo = lo2 := congrArg (fun z => z.2.1) h3
  have k3 : lev = lev2 := congrArg (fun z => z.2.2) h3
  subst k1 k2 k3
  have w := widN_same (N := nv v 0) (P := fun i => FP.dadd (F i) (B i)) (Q := fun i => FP.dadd (F2 i) (B2 i)) (fun i hi => by show FP.dadd (F i) (B i) = FP.dadd (F2 i) (B2 i); rw [(h2 i hi).1, (h2 i hi).2.1]) (e := (G, L, hi, lo)) (d := (G2, L2, hi, lo)) (fun i hi => ⟨(h2 i hi).2.2.1, (h2 i hi).2.2.2⟩) rfl (nv v 0 + 1) (Nat.le_refl _)
  refine ⟨rfl, fun i hi => ⟨(h2 i hi).1, (h2 i hi).2.1, (w.1 i hi).1, (w.1 i hi).2⟩, ?_⟩
  have w1 := congrArg Prod.fst w.2
  have w2 := congrArg Prod.snd w.2
  exact Prod.ext w1 (Prod.ext w2 rfl)
theorem SL.turns {x y : LineSt} (h : SL x y) (hN : 1 ≤ nv x.1 0) : SL (turnRightL (turnLeftL x)) (turnRightL (turnLeftL y)) := by
  obtain ⟨v, F, B, G, L, hi, lo, lev⟩ := x
  obtain ⟨v2, F2, B2, G2, L2, hi2, lo2, lev2⟩ := y
  obtain ⟨h1, h2, h3⟩ := h
  dsimp only at h1 h2 h3 hN
  subst h1
  have k1 : hi = hi2 := congrArg Prod.fst h3
  have k2 : lo = lo2 := congrArg (fun z => z.2.1) h3
  have k3 : lev = lev2 := congrArg (fun z => z.2.2) h3
  subst k1 k2 k3
  have eF : vf_upd F 0 (leftF v (B 0)) (nv v 0) = F (nv v 0) := vu_ne _ _ (by omega)
  have eF2 : vf_upd F2 0 (leftF v (B2 0)) (nv v 0) = F2 (nv v 0) := vu_ne _ _ (by omega)
  have n1 := (h2 (nv v 0) (Nat.le_refl _)).1
  have n0 := (h2 0 (Nat.zero_le _)).2.1
  refine ⟨rfl, fun i hi => ⟨?_, ?_, (h2 i hi).2.2.1, (h2 i hi).2.2.2⟩, ?_⟩
  · show vf_upd F 0 (leftF v (B 0)) i = vf_upd F2 0 (leftF v (B2 0)) i
    rw [n0]
    by_cases e : i = 0
    · subst e; rw [vu_eq, vu_eq]
    · rw [vu_ne _ _ e, vu_ne _ _ e]; exact (h2 i hi).1
  · show vf_upd B (nv v 0) (rightB v (vf_upd F 0 (leftF v (B 0)) (nv v 0)) lev) i = vf_upd B2 (nv v 0) (rightB v (vf_upd F2 0 (leftF v (B2 0)) (nv v 0)) lev) i
    rw [eF, eF2, n1]
    by_cases e : i = nv v 0
    · subst e; rw [vu_eq, vu_eq]
    · rw [vu_ne _ _ e, vu_ne _ _ e]; exact (h2 i hi).2.1
  · show (hi, lo, rightLev v (vf_upd F 0 (leftF v (B 0)) (nv v 0)) lev) = (hi, lo, rightLev v (vf_upd F2 0 (leftF v (B2 0)) (nv v 0)) lev)
    rw [eF, eF2, n1]
theorem SL.shift {x y : LineSt} (h : SL x y) : SL (shiftL (tickL x)) (shiftL (tickL y)) := by
  obtain ⟨v, F, B, G, L, t⟩ := x
  obtain ⟨v2, F2, B2, G2, L2, t2⟩ := y
  obtain ⟨h1, h2, h3⟩ := h
  dsimp only at h1 h2 h3
  subst h1 h3
  have e0 : nv (upd v 8 (v 8 + nI 1)) 0 = nv v 0 := nv_upd_ne (by decide)
  refine ⟨rfl, fun i hi => ?_, rfl⟩
  have hi : i ≤ nv (upd v 8 (v 8 + nI 1)) 0 := hi
  rw [e0] at hi
  refine ⟨?_, ?_, (h2 i hi).2.2.1, (h2 i hi).2.2.2⟩
  · show shF (nv (upd v 8 (v 8 + nI 1)) 0) 0 F i = shF (nv (upd v 8 (v 8 + nI 1)) 0) 0 F2 i
    simp only [shF]
    split
    · exact (h2 (i - 1) (by omega)).1
    · exact (h2 i hi).1
  · show shB (nv (upd v 8 (v 8 + nI 1)) 0) B i = shB (nv (upd v 8 (v 8 + nI 1)) 0) B2 i
    simp only [shB]
    split
    · rename_i q; rw [e0] at q; exact (h2 (i + 1) (by omega)).2.1
    · exact (h2 i hi).2.1
theorem SL.step {x y : LineSt} (h : SL x y) (hN : 1 ≤ nv x.1 0) : SL (stepL x) (stepL y) := by
  refine (SL.turns h.shift ?_).widen
  show 1 ≤ nv (upd x.1 8 (x.1 8 + nI 1)) 0
  rw [nv_upd_ne (by decide)]; exact hN
theorem SL.adv {x y : LineSt} (h : SL x y) (hN : 1 ≤ nv x.1 0) : ∀ n, SL (advL n x) (advL n y) ∧ nv (advL n x).1 0 = nv x.1 0
  | 0 => ⟨h, rfl⟩
  | n + 1 => by
    obtain ⟨a, b⟩ := SL.adv h hN n
    refine ⟨SL.step a (by omega), ?_⟩
    show nv (upd (advL n x).1 8 ((advL n x).1 8 + nI 1)) 0 = nv x.1 0
    rw [nv_upd_ne (by decide)]; exact b
/-- a trial's outcome asks nothing of what the spare held -/
theorem hi_any {v : Nat → Int32} {k t : Int32} (hv : VG (tryV v k t)) (m : Nat) (sp : LineSt) : (advL m (tryL v k t sp)).2.2.2.2.2.1 = hiT v k t m := by
  have h := (SL.adv (SL.settle (tryV v k t) sp.2 ln0.2) (by show 1 ≤ nv (upd (tryV v k t) 8 (nI 0)) 0; rw [nv_upd_ne (by decide)]; exact hv.n.2.1) m).1
  exact congrArg Prod.fst h.2.2
def okT (v : Nat → Int32) (b : Int32) (m k t : Nat) : Prop := ¬ zv (FP.i2d b) < zv (hiT v (nI k) (nI t) m)
theorem soon_eq {v : Nat → Int32} (hv : VG v) {k : Int32} (hk : okI 6 k) (b : Int32) (m : Nat) : ∀ (f t : Nat) (sp : LineSt), 1 ≤ t → t + f ≤ 61 → (soonN v k b m f t sp).1 = soonM v k b m f t
  | 0, _, _, _, _ => rfl
  | f + 1, t, sp, h1, h2 => by
    have e := stay_iff (FP.i2d b) m (tryL v k (nI t) sp)
    rw [hi_any (hv.try hk (okI7 h1 (by omega)))] at e
    by_cases h : zv (FP.i2d b) < zv (hiT v k (nI t) m)
    · rw [show soonN v k b m (f + 1) t sp = _ from if_pos (e.mpr h), show soonM v k b m (f + 1) t = _ from if_pos h]
      exact soon_eq hv hk b m f (t + 1) _ (by omega) (by omega)
    · rw [show soonN v k b m (f + 1) t sp = _ from if_neg (fun z => h (e.mp z)), show soonM v k b m (f + 1) t = _ from if_neg h]
theorem soonM_spec (v : Nat → Int32) (k : Nat) (b : Int32) (m : Nat) : ∀ (f t : Nat), (soonM v (nI k) b m f t = (-1) ∧ ∀ s, t ≤ s → s < t + f → ¬ okT v b m k s) ∨ (∃ s, soonM v (nI k) b m f t = nI s ∧ t ≤ s ∧ s < t + f ∧ okT v b m k s ∧ ∀ r, t ≤ r → r < s → ¬ okT v b m k r)
  | 0, t => Or.inl ⟨rfl, fun s h1 h2 => by omega⟩
  | f + 1, t => by
    by_cases h : zv (FP.i2d b) < zv (hiT v (nI k) (nI t) m)
    · rw [show soonM v (nI k) b m (f + 1) t = _ from if_pos h]
      rcases soonM_spec v k b m f (t + 1) with ⟨a, c⟩ | ⟨s, a, c, d, e, g⟩
      · refine Or.inl ⟨a, fun s h1 h2 => ?_⟩
        by_cases q : s = t
        · subst q; exact fun z => z h
        · exact c s (by omega) (by omega)
      · refine Or.inr ⟨s, a, by omega, by omega, e, fun r h1 h2 => ?_⟩
        by_cases q : r = t
        · subst q; exact fun z => z h
        · exact g r (by omega) h2
    · rw [show soonM v (nI k) b m (f + 1) t = _ from if_neg h]
      exact Or.inr ⟨t, rfl, Nat.le_refl _, by omega, h, fun r h1 h2 => by omega⟩
theorem bestN_spec {v : Nat → Int32} (hv : VG v) (b : Int32) (m : Nat) : ∀ (f n : Nat) (sp : LineSt), n + f ≤ 240 → ((bestN v b m f n sp).1 = none ∧ ∀ s, n ≤ s → s < n + f → ¬ okT v b m (1 + s % 4) (1 + s / 4)) ∨ (∃ s, (bestN v b m f n sp).1 = some s ∧ n ≤ s ∧ s < n + f ∧ okT v b m (1 + s % 4) (1 + s / 4) ∧ ∀ r, n ≤ r → r < s → ¬ okT v b m (1 + r % 4) (1 + r / 4))
  | 0, n, sp, _ => Or.inl ⟨rfl, fun s h1 h2 => by omega⟩
  | f + 1, n, sp, hn => by
    have e := stay_iff (FP.i2d b) m (tryL v (nI (1 + n % 4)) (nI (1 + n / 4)) sp)
    rw [hi_any (hv.try (okI6 (by omega)) (okI7 (by omega) (by omega)))] at e
    by_cases h : zv (FP.i2d b) < zv (hiT v (nI (1 + n % 4)) (nI (1 + n / 4)) m)
    · rw [show bestN v b m (f + 1) n sp = _ from if_pos (e.mpr h)]
      rcases bestN_spec hv b m f (n + 1) (stayN (FP.i2d b) m (tryL v (nI (1 + n % 4)) (nI (1 + n / 4)) sp)) (by omega) with ⟨a, c⟩ | ⟨s, a, c, d, e2, g⟩
      · refine Or.inl ⟨a, fun s h1 h2 => ?_⟩
        by_cases q : s = n
        · subst q; exact fun z => z h
        · exact c s (by omega) (by omega)
      · refine Or.inr ⟨s, a, by omega, by omega, e2, fun r h1 h2 => ?_⟩
        by_cases q : r = n
        · subst q; exact fun z => z h
        · exact g r (by omega) h2
    · rw [show bestN v b m (f + 1) n sp = _ from if_neg (fun z => h (e.mp z))]
      exact Or.inr ⟨n, rfl, Nat.le_refl _, by omega, h, fun r h1 h2 => by omega⟩
theorem nI_m1 {n : Nat} (h : n < 1000) : ¬ nI n = (-1) := fun z => by
  have := congrArg Int32.toInt z
  rw [nI_toInt (by omega)] at this
  have e : (-1 : Int32).toInt = -1 := rfl
  rw [e] at this
  omega
theorem bestM_spec (v : Nat → Int32) (b : Int32) (m : Nat) : ∀ (j : Nat), j ≤ 4 → (bestM v b m j = ((-1), (-1)) ∧ ∀ k t, 1 ≤ k → k ≤ j → 1 ≤ t → t ≤ 60 → ¬ okT v b m k t) ∨ (∃ k t, bestM v b m j = (nI k, nI t) ∧ 1 ≤ k ∧ k ≤ j ∧ 1 ≤ t ∧ t ≤ 60 ∧ okT v b m k t ∧ ∀ k2 t2, 1 ≤ k2 → k2 ≤ j → 1 ≤ t2 → t2 ≤ 60 → okT v b m k2 t2 → t < t2 ∨ (t = t2 ∧ k ≤ k2))
  | 0, _ => Or.inl ⟨rfl, fun k t h1 h2 => by omega⟩
  | j + 1, hj => by
    have ih := bestM_spec v b m j (by omega)
    rcases soonM_spec v (j + 1) b m 60 1 with ⟨a, c⟩ | ⟨s, a, c, d, e, g⟩
    · rw [show bestM v b m (j + 1) = _ from if_pos a]
      have no : ∀ t, 1 ≤ t → t ≤ 60 → ¬ okT v b m (j + 1) t := fun t h1 h2 => c t h1 (by omega)
      rcases ih with ⟨i1, i2⟩ | ⟨k, t, i1, i2, i3, i4, i5, i6, i7⟩
      · refine Or.inl ⟨i1, fun k t h1 h2 h3 h4 => ?_⟩
        by_cases q : k = j + 1
        · subst q; exact no t h3 h4
        · exact i2 k t h1 (by omega) h3 h4
      · refine Or.inr ⟨k, t, i1, i2, by omega, i4, i5, i6, fun k2 t2 h1 h2 h3 h4 h5 => ?_⟩
        by_cases q : k2 = j + 1
        · subst q; exact absurd h5 (no t2 h3 h4)
        · exact i7 k2 t2 h1 (by omega) h3 h4 h5
    · have an : ¬ soonM v (nI (j + 1)) b m 60 1 = (-1) := by rw [a]; exact nI_m1 (by omega)
      have low : ∀ t2, 1 ≤ t2 → t2 ≤ 60 → okT v b m (j + 1) t2 → s ≤ t2 := fun t2 h1 h2 h3 => by
        by_cases q : t2 < s
        · exact absurd h3 (g t2 h1 q)
        · omega
      rcases ih with ⟨i1, i2⟩ | ⟨k, t, i1, i2, i3, i4, i5, i6, i7⟩
      · rw [show bestM v b m (j + 1) = _ from (if_neg an).trans (if_pos (by rw [i1])), a]
        refine Or.inr ⟨j + 1, s, rfl, by omega, by omega, c, by omega, e, fun k2 t2 h1 h2 h3 h4 h5 => ?_⟩
        by_cases q : k2 = j + 1
        · subst q; have := low t2 h3 h4 h5; omega
        · exact absurd h5 (i2 k2 t2 h1 (by omega) h3 h4)
      · have tn : ¬ (bestM v b m j).2 = (-1) := by rw [i1]; exact nI_m1 (by omega)
        by_cases lt : s < t
        · have l2 : soonM v (nI (j + 1)) b m 60 1 < (bestM v b m j).2 := by rw [a, i1]; exact nI_lt lt (by omega)
          rw [show bestM v b m (j + 1) = _ from (if_neg an).trans ((if_neg tn).trans (if_pos l2)), a]
          refine Or.inr ⟨j + 1, s, rfl, by omega, by omega, c, by omega, e, fun k2 t2 h1 h2 h3 h4 h5 => ?_⟩
          by_cases q : k2 = j + 1
          · subst q; have := low t2 h3 h4 h5; omega
          · have := i7 k2 t2 h1 (by omega) h3 h4 h5; omega
        · have l2 : ¬ soonM v (nI (j + 1)) b m 60 1 < (bestM v b m j).2 := by rw [a, i1]; exact nI_nlt (by omega) (by omega)
          rw [show bestM v b m (j + 1) = _ from (if_neg an).trans ((if_neg tn).trans (if_neg l2)), i1]
          refine Or.inr ⟨k, t, rfl, i2, by omega, i4, i5, i6, fun k2 t2 h1 h2 h3 h4 h5 => ?_⟩
          by_cases q : k2 = j + 1
          · subst q; have := low t2 h3 h4 h5; omega
          · exact i7 k2 t2 h1 (by omega) h3 h4 h5
theorem best_eq {v : Nat → Int32} (hv : VG v) (b : Int32) (m w : Nat) (hw : w ≤ 1) (sp : LineSt) : bestA w (bestN v b m 240 0 sp).1 = if w = 0 then (bestM v b m 4).1 else (bestM v b m 4).2 := by
  rcases bestN_spec hv b m 240 0 sp (by decide) with ⟨a, c⟩ | ⟨s, a, -, d, e, g⟩
  · have no : ∀ k t, 1 ≤ k → k ≤ 4 → 1 ≤ t → t ≤ 60 → ¬ okT v b m k t := fun k t h1 h2 h3 h4 => by
      have := c (4 * (t - 1) + (k - 1)) (Nat.zero_le _) (by omega)
      rwa [show 1 + (4 * (t - 1) + (k - 1)) % 4 = k by omega, show 1 + (4 * (t - 1) + (k - 1)) / 4 = t by omega] at this
    rcases bestM_spec v b m 4 (by decide) with ⟨i1, -⟩ | ⟨k, t, i1, i2, i3, i4, i5, i6, -⟩
    · rw [a, i1]
      show (-1 : Int32) = _
      split <;> rfl
    · exact absurd i6 (no k t i2 i3 i4 i5)
  · rcases bestM_spec v b m 4 (by decide) with ⟨-, i2⟩ | ⟨k, t, i1, i2, i3, i4, i5, i6, i7⟩
    · exact absurd e (i2 _ _ (by omega) (by omega) (by omega) (by omega))
    · have h1 := i7 _ _ (by omega) (by omega) (by omega) (by omega) e
      have h2 : ¬ 4 * (t - 1) + (k - 1) < s := fun z => by
        have := g (4 * (t - 1) + (k - 1)) (Nat.zero_le _) z
        rw [show 1 + (4 * (t - 1) + (k - 1)) % 4 = k by omega, show 1 + (4 * (t - 1) + (k - 1)) / 4 = t by omega] at this
        exact this i6
      have ek : 1 + s % 4 = k := by omega
      have et : 1 + s / 4 = t := by omega
      rw [a, i1, ← ek, ← et]
      rfl
