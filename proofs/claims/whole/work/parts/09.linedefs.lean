/-! what the methods of a Line do to its parts -/
def nv (v : Nat → Int32) (i : Nat) : Nat := (v i).toNatClampNeg
/-- the nine numbers are as told -/
def VG (v : Nat → Int32) : Prop := (v 0 = nI (nv v 0) ∧ 1 ≤ nv v 0 ∧ nv v 0 ≤ 10) ∧ (v 1 = nI (nv v 1) ∧ nv v 1 ≤ 1000) ∧ (-100 ≤ (v 2).toInt ∧ (v 2).toInt ≤ 100) ∧ (v 3 = nI (nv v 3) ∧ 1 ≤ nv v 3 ∧ nv v 3 ≤ 99) ∧ (v 4 = nI (nv v 4) ∧ nv v 4 ≤ 1) ∧ (v 5 = nI (nv v 5) ∧ nv v 5 ≤ 3) ∧ (v 6 = nI (nv v 6) ∧ nv v 6 ≤ 5) ∧ (v 7 = nI (nv v 7) ∧ 1 ≤ nv v 7 ∧ nv v 7 ≤ 60) ∧ (v 8 = nI (nv v 8) ∧ nv v 8 ≤ 999)
theorem VG.n {v : Nat → Int32} (h : VG v) : v 0 = nI (nv v 0) ∧ 1 ≤ nv v 0 ∧ nv v 0 ≤ 10 := h.1
theorem VG.h {v : Nat → Int32} (h : VG v) : v 1 = nI (nv v 1) ∧ nv v 1 ≤ 1000 := h.2.1
theorem VG.q {v : Nat → Int32} (h : VG v) : -100 ≤ (v 2).toInt ∧ (v 2).toInt ≤ 100 := h.2.2.1
theorem VG.a {v : Nat → Int32} (h : VG v) : v 3 = nI (nv v 3) ∧ 1 ≤ nv v 3 ∧ nv v 3 ≤ 99 := h.2.2.2.1
theorem VG.lf {v : Nat → Int32} (h : VG v) : v 4 = nI (nv v 4) ∧ nv v 4 ≤ 1 := h.2.2.2.2.1
theorem VG.rt {v : Nat → Int32} (h : VG v) : v 5 = nI (nv v 5) ∧ nv v 5 ≤ 3 := h.2.2.2.2.2.1
theorem VG.k {v : Nat → Int32} (h : VG v) : v 6 = nI (nv v 6) ∧ nv v 6 ≤ 5 := h.2.2.2.2.2.2.1
theorem VG.t {v : Nat → Int32} (h : VG v) : v 7 = nI (nv v 7) ∧ 1 ≤ nv v 7 ∧ nv v 7 ≤ 60 := h.2.2.2.2.2.2.2.1
theorem VG.tm {v : Nat → Int32} (h : VG v) : v 8 = nI (nv v 8) ∧ nv v 8 ≤ 999 := h.2.2.2.2.2.2.2.2
theorem VG.bq {v : Nat → Int32} (h : VG v) : Bd 100 (FP.i2d (v 2)) := bd_i2d (n := 100) (by have := h.q; omega) (by have := h.q; omega)
theorem VG.bh {v : Nat → Int32} (h : VG v) : Bd 1000 (FP.i2d (v 1)) := by rw [h.h.1]; exact bd_nI h.h.2 (by decide)
/-- below i the one value, else as it was -/
def fil {α : Type} (F : Nat → α) (i : Nat) (x : α) : Nat → α := fun j => if j < i then x else F j
theorem fil_0 {α : Type} (F : Nat → α) (x : α) : fil F 0 x = F := by funext j; simp [fil]
theorem fil_s (F : Nat → UInt64) (i : Nat) (x : UInt64) : vf_upd (fil F i x) i x = fil F (i + 1) x := by
  funext j
  simp only [vf_upd, fil]
  by_cases h : j = i
  · rw [if_pos h, if_pos (by omega)]
  · rw [if_neg h]
    by_cases h2 : j < i
    · rw [if_pos h2, if_pos (by omega)]
    · rw [if_neg h2, if_neg (by omega)]
theorem fil_at {α : Type} (F : Nat → α) {i j : Nat} (x : α) (h : j < i) : fil F i x j = x := if_pos h
/-- steady: F, B and pressure by H and Q -/
def stF (v : Nat → Int32) : UInt64 := FP.ddiv (FP.dadd (FP.i2d (v 1)) (FP.i2d (v 2))) 4611686018427387904
def stB (v : Nat → Int32) : UInt64 := FP.ddiv (FP.dsub (FP.i2d (v 1)) (FP.i2d (v 2))) 4611686018427387904
def stP (v : Nat → Int32) : UInt64 := FP.dadd (stF v) (stB v)
def settleL (x : LineSt) : LineSt := (upd x.1 8 (nI 0), fil x.2.1 (nv x.1 0 + 1) (stF x.1), fil x.2.2.1 (nv x.1 0 + 1) (stB x.1), fil x.2.2.2.1 (nv x.1 0 + 1) (stP x.1), fil x.2.2.2.2.1 (nv x.1 0 + 1) (stP x.1), stP x.1, stP x.1, FP.i2d (x.1 1))
/-- the waves go on by one node -/
def shF (N i : Nat) (F : Nat → UInt64) : Nat → UInt64 := fun j => if i < j ∧ j ≤ N then F (j - 1) else F j
def shB (i : Nat) (B : Nat → UInt64) : Nat → UInt64 := fun j => if j < i then B (j + 1) else B j
theorem shF_N (N : Nat) (F : Nat → UInt64) : shF N N F = F := by
  funext j
  simp only [shF]
  rw [if_neg (by omega)]
theorem shF_s {N i : Nat} (F : Nat → UInt64) (h : i + 1 ≤ N) : vf_upd (shF N (i + 1) F) (i + 1) (shF N (i + 1) F i) = shF N i F := by
  funext j
  simp only [vf_upd, shF]
  rw [if_neg (show ¬ (i + 1 < i ∧ i ≤ N) by omega)]
  by_cases h1 : j = i + 1
  · subst h1
    rw [if_pos rfl, if_pos (by omega)]
    rfl
  · rw [if_neg h1]
    by_cases h2 : i + 1 < j ∧ j ≤ N
    · rw [if_pos h2, if_pos (by omega)]
    · rw [if_neg h2, if_neg (by omega)]
theorem shB_0 (B : Nat → UInt64) : shB 0 B = B := by funext j; simp [shB]
theorem shB_s (i : Nat) (B : Nat → UInt64) : vf_upd (shB i B) i (shB i B (i + 1)) = shB (i + 1) B := by
  funext j
  simp only [vf_upd, shB]
  rw [if_neg (show ¬ (i + 1 < i) by omega)]
  by_cases h1 : j = i
  · subst h1
    rw [if_pos rfl, if_pos (by omega)]
  · rw [if_neg h1]
    by_cases h2 : j < i
    · rw [if_pos h2, if_pos (by omega)]
    · rw [if_neg h2, if_neg (by omega)]
def shiftL (x : LineSt) : LineSt := (x.1, shF (nv x.1 0) 0 x.2.1, shB (nv x.1 0) x.2.2.1, x.2.2.2.1, x.2.2.2.2.1, x.2.2.2.2.2.1, x.2.2.2.2.2.2.1, x.2.2.2.2.2.2.2)
/-- the ends -/
def leftF (v : Nat → Int32) (b0 : UInt64) : UInt64 := if v 4 = 0 then FP.dsub (FP.i2d (v 1)) b0 else b0
def turnLeftL (x : LineSt) : LineSt := (x.1, vf_upd x.2.1 0 (leftF x.1 (x.2.2.1 0)), x.2.2.1, x.2.2.2.1, x.2.2.2.2.1, x.2.2.2.2.2.1, x.2.2.2.2.2.2.1, x.2.2.2.2.2.2.2)
def risen (lev inflow : UInt64) (A : Int32) : UInt64 := FP.dadd lev (FP.ddiv inflow (FP.i2d A))
def clampF (r : UInt64) : UInt64 := if zv 4666723172467343360 < zv r then 4666723172467343360 else if zv r < zv 13890095209322119168 then 13890095209322119168 else r
def rightB (v : Nat → Int32) (fN lev : UInt64) : UInt64 :=
  if nv v 5 = 0 then FP.dsub fN (letF (nv v 6) (nv v 7) (nv v 8) (v 2)) else if nv v 5 = 1 then FP.dsub (FP.i2d (v 1)) fN else if nv v 5 = 2 then fN else FP.dsub lev fN
def rightLev (v : Nat → Int32) (fN lev : UInt64) : UInt64 := if nv v 5 = 3 then clampF (risen lev (FP.dsub fN (FP.dsub lev fN)) (v 3)) else lev
def turnRightL (x : LineSt) : LineSt := (x.1, x.2.1, vf_upd x.2.2.1 (nv x.1 0) (rightB x.1 (x.2.1 (nv x.1 0)) x.2.2.2.2.2.2.2), x.2.2.2.1, x.2.2.2.2.1, x.2.2.2.2.2.1, x.2.2.2.2.2.2.1, rightLev x.1 (x.2.1 (nv x.1 0)) x.2.2.2.2.2.2.2)
/-- the envelopes: greater and lesser of two -/
def mx (a b : UInt64) : UInt64 := if zv b < zv a then a else b
def mn (a b : UInt64) : UInt64 := if zv a < zv b then a else b
/-- one node: (G, L, hi, lo) behind it -/
def wid1 (p : UInt64) (i : Nat) (e : (Nat → UInt64) × (Nat → UInt64) × UInt64 × UInt64) : (Nat → UInt64) × (Nat → UInt64) × UInt64 × UInt64 :=
  ((if zv (e.1 i) < zv p then vf_upd e.1 i p else e.1), (if zv p < zv (e.2.1 i) then vf_upd e.2.1 i p else e.2.1), (if zv (e.1 i) < zv p then mx p e.2.2.1 else e.2.2.1), (if zv p < zv (e.2.1 i) then mn p e.2.2.2 else e.2.2.2))
def widN (P : Nat → UInt64) : Nat → (Nat → UInt64) × (Nat → UInt64) × UInt64 × UInt64 → (Nat → UInt64) × (Nat → UInt64) × UInt64 × UInt64
  | 0, e => e
  | i + 1, e => wid1 (P i) i (widN P i e)
def widE (x : LineSt) : (Nat → UInt64) × (Nat → UInt64) × UInt64 × UInt64 := widN (fun i => FP.dadd (x.2.1 i) (x.2.2.1 i)) (nv x.1 0 + 1) (x.2.2.2.1, x.2.2.2.2.1, x.2.2.2.2.2.1, x.2.2.2.2.2.2.1)
def widenL (x : LineSt) : LineSt := (x.1, x.2.1, x.2.2.1, (widE x).1, (widE x).2.1, (widE x).2.2.1, (widE x).2.2.2, x.2.2.2.2.2.2.2)
def tickL (x : LineSt) : LineSt := (upd x.1 8 (x.1 8 + nI 1), x.2)
def stepL (x : LineSt) : LineSt := widenL (turnRightL (turnLeftL (shiftL (tickL x))))
def advL : Nat → LineSt → LineSt
  | 0, x => x
  | i + 1, x => stepL (advL i x)
def kept0 (F B : Nat → UInt64) : Nat → UInt64
  | 0 => 0
  | i + 1 => FP.dadd (kept0 F B i) (FP.dadd (FP.dmul (F i) (F i)) (FP.dmul (B i) (B i)))
