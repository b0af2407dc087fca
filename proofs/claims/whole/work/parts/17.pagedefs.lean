/-! THE TEXT: what the methods of a Page do -/
abbrev PageSt : Type := (Nat → Int32) × Nat × Nat × Int32 × Int32 × Int32 × Nat × Int32
abbrev pageW (g : Glob) (a : Nat → Nat) (p : PageSt) : va_W :=
  [(a 0, .inr (1, [.ref (a 1), .int (nI p.2.1), .int (nI p.2.2.1), .int p.2.2.2.1, .int p.2.2.2.2.1, .int p.2.2.2.2.2.1, .int (nI p.2.2.2.2.2.2.1), .int p.2.2.2.2.2.2.2])), (a 1, .inl (cB g, 100, .inl p.1))]
def valN (c : Int32) : Int32 := if c = nI 112 then nI 0 else if c = nI 104 then nI 1 else if c = nI 113 then nI 2 else if c = nI 97 then nI 3 else if c = nI 108 then nI 4 else if c = nI 114 then nI 5 else (-1)
def hereP (tx : Nat → Int32) (len p : Nat) : Int32 := if len ≤ p then (-1) else tx p
def skipN (tx : Nat → Int32) (len : Nat) : Nat → Nat → Nat
  | 0, p => p
  | f + 1, p => if len ≤ p then p else if tx p = nI 32 then skipN tx len f (p + 1) else p
def skipP (tx : Nat → Int32) (len p : Nat) : Nat := skipN tx len (len - p) p
theorem skipP_end {tx : Nat → Int32} {len p : Nat} (h : len ≤ p) : skipP tx len p = p := by
  unfold skipP; rw [show len - p = 0 by omega]; rfl
theorem skipP_no {tx : Nat → Int32} {len p : Nat} (h : ¬ tx p = nI 32) : skipP tx len p = p := by
  unfold skipP
  cases len - p with
  | zero => rfl
  | succ f => simp only [skipN]; split <;> first | rfl | (rw [if_neg h])
theorem skipP_yes {tx : Nat → Int32} {len p : Nat} (h1 : ¬ len ≤ p) (h : tx p = nI 32) : skipP tx len p = skipP tx len (p + 1) := by
  unfold skipP
  rw [show len - p = (len - (p + 1)) + 1 by omega]
  simp only [skipN]
  rw [if_neg h1, if_pos h]
theorem skipN_le (tx : Nat → Int32) (len : Nat) : ∀ (f p : Nat), p ≤ len → p ≤ skipN tx len f p ∧ skipN tx len f p ≤ len
  | 0, p, h => ⟨Nat.le_refl _, h⟩
  | f + 1, p, h => by
    simp only [skipN]
    split
    · exact ⟨Nat.le_refl _, h⟩
    · split
      · have := skipN_le tx len f (p + 1) (by omega); omega
      · exact ⟨Nat.le_refl _, h⟩
theorem skipP_le {tx : Nat → Int32} {len p : Nat} (h : p ≤ len) : p ≤ skipP tx len p ∧ skipP tx len p ≤ len := skipN_le tx len _ p h
/-- up to f figures from p: (place, number, figures) -/
def numN (tx : Nat → Int32) (len : Nat) : Nat → Nat → Int32 → Nat → Nat × Int32 × Nat
  | 0, p, v, c => (p, v, c)
  | f + 1, p, v, c => if hereP tx len p < nI 48 then (p, v, c) else if nI 57 < hereP tx len p then (p, v, c) else numN tx len f (p + 1) (v * nI 10 + (hereP tx len p - nI 48)) (c + 1)
theorem here_lt {tx : Nat → Int32} {len p : Nat} (h : ¬ hereP tx len p < nI 48) : p < len := by
  unfold hereP at h
  split at h
  · exact absurd (by decide) h
  · omega
theorem numN_le (tx : Nat → Int32) (len : Nat) : ∀ (f p : Nat) (v : Int32) (c : Nat), p ≤ len → p ≤ (numN tx len f p v c).1 ∧ (numN tx len f p v c).1 ≤ len ∧ (numN tx len f p v c).2.2 ≤ c + f ∧ c ≤ (numN tx len f p v c).2.2
  | 0, p, v, c, h => ⟨Nat.le_refl _, h, Nat.le_add_right _ _, Nat.le_refl _⟩
  | f + 1, p, v, c, h => by
    simp only [numN]
    split
    · exact ⟨Nat.le_refl _, h, Nat.le_add_right _ _, Nat.le_refl _⟩
    · split
      · exact ⟨Nat.le_refl _, h, Nat.le_add_right _ _, Nat.le_refl _⟩
      · have := here_lt ‹_›
        have := numN_le tx len f (p + 1) (v * nI 10 + (hereP tx len p - nI 48)) (c + 1) (by omega)
        omega
abbrev pTx (P : PageSt) : Nat → Int32 := P.1
abbrev pLen (P : PageSt) : Nat := P.2.1
abbrev pOrd (P : PageSt) : Nat := P.2.2.1
abbrev pLet (P : PageSt) : Int32 := P.2.2.2.1
abbrev pFst (P : PageSt) : Int32 := P.2.2.2.2.1
abbrev pSnd (P : PageSt) : Int32 := P.2.2.2.2.2.1
abbrev pPl (P : PageSt) : Nat := P.2.2.2.2.2.2.1
abbrev pNum (P : PageSt) : Int32 := P.2.2.2.2.2.2.2
abbrev pHere (P : PageSt) : Int32 := hereP P.1 P.2.1 P.2.2.2.2.2.2.1
def setPl (P : PageSt) (p : Nat) : PageSt := (P.1, P.2.1, P.2.2.1, P.2.2.2.1, P.2.2.2.2.1, P.2.2.2.2.2.1, p, P.2.2.2.2.2.2.2)
def skipF (P : PageSt) : PageSt := setPl P (skipP P.1 P.2.1 (pPl P))
def takeNumberF (P : PageSt) : Bool × PageSt :=
  (decide (¬ (numN P.1 P.2.1 4 (pPl P) (nI 0) 0).2.2 = 0), (P.1, P.2.1, P.2.2.1, P.2.2.2.1, P.2.2.2.2.1, P.2.2.2.2.2.1, (numN P.1 P.2.1 4 (pPl P) (nI 0) 0).1, (numN P.1 P.2.1 4 (pPl P) (nI 0) 0).2.1))
def minusB (P : PageSt) : Bool := if pLet P = nI 104 then (if pHere P = nI 45 then true else false) else if pLet P = nI 113 then (if pHere P = nI 45 then true else false) else false
def setFst (P : PageSt) (x : Int32) : PageSt := (P.1, P.2.1, P.2.2.1, P.2.2.2.1, x, P.2.2.2.2.2.1, P.2.2.2.2.2.2.1, P.2.2.2.2.2.2.2)
def setSnd (P : PageSt) (x : Int32) : PageSt := (P.1, P.2.1, P.2.2.1, P.2.2.2.1, P.2.2.2.2.1, x, P.2.2.2.2.2.2.1, P.2.2.2.2.2.2.2)
def setLet (P : PageSt) (x : Int32) : PageSt := (P.1, P.2.1, P.2.2.1, x, P.2.2.2.2.1, P.2.2.2.2.2.1, P.2.2.2.2.2.2.1, P.2.2.2.2.2.2.2)
def setOrd (P : PageSt) (x : Nat) : PageSt := (P.1, P.2.1, x, P.2.2.2.1, P.2.2.2.2.1, P.2.2.2.2.2.1, P.2.2.2.2.2.2.1, P.2.2.2.2.2.2.2)
/-- behind the second number -/
def secF (r : Bool × PageSt) : Bool × PageSt := if r.1 = true then (true, skipF (setSnd r.2 (pNum r.2))) else (false, r.2)
/-- behind the first number: the second, if the order is a law's -/
def restF (P : PageSt) : Bool × PageSt := if pLet P = nI 119 then (if pHere P = nI 32 then secF (takeNumberF (skipF P)) else (false, P)) else (true, skipF P)
def firF (m : Bool) (r : Bool × PageSt) : Bool × PageSt := if r.1 = true then restF (setFst r.2 (if m = true then -(pNum r.2) else pNum r.2)) else (false, r.2)
def takeNumbersF (P : PageSt) : Bool × PageSt := firF (minusB P) (takeNumberF (setPl P (if minusB P = true then pPl P + 1 else pPl P)))
def letB (c : Int32) : Bool := if c = nI 119 then true else if c = nI 115 then true else if valN c = (-1) then false else true
/-- behind the numbers -/
def endF (r : Bool × PageSt) : Bool × PageSt := if r.1 = true then (if pHere r.2 = nI 59 then (true, skipF (setPl r.2 (pPl r.2 + 1))) else (false, r.2)) else (false, r.2)
def orderF (P : PageSt) : Bool × PageSt := endF (takeNumbersF (skipF (setPl P (pPl P + 1))))
def nxtF (P : PageSt) : Bool × PageSt := if letB (pHere P) = true then orderF (setLet P (pHere P)) else (false, setLet P (pHere P))
def nextOrderF (P : PageSt) : Bool × PageSt := nxtF (skipF P)
/-- the search for a fault, with f orders left -/
def faultN : Nat → PageSt → Int32 × PageSt
  | 0, P => ((-1), P)
  | f + 1, P => if ¬ pOrd P = 0 ∧ pLen P ≤ pPl P then ((-1), P) else if (nextOrderF P).1 = true then faultN f (setOrd (nextOrderF P).2 (pOrd (nextOrderF P).2 + 1)) else (nI (pPl (nextOrderF P).2), (nextOrderF P).2)
def findFaultF (P : PageSt) : Int32 × PageSt := faultN 100 (setOrd (setPl P 0) 0)
/-- the text stays, the place stays within it -/
def PG (P : PageSt) : Prop := pLen P ≤ 100 ∧ pPl P ≤ pLen P
def PK (P P' : PageSt) : Prop := P'.1 = P.1 ∧ P'.2.1 = P.2.1 ∧ P'.2.2.1 = P.2.2.1
theorem PK.rf (P : PageSt) : PK P P := ⟨rfl, rfl, rfl⟩
theorem PK.tr {P Q R : PageSt} (h : PK P Q) (k : PK Q R) : PK P R := ⟨k.1.trans h.1, k.2.1.trans h.2.1, k.2.2.trans h.2.2⟩
theorem PG.skip {P : PageSt} (h : PG P) : PG (skipF P) ∧ PK P (skipF P) ∧ pPl P ≤ pPl (skipF P) := ⟨⟨h.1, (skipP_le h.2).2⟩, ⟨rfl, rfl, rfl⟩, (skipP_le h.2).1⟩
theorem PG.take {P : PageSt} (h : PG P) : PG (takeNumberF P).2 ∧ PK P (takeNumberF P).2 ∧ pPl P ≤ pPl (takeNumberF P).2 := ⟨⟨h.1, (numN_le P.1 P.2.1 4 (pPl P) (nI 0) 0 h.2).2.1⟩, ⟨rfl, rfl, rfl⟩, (numN_le P.1 P.2.1 4 (pPl P) (nI 0) 0 h.2).1⟩
theorem here_in {tx : Nat → Int32} {len p : Nat} (h : ¬ hereP tx len p = (-1)) : p < len := by
  unfold hereP at h
  split at h
  · exact absurd rfl h
  · omega
theorem here_eq {tx : Nat → Int32} {len p : Nat} {c : Nat} (hc : c < 1000) (h : hereP tx len p = nI c) : p < len := here_in (by
  rw [h]
  intro q
  have := congrArg Int32.toInt q
  rw [nI_toInt (by omega)] at this
  have e : (-1 : Int32).toInt = -1 := rfl
  rw [e] at this
  omega)
theorem minusB_in {P : PageSt} (h : minusB P = true) : pPl P < pLen P := by
  unfold minusB at h
  split at h
  · split at h
    · exact here_eq (c := 45) (by decide) ‹_›
    · cases h
  · split at h
    · split at h
      · exact here_eq (c := 45) (by decide) ‹_›
      · cases h
    · cases h
theorem PG.minus {P : PageSt} (h : PG P) : PG (setPl P (if minusB P = true then pPl P + 1 else pPl P)) ∧ pPl P ≤ (if minusB P = true then pPl P + 1 else pPl P) := by
  split
  · exact ⟨⟨h.1, minusB_in ‹_›⟩, by omega⟩
  · exact ⟨h, Nat.le_refl _⟩
theorem PG.sec {P : PageSt} {r : Bool × PageSt} (h : PG r.2) (k : PK P r.2) (l : pPl P ≤ pPl r.2) : PG (secF r).2 ∧ PK P (secF r).2 ∧ pPl P ≤ pPl (secF r).2 := by
  unfold secF
  split
  · obtain ⟨c1, c2, c3⟩ := PG.skip (P := setSnd r.2 (pNum r.2)) h
    exact ⟨c1, k.tr ⟨c2.1, c2.2.1, c2.2.2⟩, Nat.le_trans l c3⟩
  · exact ⟨h, k, l⟩
theorem PG.rest {P : PageSt} (h : PG P) : PG (restF P).2 ∧ PK P (restF P).2 ∧ pPl P ≤ pPl (restF P).2 := by
  unfold restF
  split
  · split
    · obtain ⟨a1, a2, a3⟩ := h.skip
      obtain ⟨b1, b2, b3⟩ := PG.take a1
      exact PG.sec b1 (a2.tr b2) (Nat.le_trans a3 b3)
    · exact ⟨h, PK.rf P, Nat.le_refl _⟩
  · exact h.skip
theorem PG.fir {P : PageSt} {m : Bool} {r : Bool × PageSt} (h : PG r.2) (k : PK P r.2) (l : pPl P ≤ pPl r.2) : PG (firF m r).2 ∧ PK P (firF m r).2 ∧ pPl P ≤ pPl (firF m r).2 := by
  unfold firF
  split
  · generalize (if m = true then -(pNum r.2) else pNum r.2) = x
    obtain ⟨c1, c2, c3⟩ := PG.rest (P := setFst r.2 x) h
    exact ⟨c1, k.tr ⟨c2.1, c2.2.1, c2.2.2⟩, Nat.le_trans l c3⟩
  · exact ⟨h, k, l⟩
theorem PG.takes {P : PageSt} (h : PG P) : PG (takeNumbersF P).2 ∧ PK P (takeNumbersF P).2 ∧ pPl P ≤ pPl (takeNumbersF P).2 := by
  obtain ⟨m1, m2⟩ := h.minus
  obtain ⟨b1, b2, b3⟩ := PG.take m1
  exact PG.fir b1 ⟨b2.1, b2.2.1, b2.2.2⟩ (Nat.le_trans m2 b3)
theorem letB_in {P : PageSt} (h : letB (pHere P) = true) : pPl P < pLen P := by
  refine here_in (tx := P.1) fun q => ?_
  rw [show pHere P = -1 from q] at h
  exact absurd h (by decide)
theorem PG.end {P : PageSt} {r : Bool × PageSt} (h : PG r.2) (k : PK P r.2) (l : pPl P < pPl r.2) : PG (endF r).2 ∧ PK P (endF r).2 ∧ pPl P < pPl (endF r).2 ∧ ((endF r).1 = true → pPl P + 2 ≤ pPl (endF r).2) := by
  unfold endF
  split
  · split
    · have c0 : PG (setPl r.2 (pPl r.2 + 1)) := ⟨h.1, here_eq (tx := r.2.1) (c := 59) (by decide) ‹_›⟩
      obtain ⟨c1, c2, c3⟩ := PG.skip c0
      have c4 : pPl r.2 + 1 ≤ pPl (skipF (setPl r.2 (pPl r.2 + 1))) := c3
      exact ⟨c1, k.tr ⟨c2.1, c2.2.1, c2.2.2⟩, Nat.lt_of_lt_of_le l (Nat.le_of_succ_le c4), fun _ => Nat.le_trans (Nat.succ_le_succ l) c4⟩
    · exact ⟨h, k, l, fun q => by cases q⟩
  · exact ⟨h, k, l, fun q => by cases q⟩
theorem PG.order {P : PageSt} (h : PG P) (hin : pPl P < pLen P) : PG (orderF P).2 ∧ PK P (orderF P).2 ∧ pPl P < pPl (orderF P).2 ∧ ((orderF P).1 = true → pPl P + 2 ≤ pPl (orderF P).2) := by
  have h1 : PG (setPl P (pPl P + 1)) := ⟨h.1, hin⟩
  obtain ⟨a1, a2, a3⟩ := PG.skip h1
  obtain ⟨b1, b2, b3⟩ := PG.takes a1
  exact PG.end b1 (PK.tr (Q := setPl P (pPl P + 1)) ⟨rfl, rfl, rfl⟩ (PK.tr a2 b2)) (Nat.le_trans (show pPl P + 1 ≤ pPl (skipF (setPl P (pPl P + 1))) from a3) b3)
theorem PG.nxt {P : PageSt} (h : PG P) : PG (nxtF P).2 ∧ PK P (nxtF P).2 ∧ pPl P ≤ pPl (nxtF P).2 ∧ ((nxtF P).1 = true → pPl P + 2 ≤ pPl (nxtF P).2) := by
  unfold nxtF
  split
  · obtain ⟨b1, b2, b3, b4⟩ := PG.order (P := setLet P (pHere P)) h (letB_in ‹_›)
    exact ⟨b1, ⟨b2.1, b2.2.1, b2.2.2⟩, Nat.le_of_lt b3, b4⟩
  · exact ⟨h, PK.rf P, Nat.le_refl _, fun q => by cases q⟩
theorem PG.next {P : PageSt} (h : PG P) : PG (nextOrderF P).2 ∧ PK P (nextOrderF P).2 ∧ pPl P ≤ pPl (nextOrderF P).2 ∧ ((nextOrderF P).1 = true → pPl P + 2 ≤ pPl (nextOrderF P).2) := by
  obtain ⟨a1, a2, a3⟩ := h.skip
  obtain ⟨b1, b2, b3, b4⟩ := PG.nxt a1
  exact ⟨b1, a2.tr b2, Nat.le_trans a3 b3, fun q => Nat.le_trans (Nat.add_le_add_right a3 2) (b4 q)⟩
