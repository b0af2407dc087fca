/-! the Page's reading and the reference's are one -/
def NXo (tx : Nat → Int32) (len : Nat) (c : Int32) (s : Bool × PageSt) (e : Bool × Nat × Int32 × Int32) : Prop := s.1 = e.1 ∧ pPl s.2 = (if e.1 = true then skipP tx len e.2.1 else e.2.1) ∧ (e.1 = true → pLet s.2 = c ∧ pFst s.2 = e.2.2.1 ∧ (c = nI 119 → pSnd s.2 = e.2.2.2))
theorem nx_end (Y : PageSt) {f s c : Int32} (h1 : pLet Y = c) (h2 : pFst Y = f) (h3 : c = nI 119 → pSnd Y = s) : NXo Y.1 Y.2.1 c (endF (true, skipF Y)) (moE Y.1 Y.2.1 (pPl Y) f s) := by
  unfold moE
  by_cases h : hereP Y.1 Y.2.1 (skipP Y.1 Y.2.1 (pPl Y)) = nI 59
  · rw [if_pos h, show endF (true, skipF Y) = (true, skipF (setPl (skipF Y) (pPl (skipF Y) + 1))) from (if_pos rfl).trans (if_pos h)]
    exact ⟨rfl, rfl, fun _ => ⟨h1, h2, h3⟩⟩
  · rw [if_neg h, show endF (true, skipF Y) = (false, skipF Y) from (if_pos rfl).trans (if_neg h)]
    exact ⟨rfl, rfl, fun z => absurd z Bool.false_ne_true⟩
theorem dig_ne {h : Int32} (hd : wiB h (nI 48) (nI 57) = true) : ¬ h = nI 32 ∧ ¬ h = nI 59 := ⟨fun z => by rw [z] at hd; exact absurd hd (by decide), fun z => by rw [z] at hd; exact absurd hd (by decide)⟩
theorem end_dig (Y : PageSt) (c a b : Int32) (hd : wiB (pHere Y) (nI 48) (nI 57) = true) : NXo Y.1 Y.2.1 c (endF (true, skipF Y)) (false, pPl Y, a, b) := by
  have e : skipP Y.1 Y.2.1 (pPl Y) = pPl Y := skipP_no' (dig_ne hd).1
  have e2 : skipF Y = Y := by unfold skipF; rw [e]; rfl
  rw [e2, show endF (true, Y) = (false, Y) from (if_pos rfl).trans (if_neg (dig_ne hd).2)]
  exact ⟨rfl, rfl, fun z => absurd z Bool.false_ne_true⟩
theorem nx_false (tx : Nat → Int32) (len : Nat) (c : Int32) (Y : PageSt) (a b : Int32) : NXo tx len c (endF (false, Y)) (false, pPl Y, a, b) := by
  rw [show endF (false, Y) = (false, Y) from if_neg Bool.false_ne_true]
  exact ⟨rfl, rfl, fun z => absurd z Bool.false_ne_true⟩
theorem pnF_ff (tx : Nat → Int32) (len p : Nat) : pnF tx len p false = pnR tx len false (numN tx len 4 (skipP tx len p) (nI 0) 0) := if_neg (fun z => absurd z.1 (by decide))
/-- behind the first number -/
theorem nx_rest (X : PageSt) (hd : ¬ wiB (pHere X) (nI 48) (nI 57) = true) : NXo X.1 X.2.1 (pLet X) (endF (restF X)) (moS X.1 X.2.1 (pLet X) (true, pPl X, pFst X)) := by
  rw [show moS X.1 X.2.1 (pLet X) (true, pPl X, pFst X) = _ from if_pos rfl]
  unfold restF
  by_cases hc : pLet X = nI 119
  · rw [if_pos hc, if_pos hc]
    show NXo _ _ _ _ (if (pnF X.1 X.2.1 (pPl X) false).1 = true then moE X.1 X.2.1 (pnF X.1 X.2.1 (pPl X) false).2.1 (pFst X) (pnF X.1 X.2.1 (pPl X) false).2.2 else (false, (pnF X.1 X.2.1 (pPl X) false).2.1, 0, 0))
    rw [pnF_ff]
    by_cases hb : pHere X = nI 32
    · rw [if_pos hb]
      have et : takeNumberF (skipF X) = (decide (¬ (numN X.1 X.2.1 4 (skipP X.1 X.2.1 (pPl X)) (nI 0) 0).2.2 = 0), (X.1, X.2.1, X.2.2.1, X.2.2.2.1, X.2.2.2.2.1, X.2.2.2.2.2.1, (numN X.1 X.2.1 4 (skipP X.1 X.2.1 (pPl X)) (nI 0) 0).1, (numN X.1 X.2.1 4 (skipP X.1 X.2.1 (pPl X)) (nI 0) 0).2.1)) := rfl
      rw [et]
      generalize numN X.1 X.2.1 4 (skipP X.1 X.2.1 (pPl X)) (nI 0) 0 = r
      by_cases h0 : r.2.2 = 0
      · rw [show decide (¬ r.2.2 = 0) = false from decide_eq_false (fun z => z h0)]
        rw [show secF (false, (X.1, X.2.1, X.2.2.1, X.2.2.2.1, X.2.2.2.2.1, X.2.2.2.2.2.1, r.1, r.2.1)) = (false, (X.1, X.2.1, X.2.2.1, X.2.2.2.1, X.2.2.2.2.1, X.2.2.2.2.2.1, r.1, r.2.1)) from if_neg Bool.false_ne_true]
        rw [if_neg (show ¬ (pnR X.1 X.2.1 false r).1 = true from fun z => by rw [show (pnR X.1 X.2.1 false r).1 = false from if_pos h0] at z; exact absurd z Bool.false_ne_true)]
        exact nx_false ..
      · rw [show decide (¬ r.2.2 = 0) = true from decide_eq_true h0]
        rw [show secF (true, (X.1, X.2.1, X.2.2.1, X.2.2.2.1, X.2.2.2.2.1, X.2.2.2.2.2.1, r.1, r.2.1)) = (true, skipF (X.1, X.2.1, X.2.2.1, X.2.2.2.1, X.2.2.2.2.1, r.2.1, r.1, r.2.1)) from if_pos rfl]
        by_cases hg : wiB (hereP X.1 X.2.1 r.1) (nI 48) (nI 57) = true
        · rw [if_neg (show ¬ (pnR X.1 X.2.1 false r).1 = true from fun z => by rw [show (pnR X.1 X.2.1 false r).1 = false from (if_neg h0).trans (if_pos hg)] at z; exact absurd z Bool.false_ne_true)]
          exact end_dig (X.1, X.2.1, X.2.2.1, X.2.2.2.1, X.2.2.2.2.1, r.2.1, r.1, r.2.1) _ _ _ hg
        · rw [if_pos (show (pnR X.1 X.2.1 false r).1 = true from (if_neg h0).trans (if_neg hg))]
          exact nx_end (X.1, X.2.1, X.2.2.1, X.2.2.2.1, X.2.2.2.2.1, r.2.1, r.1, r.2.1) rfl rfl (fun _ => rfl)
    · rw [if_neg hb, skipP_no' hb, numN_stop 4 (nI 0) 0 hd]
      rw [if_neg (show ¬ (pnR X.1 X.2.1 false (pPl X, nI 0, 0)).1 = true from fun z => by rw [show (pnR X.1 X.2.1 false (pPl X, nI 0, 0)).1 = false from rfl] at z; exact absurd z Bool.false_ne_true)]
      exact nx_false ..
  · rw [if_neg hc, if_neg hc]
    exact nx_end X rfl rfl (fun z => absurd z hc)
theorem rest_dig (X : PageSt) (c : Int32) (hd : wiB (pHere X) (nI 48) (nI 57) = true) : NXo X.1 X.2.1 c (endF (restF X)) (false, pPl X, 0, 0) := by
  unfold restF
  by_cases hc : pLet X = nI 119
  · rw [if_pos hc, if_neg (dig_ne hd).1]; exact nx_false ..
  · rw [if_neg hc]; exact end_dig X _ _ _ hd
/-- behind the letter; m: a minus stands there -/
theorem nx_fir (A : PageSt) (m : Bool) (p : Nat) : NXo A.1 A.2.1 (pLet A) (endF (firF m (takeNumberF (setPl A p)))) (moS A.1 A.2.1 (pLet A) (pnR A.1 A.2.1 m (numN A.1 A.2.1 4 p (nI 0) 0))) := by
  have et : takeNumberF (setPl A p) = (decide (¬ (numN A.1 A.2.1 4 p (nI 0) 0).2.2 = 0), (A.1, A.2.1, A.2.2.1, A.2.2.2.1, A.2.2.2.2.1, A.2.2.2.2.2.1, (numN A.1 A.2.1 4 p (nI 0) 0).1, (numN A.1 A.2.1 4 p (nI 0) 0).2.1)) := rfl
  rw [et]
  generalize numN A.1 A.2.1 4 p (nI 0) 0 = r
  by_cases h0 : r.2.2 = 0
  · rw [show decide (¬ r.2.2 = 0) = false from decide_eq_false (fun z => z h0)]
    rw [show firF m (false, (A.1, A.2.1, A.2.2.1, A.2.2.2.1, A.2.2.2.2.1, A.2.2.2.2.2.1, r.1, r.2.1)) = (false, (A.1, A.2.1, A.2.2.1, A.2.2.2.1, A.2.2.2.2.1, A.2.2.2.2.2.1, r.1, r.2.1)) from if_neg Bool.false_ne_true]
    rw [show moS A.1 A.2.1 (pLet A) (pnR A.1 A.2.1 m r) = (false, r.1, 0, 0) from if_neg (fun z => by rw [show (pnR A.1 A.2.1 m r).1 = false from if_pos h0] at z; exact absurd z Bool.false_ne_true)]
    exact nx_false ..
  · rw [show decide (¬ r.2.2 = 0) = true from decide_eq_true h0]
    rw [show firF m (true, (A.1, A.2.1, A.2.2.1, A.2.2.2.1, A.2.2.2.2.1, A.2.2.2.2.2.1, r.1, r.2.1)) = restF (A.1, A.2.1, A.2.2.1, A.2.2.2.1, (if m = true then -r.2.1 else r.2.1), A.2.2.2.2.2.1, r.1, r.2.1) from if_pos rfl]
    by_cases hg : wiB (hereP A.1 A.2.1 r.1) (nI 48) (nI 57) = true
    · rw [show moS A.1 A.2.1 (pLet A) (pnR A.1 A.2.1 m r) = (false, r.1, 0, 0) from if_neg (fun z => by rw [show (pnR A.1 A.2.1 m r).1 = false from (if_neg h0).trans (if_pos hg)] at z; exact absurd z Bool.false_ne_true)]
      exact rest_dig (A.1, A.2.1, A.2.2.1, A.2.2.2.1, (if m = true then -r.2.1 else r.2.1), A.2.2.2.2.2.1, r.1, r.2.1) _ hg
    · rw [show pnR A.1 A.2.1 m r = (true, r.1, (if m = true then -r.2.1 else r.2.1)) from Prod.ext ((if_neg h0).trans (if_neg hg)) rfl]
      exact nx_rest (A.1, A.2.1, A.2.2.1, A.2.2.2.1, (if m = true then -r.2.1 else r.2.1), A.2.2.2.2.2.1, r.1, r.2.1) hg
theorem minus_eq (A : PageSt) : minusB A = true ↔ (mbB (pLet A) = true ∧ pHere A = nI 45) := by
  unfold minusB mbB
  by_cases h1 : pLet A = nI 104
  · rw [if_pos h1, if_pos h1]; simp
  · rw [if_neg h1, if_neg h1]
    by_cases h2 : pLet A = nI 113
    · rw [if_pos h2, if_pos h2]; simp
    · rw [if_neg h2, if_neg h2]; simp
theorem nx_takes (A : PageSt) (p0 : Nat) (hp : skipP A.1 A.2.1 p0 = pPl A) : NXo A.1 A.2.1 (pLet A) (endF (takeNumbersF A)) (moS A.1 A.2.1 (pLet A) (pnF A.1 A.2.1 p0 (mbB (pLet A)))) := by
  unfold takeNumbersF pnF
  rw [hp]
  by_cases h : minusB A = true
  · rw [if_pos h, if_pos ((minus_eq A).mp h), h]; exact nx_fir A true _
  · rw [if_neg h, if_neg (fun z => h ((minus_eq A).mpr z)), show minusB A = false from Bool.eq_false_iff.mpr h]; exact nx_fir A false _
/-- one order of the Page is one of the reference -/
theorem nx (P : PageSt) : NXo P.1 P.2.1 (hereP P.1 P.2.1 (skipP P.1 P.2.1 (pPl P))) (nextOrderF P) (moF P.1 P.2.1 (skipP P.1 P.2.1 (pPl P))) := by
  unfold nextOrderF nxtF moF
  by_cases h : letB (hereP P.1 P.2.1 (skipP P.1 P.2.1 (pPl P))) = true
  · rw [if_pos (show letB (pHere (skipF P)) = true from h), if_pos h]
    exact nx_takes (skipF (setPl (setLet (skipF P) (pHere (skipF P))) (skipP P.1 P.2.1 (pPl P) + 1))) (skipP P.1 P.2.1 (pPl P) + 1) rfl
  · rw [if_neg (show ¬ letB (pHere (skipF P)) = true from h), if_neg h]
    exact ⟨rfl, rfl, fun z => absurd z Bool.false_ne_true⟩
theorem nx_rows (P : PageSt) (h : PG P) : (nextOrderF P).2.1 = P.1 ∧ (nextOrderF P).2.2.1 = P.2.1 ∧ (nextOrderF P).2.2.2.1 = P.2.2.1 := (PG.next h).2.1
theorem skip_idem {tx : Nat → Int32} {len : Nat} : ∀ (n p : Nat), len - p ≤ n → skipP tx len (skipP tx len p) = skipP tx len p
  | 0, p, h => by rw [skipP_end (p := p) (by omega), skipP_end (by omega)]
  | n + 1, p, h => by
    by_cases h1 : len ≤ p
    · rw [skipP_end h1, skipP_end h1]
    · by_cases h2 : tx p = nI 32
      · rw [skipP_yes h1 h2]; exact skip_idem n (p + 1) (by omega)
      · rw [skipP_no h2, skipP_no h2]
/-- the search for a fault -/
theorem find_rd {tx : Nat → Int32} {len : Nat} : ∀ (f j : Nat) (Q : PageSt), PG Q → Q.1 = tx → Q.2.1 = len → pOrd Q = j → skipP tx len (pPl Q) = plc tx len j → (j = 0 ∨ pPl Q < len) →
    ((rdN tx len f j).1 = true → (faultN f Q).1 = (-1) ∧ (faultN f Q).2.2.2.1 = (rdN tx len f j).2) ∧ ((rdN tx len f j).1 = false → (faultN f Q).1 = nI (moF tx len (plc tx len (rdN tx len f j).2)).2.1)
  | 0, j, Q, _, _, _, ho, _, _ => ⟨fun _ => ⟨rfl, ho⟩, fun z => absurd z.symm Bool.false_ne_true⟩
  | f + 1, j, Q, hQ, ht, hl, ho, hp, hj => by
    have hn := nx Q
    rw [ht, hl, hp] at hn
    obtain ⟨n1, n2, -⟩ := hn
    have hr := nx_rows Q hQ
    have hQ2 := (PG.next hQ).1
    have e0 : ¬ (¬ pOrd Q = 0 ∧ pLen Q ≤ pPl Q) := by rw [ho]; show ¬ (¬ j = 0 ∧ Q.2.1 ≤ pPl Q); rw [hl]; omega
    rw [show faultN (f + 1) Q = _ from if_neg e0]
    by_cases hm : (moF tx len (plc tx len j)).1 = true
    · rw [if_pos (n1.trans hm)]
      rw [if_pos hm] at n2
      rw [show rdN tx len (f + 1) j = _ from if_pos hm]
      have eP : pPl (nextOrderF Q).2 = plc tx len (j + 1) := n2
      by_cases hE : len ≤ plc tx len (j + 1)
      · rw [if_pos hE]
        refine ⟨fun _ => ?_, fun z => absurd z.symm Bool.false_ne_true⟩
        have e1 : faultN f (setOrd (nextOrderF Q).2 (pOrd (nextOrderF Q).2 + 1)) = ((-1), setOrd (nextOrderF Q).2 (pOrd (nextOrderF Q).2 + 1)) := by
          cases f with
          | zero => rfl
          | succ f => exact if_pos ⟨Nat.succ_ne_zero _, by show (nextOrderF Q).2.2.1 ≤ pPl (nextOrderF Q).2; rw [hr.2.1, hl, eP]; exact hE⟩
        rw [e1]
        exact ⟨rfl, by show (nextOrderF Q).2.2.2.1 + 1 = j + 1; rw [hr.2.2]; exact congrArg (· + 1) ho⟩
      · rw [if_neg hE]
        refine find_rd f (j + 1) _ hQ2 (hr.1.trans ht) (hr.2.1.trans hl) ?_ ?_ (Or.inr ?_)
        · show (nextOrderF Q).2.2.2.1 + 1 = j + 1; rw [hr.2.2]; exact congrArg (· + 1) ho
        · show skipP tx len (pPl (nextOrderF Q).2) = plc tx len (j + 1); rw [eP]; exact skip_idem _ _ (Nat.le_refl _)
        · show pPl (nextOrderF Q).2 < len; rw [eP]; omega
    · rw [if_neg (fun z => hm (n1.symm.trans z))]
      rw [if_neg hm] at n2
      rw [show rdN tx len (f + 1) j = _ from if_neg hm]
      exact ⟨fun z => absurd z Bool.false_ne_true, fun _ => by show nI (pPl (nextOrderF Q).2) = _; rw [n2]⟩
theorem find_rdF {P : PageSt} (h : P.2.1 ≤ 100) : ((rdF P.1 P.2.1).1 = true → (findFaultF P).1 = (-1) ∧ (findFaultF P).2.2.2.1 = (rdF P.1 P.2.1).2) ∧ ((rdF P.1 P.2.1).1 = false → (findFaultF P).1 = nI (rdP P.1 P.2.1)) := by
  have k := find_rd (tx := P.1) (len := P.2.1) 100 0 (setOrd (setPl P 0) 0) ⟨h, Nat.zero_le _⟩ rfl rfl rfl rfl (Or.inl rfl)
  refine ⟨k.1, fun z => (k.2 z).trans ?_⟩
  unfold rdP
  rw [if_neg (fun q => by rw [z] at q; exact absurd q Bool.false_ne_true)]
  rfl
/-- what fits -/
theorem bool_iff {a b : Bool} (h : a = true ↔ b = true) : a = b := by cases a <;> cases b <;> simp_all
theorem pip_fits (u : Int32) : pipB u = fitsB (nI 0) u := bool_iff (wiB_iff.trans (fitsB_iff (w := 0) (by decide)).symm)
theorem set_fits {j : Nat} (hj : j ≤ 2) (u : Int32) : setB (nI j) u = fitsB (nI (1 + j)) u := by
  rcases (show j = 0 ∨ j = 1 ∨ j = 2 by omega) with rfl | rfl | rfl
  · exact bool_iff (wiB_iff.trans (fitsB_iff (w := 1) (by decide)).symm)
  · exact bool_iff (wiB_iff.trans (fitsB_iff (w := 2) (by decide)).symm)
  · exact bool_iff (wiB_iff.trans (fitsB_iff (w := 3) (by decide)).symm)
theorem end_fits {j : Nat} (hj : j ≤ 1) (u : Int32) : endB (nI j) u = fitsB (nI (4 + j)) u := by
  rcases (show j = 0 ∨ j = 1 by omega) with rfl | rfl
  · exact bool_iff (wiB_iff.trans (fitsB_iff (w := 4) (by decide)).symm)
  · exact bool_iff (wiB_iff.trans (fitsB_iff (w := 5) (by decide)).symm)
theorem law_fits (k t : Int32) : lawB k t = isLawB k t := by
  have e1 : wiB k (nI 0) (nI 5) = fitsB (nI 6) k := bool_iff (wiB_iff.trans (fitsB_iff (w := 6) (by decide)).symm)
  have e2 : wiB t (nI 1) (nI 60) = fitsB (nI 7) t := bool_iff (wiB_iff.trans (fitsB_iff (w := 7) (by decide)).symm)
  unfold lawB isLawB
  rw [e1, e2]
  split
  · split
    · assumption
    · exact Bool.eq_false_iff.mpr ‹_›
  · rfl
