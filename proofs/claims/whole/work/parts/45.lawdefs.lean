/-! THE LAW: both objects' cells side by side -/
theorem setAll_r : ∀ (A A2 pre post : va_W), A.length = A2.length → setAll (pre ++ (A ++ post)) (List.range' pre.length A.length) A2 = pre ++ (A2 ++ post)
  | [], [], pre, post, _ => rfl
  | [], _ :: _, _, _, h => by simp at h
  | _ :: _, [], _, _, h => by simp at h
  | a :: A, x :: A2, pre, post, h => by
    have ih := setAll_r A A2 (pre ++ [x]) post (by simpa using h)
    rw [List.length_cons, List.range'_succ]
    show setAll ((pre ++ (a :: (A ++ post))).set pre.length x) (List.range' (pre.length + 1) A.length) A2 = _
    rw [List.set_append_right _ _ (Nat.le_refl _), Nat.sub_self, List.set_cons_zero]
    rw [List.length_append, List.length_singleton, List.append_assoc] at ih
    exact ih.trans (by simp)
theorem sub_r : ∀ (A pre post : va_W), (List.range' pre.length A.length).map (fun i => (pre ++ (A ++ post))[i]?) = A.map some
  | [], _, _ => rfl
  | a :: A, pre, post => by
    have ih := sub_r A (pre ++ [a]) post
    rw [List.length_cons, List.range'_succ, List.map_cons, List.map_cons]
    rw [List.length_append, List.length_singleton, List.append_assoc] at ih
    refine congr (congrArg List.cons ?_) ih
    rw [List.getElem?_append_right (Nat.le_refl _), Nat.sub_self]; rfl
theorem rep_L {A A2 B : va_W} {n : Nat} (h1 : A.length = n) (h2 : A2.length = n) : rep (A ++ B) (List.range' 0 n) A2 = A2 ++ B := by
  subst h1
  rw [rep_eq (by rw [List.length_range', h2])]
  exact setAll_r A A2 [] B h2.symm
theorem sub_L {A B : va_W} {n : Nat} (h1 : A.length = n) : (List.range' 0 n).map (fun i => (A ++ B)[i]?) = A.map some := by
  subst h1; exact sub_r A [] B
theorem rep_R {A B B2 : va_W} {k n : Nat} (h0 : A.length = k) (h1 : B.length = n) (h2 : B2.length = n) : rep (A ++ B) (List.range' k n) B2 = A ++ B2 := by
  subst h0 h1
  rw [rep_eq (by rw [List.length_range', h2])]
  have := setAll_r B B2 A [] h2.symm
  rwa [List.append_nil, List.append_nil] at this
theorem sub_R {A B : va_W} {k n : Nat} (h0 : A.length = k) (h1 : B.length = n) : (List.range' k n).map (fun i => (A ++ B)[i]?) = B.map some := by
  subst h0 h1
  have := sub_r B A []
  rwa [List.append_nil] at this
/-- the two objects tell one state -/
def Rel (now : LineSt) (K : Nat → LineSt) (nw sts : Nat) (pg : PageSt) (wv : Nat → UInt64) (pa : Nat → Int32) (pw : Nat → UInt64) (tx : Nat → Int32) (len : Nat) : Prop :=
  LG now ∧ WR now wv ∧ PR K nw sts pa pw ∧ (∀ j, j < 4 → LG (K j)) ∧ nw < 4 ∧ sts ≤ 4 ∧ pg.2.1 ≤ 100 ∧ pg.1 = tx ∧ pg.2.1 = len ∧ (∀ p, p < len → ¬ tx p = (-1))
theorem Rel.kept {now x2 : LineSt} {K : Nat → LineSt} {nw sts : Nat} {pg : PageSt} {wv wv2 : Nat → UInt64} {pa : Nat → Int32} {pw : Nat → UInt64} {tx : Nat → Int32} {len : Nat} (h : Rel now K nw sts pg wv pa pw tx len) (h2 : LG x2) (h3 : WR x2 wv2) : Rel x2 (ringU K nw now) ((nw + 1) % 4) (stsU sts) pg wv2 (leaI pa sts now.1) (leaD pw sts wv) tx len := by
  obtain ⟨r1, r2, r3, r4, r5, r6, r7⟩ := h
  refine ⟨h2, h3, r3.leave (fun j _ => (r4 _ (Nat.mod_lt _ (by decide))).1.n.2.2) r2 r1.1.n.2.2 r6, fun j hj => ?_, Nat.mod_lt _ (by decide), ?_, r7⟩
  · unfold ringU
    by_cases e : j = (nw + 1) % 4
    · subst e; rw [vu_eq]; exact r1
    · rw [vu_ne _ _ e]; exact r4 j hj
  · unfold stsU; split <;> omega
theorem and31 (x : Int32) : ∃ c : Nat, c < 32 ∧ x &&& nI 31 = nI c := by
  refine ⟨x.toBitVec.toNat % 32, Nat.mod_lt _ (by decide), ?_⟩
  apply Int32.toBitVec_inj.mp
  apply BitVec.eq_of_toNat_eq
  have e : (nI 31).toBitVec.toNat = 31 := by decide
  rw [Int32.toBitVec_and, BitVec.toNat_and, e]
  have e2 : x.toBitVec.toNat &&& 31 = x.toBitVec.toNat % 32 := Nat.and_two_pow_sub_one_eq_mod _ 5
  rw [e2]
  have : x.toBitVec.toNat % 32 < 32 := Nat.mod_lt _ (by decide)
  generalize x.toBitVec.toNat % 32 = c at this
  show c = (Int32.ofNat c).toBitVec.toNat
  rw [show (Int32.ofNat c).toBitVec = BitVec.ofNat 32 c from rfl, BitVec.toNat_ofNat]
  exact (Nat.mod_eq_of_lt (by omega)).symm
theorem more_left {L p : Nat} (hL : L ≤ 2048) (hp : p ≤ 4096) (h : ¬ nI L - nI 4 < nI p) : p + 4 ≤ L := by
  by_cases q : p + 4 ≤ L
  · exact q
  · refine absurd ?_ h
    rw [Int32.lt_iff_toInt_lt, pk_sub_toInt (by omega) (by decide), nI_toInt (by omega)]
    omega
