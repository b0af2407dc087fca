/-! the cells of a Line and what they hold; small bounds -/
abbrev LineSt : Type := (Nat → Int32) × (Nat → UInt64) × (Nat → UInt64) × (Nat → UInt64) × (Nat → UInt64) × UInt64 × UInt64 × UInt64
abbrev lineW (g : Glob) (a : Nat → Nat) (x : LineSt) : va_W :=
  [(a 0, .inr (0, [.ref (a 1), .ref (a 2), .ref (a 3), .ref (a 4), .ref (a 5), .double x.2.2.2.2.2.1, .double x.2.2.2.2.2.2.1, .double x.2.2.2.2.2.2.2])),
   (a 1, .inl (cI g, 9, .inl x.1)), (a 2, .inl (cD g, 11, .inr (.inr (.inr (.inl x.2.1))))), (a 3, .inl (cD g, 11, .inr (.inr (.inr (.inl x.2.2.1))))),
   (a 4, .inl (cD g, 11, .inr (.inr (.inr (.inl x.2.2.2.1))))), (a 5, .inl (cD g, 11, .inr (.inr (.inr (.inl x.2.2.2.2.1)))))]
theorem bdA {a b n : Nat} {x y : UInt64} (hx : Bd a x) (hy : Bd b y) (h : a + b ≤ n) (hn : n < 9007199254740992) : Bd n (FP.dadd x y) := (bd_add hx hy (Rp.small (Nat.lt_of_le_of_lt h hn))).mono h
theorem bdS {a b n : Nat} {x y : UInt64} (hx : Bd a x) (hy : Bd b y) (h : a + b ≤ n) (hn : n < 9007199254740992) : Bd n (FP.dsub x y) := (bd_sub hx hy (Rp.small (Nat.lt_of_le_of_lt h hn))).mono h
theorem bdM {a b n : Nat} {x y : UInt64} (hx : Bd a x) (hy : Bd b y) (h : a * b ≤ n) (hn : n < 9007199254740992) : Bd n (FP.dmul x y) := (bd_mul hx hy (Rp.small (Nat.lt_of_le_of_lt h hn))).mono h
theorem bdQ {a : Nat} {x y : UInt64} (hx : Bd a x) (hy : FP.Core.DFin y) (h1 : one ≤ (zv y).natAbs) (h : a < 9007199254740992) : Bd a (FP.ddiv x y) := bd_div hx hy h1 (Rp.small h)
theorem two_one : one ≤ (zv 4611686018427387904).natAbs := by
  have h : zv 4611686018427387904 = zv (FP.i2d 2) := by rw [show FP.i2d 2 = 4611686018427387904 by decide +kernel]
  rw [h]; exact i2d_one (by decide)
theorem two_fin : FP.Core.DFin 4611686018427387904 := by
  rw [← show FP.i2d 2 = 4611686018427387904 by decide +kernel]; exact FP.Core.i2d_fin 2
theorem bd_nI {n m : Nat} (h : n ≤ m) (hm : m < 2 ^ 31) : Bd m (FP.i2d (nI n)) := bd_i2d (by rw [nI_toInt (by omega)]; omega) (by rw [nI_toInt (by omega)]; omega)
theorem one_nI {n : Nat} (h : 1 ≤ n) (hm : n < 2 ^ 31) : one ≤ (zv (FP.i2d (nI n))).natAbs := i2d_one (by rw [nI_toInt hm]; omega)
theorem bI_t {b : Bool} (h : b = true) : (some (Value.int (nI 1))) = some (.int (bI b)) := by rw [h]; rfl
theorem bI_f {b : Bool} (h : b = false) : (some (Value.int (nI 0))) = some (.int (bI b)) := by rw [h]; rfl
theorem zero_fin : FP.Core.DFin 0 := ⟨false, 0, _, FP.Core.val64_zero⟩
theorem zero_bd (n : Nat) : Bd n 0 := ⟨zero_fin, by rw [show zv 0 = 0 from FP.Core.zval64_zero]; exact Nat.zero_le _⟩
theorem zero_nn : nn 0 := zero_fin.ne_nan
/-- does v fit where w says -/
def fitsB (w v : Int32) : Bool := if w < 0 then false else if nI 8 ≤ w then false else if v < sLO w.toNatClampNeg then false else if sHI w.toNatClampNeg < v then false else true
/-- what law k with T lets at a time -/
def letF (k T t : Nat) (q : Int32) : UInt64 :=
  if k = 1 then (if t < T then FP.i2d q else 0)
  else if k = 2 then (if t < T then FP.ddiv (FP.dmul (FP.i2d q) (FP.dsub (FP.i2d (nI T)) (FP.i2d (nI t)))) (FP.i2d (nI T)) else 0)
  else if k = 3 then (if t < T then FP.ddiv (FP.dmul (FP.i2d q) (FP.dsub (FP.dmul (FP.i2d (nI T)) (FP.i2d (nI T))) (FP.dmul (FP.i2d (nI t)) (FP.i2d (nI t))))) (FP.dmul (FP.i2d (nI T)) (FP.i2d (nI T))) else 0)
  else if k = 4 then (if t < T then FP.ddiv (FP.i2d q) 4611686018427387904 else 0)
  else if k = 5 then (if t / T % 2 = 0 then FP.i2d q else FP.ddiv (FP.i2d q) 4611686018427387904)
  else FP.i2d q
theorem sq_one {n : Nat} (h : 1 ≤ n) (hm : n ≤ 60) : one ≤ (zv (FP.dmul (FP.i2d (nI n)) (FP.i2d (nI n)))).natAbs := by
  have e : ∀ n : Fin 61, 1 ≤ n.val → FP.dmul (FP.i2d (nI n.val)) (FP.i2d (nI n.val)) = FP.i2d (nI (n.val * n.val)) := by decide +kernel
  rw [e ⟨n, by omega⟩ h]
  have h1 : n * n ≤ 60 * 60 := Nat.mul_le_mul hm hm
  exact one_nI (Nat.mul_pos h h) (by show n * n < _; omega)
theorem let_2a {T t : Nat} {q : Int32} (hq : Bd 100 (FP.i2d q)) (hT : T ≤ 60) (ht : t ≤ 9999) : Bd 10059 (FP.dsub (FP.i2d (nI T)) (FP.i2d (nI t))) := bdS (bd_nI hT (by decide)) (bd_nI ht (by decide)) (by decide) (by decide)
theorem let_2b {T t : Nat} {q : Int32} (hq : Bd 100 (FP.i2d q)) (hT : T ≤ 60) (h : t < T) : Bd 12000 (FP.dmul (FP.i2d q) (FP.dsub (FP.i2d (nI T)) (FP.i2d (nI t)))) := bdM hq (bdS (n := 120) (bd_nI hT (by decide)) (bd_nI (m := 60) (by omega) (by decide)) (by decide) (by decide)) (by decide) (by decide)
theorem let_2 {T t : Nat} {q : Int32} (hq : Bd 100 (FP.i2d q)) (hT : T ≤ 60) (h : t < T) : Bd 12000 (FP.ddiv (FP.dmul (FP.i2d q) (FP.dsub (FP.i2d (nI T)) (FP.i2d (nI t)))) (FP.i2d (nI T))) := bdQ (let_2b hq hT h) (FP.Core.i2d_fin _) (one_nI (by omega) (by omega)) (by decide)
theorem let_3s {n : Nat} (hT : n ≤ 60) : Bd 3600 (FP.dmul (FP.i2d (nI n)) (FP.i2d (nI n))) := bdM (bd_nI hT (by decide)) (bd_nI hT (by decide)) (by decide) (by decide)
theorem let_3a {T t : Nat} (hT : T ≤ 60) (h : t < T) : Bd 7200 (FP.dsub (FP.dmul (FP.i2d (nI T)) (FP.i2d (nI T))) (FP.dmul (FP.i2d (nI t)) (FP.i2d (nI t)))) := bdS (let_3s hT) (let_3s (by omega)) (by decide) (by decide)
theorem let_3b {T t : Nat} {q : Int32} (hq : Bd 100 (FP.i2d q)) (hT : T ≤ 60) (h : t < T) : Bd 720000 (FP.dmul (FP.i2d q) (FP.dsub (FP.dmul (FP.i2d (nI T)) (FP.i2d (nI T))) (FP.dmul (FP.i2d (nI t)) (FP.i2d (nI t))))) := bdM hq (let_3a hT h) (by decide) (by decide)
theorem let_3 {T t : Nat} {q : Int32} (hq : Bd 100 (FP.i2d q)) (hT : T ≤ 60) (h : t < T) : Bd 720000 (FP.ddiv (FP.dmul (FP.i2d q) (FP.dsub (FP.dmul (FP.i2d (nI T)) (FP.i2d (nI T))) (FP.dmul (FP.i2d (nI t)) (FP.i2d (nI t))))) (FP.dmul (FP.i2d (nI T)) (FP.i2d (nI T)))) := bdQ (let_3b hq hT h) (let_3s hT).fin (sq_one (by omega) hT) (by decide)
theorem let_4 {q : Int32} (hq : Bd 100 (FP.i2d q)) : Bd 100 (FP.ddiv (FP.i2d q) 4611686018427387904) := bdQ hq two_fin two_one (by decide)
theorem letF_bd {k T t : Nat} {q : Int32} (hq : Bd 100 (FP.i2d q)) (hT : T ≤ 60) : Bd 720000 (letF k T t q) := by
  unfold letF
  split
  · split
    · exact hq.mono (by decide)
    · exact zero_bd _
  · split
    · split
      · exact (let_2 hq hT ‹_›).mono (by decide)
      · exact zero_bd _
    · split
      · split
        · exact let_3 hq hT ‹_›
        · exact zero_bd _
      · split
        · split
          · exact (let_4 hq).mono (by decide)
          · exact zero_bd _
        · split
          · split
            · exact hq.mono (by decide)
            · exact (let_4 hq).mono (by decide)
          · exact hq.mono (by decide)
