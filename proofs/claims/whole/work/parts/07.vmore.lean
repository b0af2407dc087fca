/-! rows for whole numbers, booleans and doubles compared -/
theorem nI_inc (i c : Nat) : nI i + Int32.ofInt (c : Int) = nI (i + c) := by
  rw [← nI_add]
  congr 1
theorem nI_dec (i : Nat) : nI (i + 1) + Int32.ofInt (-1) = nI i := by
  have h : Int32.ofInt (-1) = -1 := rfl
  rw [h]
  exact pk_m1 i
def bI (b : Bool) : Int32 := if b then 1 else 0
theorem bI_nar (b : Bool) : narrow .boolean (.int (bI b)) = .int (bI b) := by cases b <;> rfl
theorem nI_inj {a b : Nat} (ha : a < 2 ^ 31) (hb : b < 2 ^ 31) (h : nI a = nI b) : a = b := (nI_eq ha hb).mp h
section VMORE
variable {g : Glob} {Γ : Ctx} {y : MethodName} {cc : ByteArray} {nL : Nat} {ret : Option FieldType} {rm : Room} {post : Option Value → va_W → Prop} {k n pc : Nat} {ws : va_W} {lv : List (Nat × Value)} {st : List Value}
theorem V_iaddN (ok : OK g Γ y cc nL ret rm post) {a b c : Nat} (hd : decode cc pc = .ok (.iadd, 1)) (hc : a + b = c) (kk : V g Γ nL k n (pc + 1) ws lv (.int (nI c) :: st)) : V g Γ nL k n pc ws lv (.int (nI b) :: .int (nI a) :: st) := V_iadd ok hd (by rw [nI_add, hc]; exact kk)
theorem V_isubN (ok : OK g Γ y cc nL ret rm post) {a b c : Nat} (hd : decode cc pc = .ok (.isub, 1)) (h : b ≤ a) (hc : a - b = c) (kk : V g Γ nL k n (pc + 1) ws lv (.int (nI c) :: st)) : V g Γ nL k n pc ws lv (.int (nI b) :: .int (nI a) :: st) := V_isub ok hd (by rw [pk_sub h, hc]; exact kk)
theorem V_imulN (ok : OK g Γ y cc nL ret rm post) {a b c : Nat} (hd : decode cc pc = .ok (.imul, 1)) (hc : a * b = c) (kk : V g Γ nL k n (pc + 1) ws lv (.int (nI c) :: st)) : V g Γ nL k n pc ws lv (.int (nI b) :: .int (nI a) :: st) := V_imul ok hd (by rw [pk_mul, hc]; exact kk)
theorem V_nm_nat {x : Int32} {a : Nat} (h : x = nI a) (kk : V g Γ nL k n pc ws lv (.int (nI a) :: st)) : V g Γ nL k n pc ws lv (.int x :: st) := h ▸ kk
theorem V_icmpN_ge (ok : OK g Γ y cc nL ret rm post) {a b : Nat} {off : Int} {tgt : Nat} (hd : decode cc pc = .ok (.if_icmp .ge off, 3)) (ht : (pc : Int) + off = (tgt : Int)) (ha : a < 2 ^ 31) (hb : b < 2 ^ 31) (kt : b ≤ a → V g Γ nL k n tgt ws lv st) (kf : ¬ b ≤ a → V g Γ nL k n (pc + 3) ws lv st) : V g Γ nL k n pc ws lv (.int (nI b) :: .int (nI a) :: st) := V_icmp_ge ok hd ht (fun h => kt ((nI_leI hb ha).mp h)) (fun h => kf (fun q => h ((nI_leI hb ha).mpr q)))
theorem V_icmpN_lt (ok : OK g Γ y cc nL ret rm post) {a b : Nat} {off : Int} {tgt : Nat} (hd : decode cc pc = .ok (.if_icmp .lt off, 3)) (ht : (pc : Int) + off = (tgt : Int)) (ha : a < 2 ^ 31) (hb : b < 2 ^ 31) (kt : a < b → V g Γ nL k n tgt ws lv st) (kf : ¬ a < b → V g Γ nL k n (pc + 3) ws lv st) : V g Γ nL k n pc ws lv (.int (nI b) :: .int (nI a) :: st) := V_icmp_lt ok hd ht (fun h => kt ((nI_ltI ha hb).mp h)) (fun h => kf (fun q => h ((nI_ltI ha hb).mpr q)))
theorem V_icmpN_gt (ok : OK g Γ y cc nL ret rm post) {a b : Nat} {off : Int} {tgt : Nat} (hd : decode cc pc = .ok (.if_icmp .gt off, 3)) (ht : (pc : Int) + off = (tgt : Int)) (ha : a < 2 ^ 31) (hb : b < 2 ^ 31) (kt : b < a → V g Γ nL k n tgt ws lv st) (kf : ¬ b < a → V g Γ nL k n (pc + 3) ws lv st) : V g Γ nL k n pc ws lv (.int (nI b) :: .int (nI a) :: st) := V_icmp_gt ok hd ht (fun h => kt ((nI_ltI hb ha).mp h)) (fun h => kf (fun q => h ((nI_ltI hb ha).mpr q)))
theorem V_icmpN_le (ok : OK g Γ y cc nL ret rm post) {a b : Nat} {off : Int} {tgt : Nat} (hd : decode cc pc = .ok (.if_icmp .le off, 3)) (ht : (pc : Int) + off = (tgt : Int)) (ha : a < 2 ^ 31) (hb : b < 2 ^ 31) (kt : a ≤ b → V g Γ nL k n tgt ws lv st) (kf : ¬ a ≤ b → V g Γ nL k n (pc + 3) ws lv st) : V g Γ nL k n pc ws lv (.int (nI b) :: .int (nI a) :: st) := V_icmp_le ok hd ht (fun h => kt ((nI_leI ha hb).mp h)) (fun h => kf (fun q => h ((nI_leI ha hb).mpr q)))
theorem V_icmpN_eq (ok : OK g Γ y cc nL ret rm post) {a b : Nat} {off : Int} {tgt : Nat} (hd : decode cc pc = .ok (.if_icmp .eq off, 3)) (ht : (pc : Int) + off = (tgt : Int)) (ha : a < 2 ^ 31) (hb : b < 2 ^ 31) (kt : a = b → V g Γ nL k n tgt ws lv st) (kf : ¬ a = b → V g Γ nL k n (pc + 3) ws lv st) : V g Γ nL k n pc ws lv (.int (nI b) :: .int (nI a) :: st) := V_icmp_eq ok hd ht (fun h => kt ((nI_eq ha hb).mp h)) (fun h => kf (fun q => h ((nI_eq ha hb).mpr q)))
theorem V_icmpN_ne (ok : OK g Γ y cc nL ret rm post) {a b : Nat} {off : Int} {tgt : Nat} (hd : decode cc pc = .ok (.if_icmp .ne off, 3)) (ht : (pc : Int) + off = (tgt : Int)) (ha : a < 2 ^ 31) (hb : b < 2 ^ 31) (kt : ¬ a = b → V g Γ nL k n tgt ws lv st) (kf : a = b → V g Γ nL k n (pc + 3) ws lv st) : V g Γ nL k n pc ws lv (.int (nI b) :: .int (nI a) :: st) := V_icmp_ne ok hd ht (fun h => kt (fun q => h ((nI_eq ha hb).mpr q))) (fun h => kf ((nI_eq ha hb).mp h))
theorem V_ifN_eq (ok : OK g Γ y cc nL ret rm post) {a : Nat} {off : Int} {tgt : Nat} (hd : decode cc pc = .ok (.ifCond .eq off, 3)) (ht : (pc : Int) + off = (tgt : Int)) (ha : a < 2 ^ 31) (kt : a = 0 → V g Γ nL k n tgt ws lv st) (kf : ¬ a = 0 → V g Γ nL k n (pc + 3) ws lv st) : V g Γ nL k n pc ws lv (.int (nI a) :: st) := V_if_eq ok hd ht (fun h => kt ((nI_eq ha (by decide)).mp (h.trans nI_0.symm))) (fun h => kf (fun q => h (by rw [q]; exact nI_0)))
theorem V_ifN_ne (ok : OK g Γ y cc nL ret rm post) {a : Nat} {off : Int} {tgt : Nat} (hd : decode cc pc = .ok (.ifCond .ne off, 3)) (ht : (pc : Int) + off = (tgt : Int)) (ha : a < 2 ^ 31) (kt : ¬ a = 0 → V g Γ nL k n tgt ws lv st) (kf : a = 0 → V g Γ nL k n (pc + 3) ws lv st) : V g Γ nL k n pc ws lv (.int (nI a) :: st) := V_if_ne ok hd ht (fun h => kt (fun q => h (by rw [q]; exact nI_0))) (fun h => kf ((nI_eq ha (by decide)).mp (h.trans nI_0.symm)))
theorem V_ifN_le (ok : OK g Γ y cc nL ret rm post) {a : Nat} {off : Int} {tgt : Nat} (hd : decode cc pc = .ok (.ifCond .le off, 3)) (ht : (pc : Int) + off = (tgt : Int)) (ha : a < 2 ^ 31) (kt : a = 0 → V g Γ nL k n tgt ws lv st) (kf : ¬ a = 0 → V g Γ nL k n (pc + 3) ws lv st) : V g Γ nL k n pc ws lv (.int (nI a) :: st) := V_if_le ok hd ht (fun h => kt (by have := (nI_leI ha (b := 0) (by decide)).mp (by rw [nI_0]; exact h); omega)) (fun h => kf (fun q => h (by rw [q, nI_0]; decide)))
theorem V_ifN_lt (ok : OK g Γ y cc nL ret rm post) {a : Nat} {off : Int} {tgt : Nat} (hd : decode cc pc = .ok (.ifCond .lt off, 3)) (ht : (pc : Int) + off = (tgt : Int)) (ha : a < 2 ^ 31) (kf : V g Γ nL k n (pc + 3) ws lv st) : V g Γ nL k n pc ws lv (.int (nI a) :: st) := V_if_lt ok hd ht (fun h => absurd h (nI_pos ha)) (fun _ => kf)
theorem V_ifN_ge (ok : OK g Γ y cc nL ret rm post) {a : Nat} {off : Int} {tgt : Nat} (hd : decode cc pc = .ok (.ifCond .ge off, 3)) (ht : (pc : Int) + off = (tgt : Int)) (ha : a < 2 ^ 31) (kt : V g Γ nL k n tgt ws lv st) : V g Γ nL k n pc ws lv (.int (nI a) :: st) := V_if_ge ok hd ht (fun _ => kt) (fun h => absurd (nI_pos' ha) h)
theorem V_ifN_gt (ok : OK g Γ y cc nL ret rm post) {a : Nat} {off : Int} {tgt : Nat} (hd : decode cc pc = .ok (.ifCond .gt off, 3)) (ht : (pc : Int) + off = (tgt : Int)) (ha : a < 2 ^ 31) (kt : ¬ a = 0 → V g Γ nL k n tgt ws lv st) (kf : a = 0 → V g Γ nL k n (pc + 3) ws lv st) : V g Γ nL k n pc ws lv (.int (nI a) :: st) := V_if_gt ok hd ht (fun h => kt (fun q => by rw [q, nI_0] at h; exact absurd h (by decide))) (fun h => kf (by
  rcases Nat.eq_zero_or_pos a with q | q
  · exact q
  · exact absurd (by rw [← nI_0]; exact nI_lt q ha) h))
theorem V_ifB_eq (ok : OK g Γ y cc nL ret rm post) {b : Bool} {off : Int} {tgt : Nat} (hd : decode cc pc = .ok (.ifCond .eq off, 3)) (ht : (pc : Int) + off = (tgt : Int)) (kt : ¬ b = true → V g Γ nL k n tgt ws lv st) (kf : b = true → V g Γ nL k n (pc + 3) ws lv st) : V g Γ nL k n pc ws lv (.int (bI b) :: st) := V_if_eq ok hd ht (fun h => kt (fun q => by rw [q] at h; exact absurd h (by decide))) (fun h => kf (by cases b <;> first | rfl | exact absurd rfl h))
theorem V_ifB_ne (ok : OK g Γ y cc nL ret rm post) {b : Bool} {off : Int} {tgt : Nat} (hd : decode cc pc = .ok (.ifCond .ne off, 3)) (ht : (pc : Int) + off = (tgt : Int)) (kt : b = true → V g Γ nL k n tgt ws lv st) (kf : ¬ b = true → V g Γ nL k n (pc + 3) ws lv st) : V g Γ nL k n pc ws lv (.int (bI b) :: st) := V_if_ne ok hd ht (fun h => kt (by cases b <;> first | rfl | exact absurd rfl h)) (fun h => kf (fun q => by rw [q] at h; exact absurd h (by decide)))
theorem V_dle (ok : OK g Γ y cc nL ret rm post) {a b : UInt64} {off : Int} {tgt : Nat} (hd : decode cc pc = .ok (.dcmp .l, 1)) (hd2 : decode cc (pc + 1) = .ok (.ifCond .le off, 3)) (ht : ((pc + 1 : Nat) : Int) + off = (tgt : Int)) (na : nn a) (nb : nn b) (kt : ¬ zv b < zv a → V g Γ nL k n tgt ws lv st) (kf : zv b < zv a → V g Γ nL k n (pc + 4) ws lv st) : V g Γ nL k n pc ws lv (.double b :: .double a :: st) := by
  refine V_dcmp ok hd ?_
  rw [cmp_z na nb]
  refine V_if_le ok hd2 ht (fun h => kt fun q => ?_) (fun h => kf ?_)
  · rw [if_neg (by omega), if_neg (by omega)] at h; exact absurd h (by decide)
  · rcases Int.lt_trichotomy (zv a) (zv b) with q | q | q
    · rw [if_pos q] at h; exact absurd (by decide) h
    · rw [if_neg (by omega), if_pos q] at h; exact absurd (by decide) h
    · exact q
theorem V_dge (ok : OK g Γ y cc nL ret rm post) {a b : UInt64} {off : Int} {tgt : Nat} (hd : decode cc pc = .ok (.dcmp .g, 1)) (hd2 : decode cc (pc + 1) = .ok (.ifCond .ge off, 3)) (ht : ((pc + 1 : Nat) : Int) + off = (tgt : Int)) (na : nn a) (nb : nn b) (kt : ¬ zv a < zv b → V g Γ nL k n tgt ws lv st) (kf : zv a < zv b → V g Γ nL k n (pc + 4) ws lv st) : V g Γ nL k n pc ws lv (.double b :: .double a :: st) := by
  refine V_dcmp ok hd ?_
  rw [cmp_z na nb]
  refine V_if_ge ok hd2 ht (fun h => kt fun q => ?_) (fun h => kf ?_)
  · rw [if_pos q] at h; exact absurd h (by decide)
  · rcases Int.lt_trichotomy (zv a) (zv b) with q | q | q
    · exact q
    · rw [if_neg (by omega), if_pos q] at h; exact absurd (by decide) h
    · rw [if_neg (by omega), if_neg (by omega)] at h; exact absurd (by decide) h
theorem V_dgt (ok : OK g Γ y cc nL ret rm post) {a b : UInt64} {off : Int} {tgt : Nat} (hd : decode cc pc = .ok (.dcmp .g, 1)) (hd2 : decode cc (pc + 1) = .ok (.ifCond .gt off, 3)) (ht : ((pc + 1 : Nat) : Int) + off = (tgt : Int)) (na : nn a) (nb : nn b) (kt : zv b < zv a → V g Γ nL k n tgt ws lv st) (kf : ¬ zv b < zv a → V g Γ nL k n (pc + 4) ws lv st) : V g Γ nL k n pc ws lv (.double b :: .double a :: st) := by
  refine V_dcmp ok hd ?_
  rw [cmp_z na nb]
  refine V_if_gt ok hd2 ht (fun h => kt ?_) (fun h => kf fun q => ?_)
  · rcases Int.lt_trichotomy (zv a) (zv b) with q | q | q
    · rw [if_pos q] at h; exact absurd h (by decide)
    · rw [if_neg (by omega), if_pos q] at h; exact absurd h (by decide)
    · exact q
  · rw [if_neg (by omega), if_neg (by omega)] at h; exact absurd (by decide) h
theorem V_dne (ok : OK g Γ y cc nL ret rm post) {a b : UInt64} {off : Int} {tgt : Nat} (hd : decode cc pc = .ok (.dcmp .l, 1)) (hd2 : decode cc (pc + 1) = .ok (.ifCond .ne off, 3)) (ht : ((pc + 1 : Nat) : Int) + off = (tgt : Int)) (na : nn a) (nb : nn b) (kt : ¬ zv a = zv b → V g Γ nL k n tgt ws lv st) (kf : zv a = zv b → V g Γ nL k n (pc + 4) ws lv st) : V g Γ nL k n pc ws lv (.double b :: .double a :: st) := by
  refine V_dcmp ok hd ?_
  rw [cmp_z na nb]
  refine V_if_ne ok hd2 ht (fun h => kt fun q => ?_) (fun h => kf ?_)
  · rw [if_neg (by omega), if_pos q] at h; exact absurd rfl h
  · rcases Int.lt_trichotomy (zv a) (zv b) with q | q | q
    · rw [if_pos q] at h; exact absurd h (by decide)
    · exact q
    · rw [if_neg (by omega), if_neg (by omega)] at h; exact absurd h (by decide)
theorem V_deq (ok : OK g Γ y cc nL ret rm post) {a b : UInt64} {off : Int} {tgt : Nat} (hd : decode cc pc = .ok (.dcmp .l, 1)) (hd2 : decode cc (pc + 1) = .ok (.ifCond .eq off, 3)) (ht : ((pc + 1 : Nat) : Int) + off = (tgt : Int)) (na : nn a) (nb : nn b) (kt : zv a = zv b → V g Γ nL k n tgt ws lv st) (kf : ¬ zv a = zv b → V g Γ nL k n (pc + 4) ws lv st) : V g Γ nL k n pc ws lv (.double b :: .double a :: st) := by
  refine V_dcmp ok hd ?_
  rw [cmp_z na nb]
  refine V_if_eq ok hd2 ht (fun h => kt ?_) (fun h => kf fun q => ?_)
  · rcases Int.lt_trichotomy (zv a) (zv b) with q | q | q
    · rw [if_pos q] at h; exact absurd h (by decide)
    · exact q
    · rw [if_neg (by omega), if_neg (by omega)] at h; exact absurd h (by decide)
  · rw [if_neg (by omega), if_pos q] at h; exact absurd rfl h
end VMORE
theorem yok_X2_init : yOK yX2_init 0 := by decide +kernel
theorem ypl_X2_init : plainName yX2_init.cls = true := by decide +kernel
theorem yok_X0_init : yOK yX0_init 0 := by decide +kernel
theorem ypl_X0_init : plainName yX0_init.cls = true := by decide +kernel
theorem yok_X0_settle : yOK yX0_settle 0 := by decide +kernel
theorem ypl_X0_settle : plainName yX0_settle.cls = true := by decide +kernel
theorem yok_X0_pressure : yOK yX0_pressure 1 := by decide +kernel
theorem ypl_X0_pressure : plainName yX0_pressure.cls = true := by decide +kernel
theorem yok_X1_init : yOK yX1_init 0 := by decide +kernel
theorem ypl_X1_init : plainName yX1_init.cls = true := by decide +kernel
theorem yok_X2_pipe : yOK yX2_pipe 1 := by decide +kernel
theorem ypl_X2_pipe : plainName yX2_pipe.cls = true := by decide +kernel
theorem yok_X2_change : yOK yX2_change 2 := by decide +kernel
theorem ypl_X2_change : plainName yX2_change.cls = true := by decide +kernel
theorem yok_X0_fits : yOK yX0_fits 2 := by decide +kernel
theorem ypl_X0_fits : plainName yX0_fits.cls = true := by decide +kernel
theorem yok_X2_refuse : yOK yX2_refuse 1 := by decide +kernel
theorem ypl_X2_refuse : plainName yX2_refuse.cls = true := by decide +kernel
theorem yok_X2_keep : yOK yX2_keep 1 := by decide +kernel
theorem ypl_X2_keep : plainName yX2_keep.cls = true := by decide +kernel
theorem yok_X0_copyFrom : yOK yX0_copyFrom 1 := by decide +kernel
theorem ypl_X0_copyFrom : plainName yX0_copyFrom.cls = true := by decide +kernel
theorem yok_X0_put : yOK yX0_put 2 := by decide +kernel
theorem ypl_X0_put : plainName yX0_put.cls = true := by decide +kernel
theorem yok_X2_sets : yOK yX2_sets 2 := by decide +kernel
theorem ypl_X2_sets : plainName yX2_sets.cls = true := by decide +kernel
theorem yok_X2_ends : yOK yX2_ends 2 := by decide +kernel
theorem ypl_X2_ends : plainName yX2_ends.cls = true := by decide +kernel
theorem yok_X2_law : yOK yX2_law 2 := by decide +kernel
theorem ypl_X2_law : plainName yX2_law.cls = true := by decide +kernel
theorem yok_X0_isLaw : yOK yX0_isLaw 2 := by decide +kernel
theorem ypl_X0_isLaw : plainName yX0_isLaw.cls = true := by decide +kernel
theorem yok_X0_govern : yOK yX0_govern 2 := by decide +kernel
theorem ypl_X0_govern : plainName yX0_govern.cls = true := by decide +kernel
theorem yok_X2_steady : yOK yX2_steady 0 := by decide +kernel
theorem ypl_X2_steady : plainName yX2_steady.cls = true := by decide +kernel
theorem yok_X2_steps : yOK yX2_steps 1 := by decide +kernel
theorem ypl_X2_steps : plainName yX2_steps.cls = true := by decide +kernel
theorem yok_X2_isStepCount : yOK yX2_isStepCount 1 := by decide +kernel
theorem ypl_X2_isStepCount : plainName yX2_isStepCount.cls = true := by decide +kernel
theorem yok_X2_hasTimeFor : yOK yX2_hasTimeFor 1 := by decide +kernel
theorem ypl_X2_hasTimeFor : plainName yX2_hasTimeFor.cls = true := by decide +kernel
theorem yok_X0_advance : yOK yX0_advance 1 := by decide +kernel
theorem ypl_X0_advance : plainName yX0_advance.cls = true := by decide +kernel
theorem yok_X0_shift : yOK yX0_shift 0 := by decide +kernel
theorem ypl_X0_shift : plainName yX0_shift.cls = true := by decide +kernel
theorem yok_X0_turnLeft : yOK yX0_turnLeft 0 := by decide +kernel
theorem ypl_X0_turnLeft : plainName yX0_turnLeft.cls = true := by decide +kernel
theorem yok_X0_turnRight : yOK yX0_turnRight 0 := by decide +kernel
theorem ypl_X0_turnRight : plainName yX0_turnRight.cls = true := by decide +kernel
theorem yok_X0_letBy : yOK yX0_letBy 4 := by decide +kernel
theorem ypl_X0_letBy : plainName yX0_letBy.cls = true := by decide +kernel
theorem yok_X0_fillTank : yOK yX0_fillTank 1 := by decide +kernel
theorem ypl_X0_fillTank : plainName yX0_fillTank.cls = true := by decide +kernel
theorem yok_X0_widenEnvelopes : yOK yX0_widenEnvelopes 0 := by decide +kernel
theorem ypl_X0_widenEnvelopes : plainName yX0_widenEnvelopes.cls = true := by decide +kernel
theorem yok_X2_node : yOK yX2_node 2 := by decide +kernel
theorem ypl_X2_node : plainName yX2_node.cls = true := by decide +kernel
theorem yok_X0_hasNode : yOK yX0_hasNode 1 := by decide +kernel
theorem ypl_X0_hasNode : plainName yX0_hasNode.cls = true := by decide +kernel
theorem yok_X2_refuseLong : yOK yX2_refuseLong 0 := by decide +kernel
theorem ypl_X2_refuseLong : plainName yX2_refuseLong.cls = true := by decide +kernel
theorem yok_X2_thousandfold : yOK yX2_thousandfold 1 := by decide +kernel
theorem ypl_X2_thousandfold : plainName yX2_thousandfold.cls = true := by decide +kernel
theorem yok_X2_all : yOK yX2_all 1 := by decide +kernel
theorem ypl_X2_all : plainName yX2_all.cls = true := by decide +kernel
theorem yok_X0_sumOfSquares : yOK yX0_sumOfSquares 0 := by decide +kernel
theorem ypl_X0_sumOfSquares : plainName yX0_sumOfSquares.cls = true := by decide +kernel
theorem yok_X2_bits : yOK yX2_bits 1 := by decide +kernel
theorem ypl_X2_bits : plainName yX2_bits.cls = true := by decide +kernel
theorem yok_X2_bitsOf : yOK yX2_bitsOf 1 := by decide +kernel
theorem ypl_X2_bitsOf : plainName yX2_bitsOf.cls = true := by decide +kernel
theorem yok_X2_lets : yOK yX2_lets 3 := by decide +kernel
theorem ypl_X2_lets : plainName yX2_lets.cls = true := by decide +kernel
theorem yok_X2_trial : yOK yX2_trial 3 := by decide +kernel
theorem ypl_X2_trial : plainName yX2_trial.cls = true := by decide +kernel
theorem yok_X2_isTrialLength : yOK yX2_isTrialLength 1 := by decide +kernel
theorem ypl_X2_isTrialLength : plainName yX2_isTrialLength.cls = true := by decide +kernel
theorem yok_X0_tryOut : yOK yX0_tryOut 3 := by decide +kernel
theorem ypl_X0_tryOut : plainName yX0_tryOut.cls = true := by decide +kernel
theorem yok_X2_soonest : yOK yX2_soonest 3 := by decide +kernel
theorem ypl_X2_soonest : plainName yX2_soonest.cls = true := by decide +kernel
theorem yok_X2_isBound : yOK yX2_isBound 1 := by decide +kernel
theorem ypl_X2_isBound : plainName yX2_isBound.cls = true := by decide +kernel
theorem yok_X2_staysWithin : yOK yX2_staysWithin 4 := by decide +kernel
theorem ypl_X2_staysWithin : plainName yX2_staysWithin.cls = true := by decide +kernel
theorem yok_X2_best : yOK yX2_best 3 := by decide +kernel
theorem ypl_X2_best : plainName yX2_best.cls = true := by decide +kernel
theorem yok_X2_type : yOK yX2_type 1 := by decide +kernel
theorem ypl_X2_type : plainName yX2_type.cls = true := by decide +kernel
theorem yok_X1_append : yOK yX1_append 1 := by decide +kernel
theorem ypl_X1_append : plainName yX1_append.cls = true := by decide +kernel
theorem yok_X2_clear : yOK yX2_clear 0 := by decide +kernel
theorem ypl_X2_clear : plainName yX2_clear.cls = true := by decide +kernel
theorem yok_X2_reads : yOK yX2_reads 0 := by decide +kernel
theorem ypl_X2_reads : plainName yX2_reads.cls = true := by decide +kernel
theorem yok_X1_findFault : yOK yX1_findFault 0 := by decide +kernel
theorem ypl_X1_findFault : plainName yX1_findFault.cls = true := by decide +kernel
theorem yok_X1_rewind : yOK yX1_rewind 0 := by decide +kernel
theorem ypl_X1_rewind : plainName yX1_rewind.cls = true := by decide +kernel
theorem yok_X1_nextOrder : yOK yX1_nextOrder 0 := by decide +kernel
theorem ypl_X1_nextOrder : plainName yX1_nextOrder.cls = true := by decide +kernel
theorem yok_X1_skipBlanks : yOK yX1_skipBlanks 0 := by decide +kernel
theorem ypl_X1_skipBlanks : plainName yX1_skipBlanks.cls = true := by decide +kernel
theorem yok_X1_byteHere : yOK yX1_byteHere 0 := by decide +kernel
theorem ypl_X1_byteHere : plainName yX1_byteHere.cls = true := by decide +kernel
theorem yok_X1_valueNamed : yOK yX1_valueNamed 1 := by decide +kernel
theorem ypl_X1_valueNamed : plainName yX1_valueNamed.cls = true := by decide +kernel
theorem yok_X1_takeNumbers : yOK yX1_takeNumbers 0 := by decide +kernel
theorem ypl_X1_takeNumbers : plainName yX1_takeNumbers.cls = true := by decide +kernel
theorem yok_X1_takeNumber : yOK yX1_takeNumber 0 := by decide +kernel
theorem ypl_X1_takeNumber : plainName yX1_takeNumber.cls = true := by decide +kernel
theorem yok_X2_obey : yOK yX2_obey 3 := by decide +kernel
theorem ypl_X2_obey : plainName yX2_obey.cls = true := by decide +kernel
theorem yok_X2_back : yOK yX2_back 0 := by decide +kernel
theorem ypl_X2_back : plainName yX2_back.cls = true := by decide +kernel
theorem yok_X2_told : yOK yX2_told 1 := by decide +kernel
theorem ypl_X2_told : plainName yX2_told.cls = true := by decide +kernel
theorem yok_X2_digest : yOK yX2_digest 0 := by decide +kernel
theorem ypl_X2_digest : plainName yX2_digest.cls = true := by decide +kernel
theorem yok_X3_init : yOK yX3_init 0 := by decide +kernel
theorem ypl_X3_init : plainName yX3_init.cls = true := by decide +kernel
theorem yok_X3_laysSteady : yOK yX3_laysSteady 0 := by decide +kernel
theorem ypl_X3_laysSteady : plainName yX3_laysSteady.cls = true := by decide +kernel
theorem yok_X3_back : yOK yX3_back 0 := by decide +kernel
theorem ypl_X3_back : plainName yX3_back.cls = true := by decide +kernel
theorem yok_X3_counts : yOK yX3_counts 1 := by decide +kernel
theorem ypl_X3_counts : plainName yX3_counts.cls = true := by decide +kernel
theorem yok_X3_becomesPast : yOK yX3_becomesPast 1 := by decide +kernel
theorem ypl_X3_becomesPast : plainName yX3_becomesPast.cls = true := by decide +kernel
theorem yok_X3_pipe : yOK yX3_pipe 1 := by decide +kernel
theorem ypl_X3_pipe : plainName yX3_pipe.cls = true := by decide +kernel
theorem yok_X3_mayPipe : yOK yX3_mayPipe 1 := by decide +kernel
theorem ypl_X3_mayPipe : plainName yX3_mayPipe.cls = true := by decide +kernel
theorem yok_X3_within : yOK yX3_within 3 := by decide +kernel
theorem ypl_X3_within : plainName yX3_within.cls = true := by decide +kernel
theorem yok_X3_leaves : yOK yX3_leaves 0 := by decide +kernel
theorem ypl_X3_leaves : plainName yX3_leaves.cls = true := by decide +kernel
theorem yok_X3_becomes : yOK yX3_becomes 2 := by decide +kernel
theorem ypl_X3_becomes : plainName yX3_becomes.cls = true := by decide +kernel
theorem yok_X3_sets : yOK yX3_sets 2 := by decide +kernel
theorem ypl_X3_sets : plainName yX3_sets.cls = true := by decide +kernel
theorem yok_X3_maySet : yOK yX3_maySet 2 := by decide +kernel
theorem ypl_X3_maySet : plainName yX3_maySet.cls = true := by decide +kernel
theorem yok_X3_ends : yOK yX3_ends 2 := by decide +kernel
theorem ypl_X3_ends : plainName yX3_ends.cls = true := by decide +kernel
theorem yok_X3_mayEnd : yOK yX3_mayEnd 2 := by decide +kernel
theorem ypl_X3_mayEnd : plainName yX3_mayEnd.cls = true := by decide +kernel
theorem yok_X3_law : yOK yX3_law 2 := by decide +kernel
theorem ypl_X3_law : plainName yX3_law.cls = true := by decide +kernel
theorem yok_X3_isLaw : yOK yX3_isLaw 2 := by decide +kernel
theorem ypl_X3_isLaw : plainName yX3_isLaw.cls = true := by decide +kernel
theorem yok_X3_becomesLaw : yOK yX3_becomesLaw 2 := by decide +kernel
theorem ypl_X3_becomesLaw : plainName yX3_becomesLaw.cls = true := by decide +kernel
theorem yok_X3_steady : yOK yX3_steady 0 := by decide +kernel
theorem ypl_X3_steady : plainName yX3_steady.cls = true := by decide +kernel
theorem yok_X3_steps : yOK yX3_steps 1 := by decide +kernel
theorem ypl_X3_steps : plainName yX3_steps.cls = true := by decide +kernel
theorem yok_X3_goesOnFor : yOK yX3_goesOnFor 1 := by decide +kernel
theorem ypl_X3_goesOnFor : plainName yX3_goesOnFor.cls = true := by decide +kernel
theorem yok_X3_goesOn : yOK yX3_goesOn 0 := by decide +kernel
theorem ypl_X3_goesOn : plainName yX3_goesOn.cls = true := by decide +kernel
theorem yok_X3_laysEnds : yOK yX3_laysEnds 0 := by decide +kernel
theorem ypl_X3_laysEnds : plainName yX3_laysEnds.cls = true := by decide +kernel
theorem yok_X3_let : yOK yX3_let 3 := by decide +kernel
theorem ypl_X3_let : plainName yX3_let.cls = true := by decide +kernel
theorem yok_X3_node : yOK yX3_node 2 := by decide +kernel
theorem ypl_X3_node : plainName yX3_node.cls = true := by decide +kernel
theorem yok_X3_nodeIs : yOK yX3_nodeIs 2 := by decide +kernel
theorem ypl_X3_nodeIs : plainName yX3_nodeIs.cls = true := by decide +kernel
theorem yok_X3_whole : yOK yX3_whole 1 := by decide +kernel
theorem ypl_X3_whole : plainName yX3_whole.cls = true := by decide +kernel
theorem yok_X3_countsLong : yOK yX3_countsLong 0 := by decide +kernel
theorem ypl_X3_countsLong : plainName yX3_countsLong.cls = true := by decide +kernel
theorem yok_X3_all : yOK yX3_all 1 := by decide +kernel
theorem ypl_X3_all : plainName yX3_all.cls = true := by decide +kernel
theorem yok_X3_allIs : yOK yX3_allIs 1 := by decide +kernel
theorem ypl_X3_allIs : plainName yX3_allIs.cls = true := by decide +kernel
theorem yok_X3_kept : yOK yX3_kept 0 := by decide +kernel
theorem ypl_X3_kept : plainName yX3_kept.cls = true := by decide +kernel
theorem yok_X3_farthest : yOK yX3_farthest 2 := by decide +kernel
theorem ypl_X3_farthest : plainName yX3_farthest.cls = true := by decide +kernel
theorem yok_X3_bits : yOK yX3_bits 1 := by decide +kernel
theorem ypl_X3_bits : plainName yX3_bits.cls = true := by decide +kernel
theorem yok_Jxe99ae_doubleToLongBits_ccdee : yOK yJxe99ae_doubleToLongBits_ccdee 1 := by decide +kernel
theorem ypl_Jxe99ae_doubleToLongBits_ccdee : plainName yJxe99ae_doubleToLongBits_ccdee.cls = true := by decide +kernel
theorem yok_Jxe99ae_isNaN_b9ae7 : yOK yJxe99ae_isNaN_b9ae7 1 := by decide +kernel
theorem ypl_Jxe99ae_isNaN_b9ae7 : plainName yJxe99ae_isNaN_b9ae7.cls = true := by decide +kernel
theorem yok_X3_lets : yOK yX3_lets 3 := by decide +kernel
theorem ypl_X3_lets : plainName yX3_lets.cls = true := by decide +kernel
theorem yok_X3_trial : yOK yX3_trial 3 := by decide +kernel
theorem ypl_X3_trial : plainName yX3_trial.cls = true := by decide +kernel
theorem yok_X3_tried : yOK yX3_tried 3 := by decide +kernel
theorem ypl_X3_tried : plainName yX3_tried.cls = true := by decide +kernel
theorem yok_X3_laysAside : yOK yX3_laysAside 0 := by decide +kernel
theorem ypl_X3_laysAside : plainName yX3_laysAside.cls = true := by decide +kernel
theorem yok_X3_becomesAside : yOK yX3_becomesAside 0 := by decide +kernel
theorem ypl_X3_becomesAside : plainName yX3_becomesAside.cls = true := by decide +kernel
theorem yok_X3_soonest : yOK yX3_soonest 3 := by decide +kernel
theorem ypl_X3_soonest : plainName yX3_soonest.cls = true := by decide +kernel
theorem yok_X3_soonestOf : yOK yX3_soonestOf 3 := by decide +kernel
theorem ypl_X3_soonestOf : plainName yX3_soonestOf.cls = true := by decide +kernel
theorem yok_X3_best : yOK yX3_best 3 := by decide +kernel
theorem ypl_X3_best : plainName yX3_best.cls = true := by decide +kernel
theorem yok_X3_type : yOK yX3_type 1 := by decide +kernel
theorem ypl_X3_type : plainName yX3_type.cls = true := by decide +kernel
theorem yok_X3_clear : yOK yX3_clear 0 := by decide +kernel
theorem ypl_X3_clear : plainName yX3_clear.cls = true := by decide +kernel
theorem yok_X3_reads : yOK yX3_reads 0 := by decide +kernel
theorem ypl_X3_reads : plainName yX3_reads.cls = true := by decide +kernel
theorem yok_X3_isRead : yOK yX3_isRead 0 := by decide +kernel
theorem ypl_X3_isRead : plainName yX3_isRead.cls = true := by decide +kernel
theorem yok_X3_blanks : yOK yX3_blanks 0 := by decide +kernel
theorem ypl_X3_blanks : plainName yX3_blanks.cls = true := by decide +kernel
theorem yok_X3_here : yOK yX3_here 0 := by decide +kernel
theorem ypl_X3_here : plainName yX3_here.cls = true := by decide +kernel
theorem yok_X3_passesOrder : yOK yX3_passesOrder 0 := by decide +kernel
theorem ypl_X3_passesOrder : plainName yX3_passesOrder.cls = true := by decide +kernel
theorem yok_X3_isOrder : yOK yX3_isOrder 1 := by decide +kernel
theorem ypl_X3_isOrder : plainName yX3_isOrder.cls = true := by decide +kernel
theorem yok_X3_passesNumber : yOK yX3_passesNumber 2 := by decide +kernel
theorem ypl_X3_passesNumber : plainName yX3_passesNumber.cls = true := by decide +kernel
theorem yok_X3_isDone : yOK yX3_isDone 1 := by decide +kernel
theorem ypl_X3_isDone : plainName yX3_isDone.cls = true := by decide +kernel
theorem yok_X3_swapsAside : yOK yX3_swapsAside 0 := by decide +kernel
theorem ypl_X3_swapsAside : plainName yX3_swapsAside.cls = true := by decide +kernel
theorem yok_X3_told : yOK yX3_told 1 := by decide +kernel
theorem ypl_X3_told : plainName yX3_told.cls = true := by decide +kernel
theorem yok_X3_toldIs : yOK yX3_toldIs 1 := by decide +kernel
theorem ypl_X3_toldIs : plainName yX3_toldIs.cls = true := by decide +kernel
theorem yok_X3_digest : yOK yX3_digest 0 := by decide +kernel
theorem ypl_X3_digest : plainName yX3_digest.cls = true := by decide +kernel
theorem yok_X3_mix : yOK yX3_mix 1 := by decide +kernel
theorem ypl_X3_mix : plainName yX3_mix.cls = true := by decide +kernel
