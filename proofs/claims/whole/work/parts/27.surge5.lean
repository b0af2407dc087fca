theorem wb_tb (n : Nat) : (lN n).toBitVec = BitVec.ofNat 64 n := rfl
theorem wb_inj {a b : Int64} (h : a.toBitVec = b.toBitVec) : a = b := Int64.toBitVec_inj.mp h
theorem wb_tn {n : Nat} (h : n < 2 ^ 64) : (lN n).toBitVec.toNat = n := by rw [wb_tb, BitVec.toNat_ofNat, Nat.mod_eq_of_lt h]
theorem wb_c : ∀ k, k < 64 → ((nI k).toInt64 &&& 63) = lN k := by decide +kernel
theorem wb_sm : ∀ k, k < 64 → (BitVec.ofNat 64 k).smod 64 = BitVec.ofNat 64 k := by decide +kernel
theorem wb_shl (n : Nat) {k : Nat} (hk : k < 64) : lN n <<< ((nI k).toInt64 &&& 63) = lN (n * 2 ^ k) := by
  rw [wb_c k hk]
  apply wb_inj
  rw [Int64.toBitVec_shiftLeft, wb_tb, wb_tb, wb_tb, wb_sm k hk]
  apply BitVec.eq_of_toNat_eq
  rw [BitVec.shiftLeft_eq', BitVec.toNat_shiftLeft, BitVec.toNat_ofNat, BitVec.toNat_ofNat, BitVec.toNat_ofNat, Nat.mod_eq_of_lt (show k < 2 ^ 64 by omega), Nat.shiftLeft_eq, Nat.mul_mod, Nat.mod_mod, ← Nat.mul_mod]
theorem wb_or {a b : Nat} (ha : a < 2 ^ 64) (hb : b < 2 ^ 64) : lN a ||| lN b = lN (a ||| b) := by
  apply wb_inj
  rw [Int64.toBitVec_or, wb_tb, wb_tb, wb_tb]
  apply BitVec.eq_of_toNat_eq
  rw [BitVec.toNat_or, BitVec.toNat_ofNat, BitVec.toNat_ofNat, BitVec.toNat_ofNat, Nat.mod_eq_of_lt ha, Nat.mod_eq_of_lt hb, Nat.mod_eq_of_lt (Nat.or_lt_two_pow ha hb)]
theorem mag_pos {x : UInt64} (h : x.toNat < 2 ^ 63) : lN (magB x) = x.toInt64 := by
  apply wb_inj
  rw [wb_tb]
  show BitVec.ofNat 64 (x.toNat % 2 ^ 63) = x.toBitVec
  rw [Nat.mod_eq_of_lt h]
  exact BitVec.ofNat_toNat 64 x.toBitVec |>.trans (by simp)
theorem mag_neg {x : UInt64} (h : 2 ^ 63 ≤ x.toNat) : lN (magB x) ||| (-9223372036854775808) = x.toInt64 := by
  have hl := x.toNat_lt
  have e : (-9223372036854775808 : Int64) = lN (2 ^ 63) := by decide
  have hm : magB x = x.toNat - 2 ^ 63 := by
    show x.toNat % 2 ^ 63 = _
    rw [Nat.mod_eq_sub_mod h, Nat.mod_eq_of_lt (by omega)]
  have ho : (x.toNat - 2 ^ 63) ||| 2 ^ 63 = x.toNat := by
    have e2 := Nat.two_pow_add_eq_or_of_lt (show x.toNat - 2 ^ 63 < 2 ^ 63 by omega) 1
    rw [Nat.mul_one] at e2
    rw [Nat.or_comm, ← e2]
    omega
  rw [e, hm, wb_or (by omega) (by decide), ho]
  apply wb_inj
  rw [wb_tb]
  show BitVec.ofNat 64 x.toNat = x.toBitVec
  exact BitVec.ofNat_toNat 64 x.toBitVec |>.trans (by simp)
theorem zv0 : zv 0 = 0 := FP.Core.zval64_zero
def absD (x : UInt64) : UInt64 := if zv x < zv 0 then FP.dneg x else x
theorem absD_zv {x : UInt64} (h : FP.Core.DFin x) : FP.Core.DFin (absD x) ∧ zv (absD x) = ((zv x).natAbs : Int) := by
  have hn : FP.Core.val64 (FP.dneg x) = FP.Core.negate (FP.Core.val64 x) := FP.val64_dneg x
  unfold absD
  rw [zv0]
  split
  · refine ⟨?_, ?_⟩
    · obtain ⟨s, c, q, e⟩ := h
      exact ⟨!s, c, q, by rw [hn, e]; rfl⟩
    · show FP.Core.zval FP.Core.b64 (FP.Core.val64 (FP.dneg x)) = _
      rw [hn, FP.Core.zval_negate]
      show -zv x = _
      omega
  · exact ⟨h, by omega⟩
theorem zero_of {x : UInt64} (h : FP.Core.DFin x) (hz : nz x) (e : zv x = zv 0) : x = 0 := zv_inj h zero_fin hz (by unfold nz; decide) e
theorem neg_bits {x : UInt64} (h : FP.Core.DFin x) (e : zv x < zv 0) : 2 ^ 63 ≤ x.toNat := by
  rw [zv0] at e
  rcases Nat.lt_or_ge x.toNat (2 ^ 63) with q | q
  · have := FP.Core.zval_nonneg h.ne_nan q
    exact absurd e (Int.not_lt.mpr this)
  · exact q
theorem pos_bits {x : UInt64} (h : FP.Core.DFin x) (e : ¬ zv x < zv 0) (e0 : ¬ zv x = zv 0) : x.toNat < 2 ^ 63 := by
  rw [zv0] at e e0
  rcases Nat.lt_or_ge x.toNat (2 ^ 63) with q | q
  · exact q
  · have : zv x ≤ 0 := FP.Core.zval_nonpos h.ne_nan q
    omega
theorem hid_nn : nn (FP.l2d 4503599627370496) := (FP.Core.l2d_fin _).ne_nan
theorem shl52 {j w : Nat} (hj : j ≤ 1075) (hw : 2 ^ 52 ≤ w) : ((nI j).toInt64 <<< ((nI 52).toInt64 &&& 63)) + (lN w - 4503599627370496) = lN (j * 2 ^ 52 + (w - 2 ^ 52)) := by
  have e : (4503599627370496 : Int64) = lN (2 ^ 52) := rfl
  rw [nI_l (by omega), wb_shl j (by decide : 52 < 64), e, lN_sub hw, lN_add]
set_option maxHeartbeats 4000000 in
set_option maxRecDepth 100000 in
/-- the bits -/
theorem c_X2_bitsOf (g : Glob) (x : UInt64) (hx : FP.Core.DFin x) (hz : nz x) (hb : (zv x).natAbs < 2 ^ 52 * one) : Con g yX2_bitsOf cX2_bitsOf 11 (some .long) ({ frames := 0, cells := 0, slots := 0, locals := 0 } : Room) [.double x] ([]) (Is (some (.long x.toInt64)) []) := by
  refine con_of_V ypl_X2_bitsOf (Nat.le_of_ble_eq_true rfl) [(0, .double x)] rfl (fun Γ ok => ?_)
  refine V_dload_n ok dX2_bitsOf_0 rfl 0 rfl ?_
  refine V_dconst0 ok dX2_bitsOf_1 ?_
  refine V_dne (tgt := 8) ok dX2_bitsOf_2 dX2_bitsOf_3 (by decide) hx.ne_nan zero_nn (fun h2 => ?_) (fun h2 => ?_)
  · have H87 : ∀ (u : Int64) (j : Nat) (m : UInt64), V g Γ 11 0 0 87 ([]) [(7, .long u), (6, .int (nI j)), (4, .double m), (2, .long 4503599627370496), (0, .double x)] [.long (lN (magB x))] := by
      intro u j m
      refine V_lstore (lv2 := [(9, .long (lN (magB x))), (7, .long u), (6, .int (nI j)), (4, .double m), (2, .long 4503599627370496), (0, .double x)]) ok dX2_bitsOf_87 (by decide) rfl ?_
      refine V_dload_n ok dX2_bitsOf_89 rfl 5 rfl ?_
      refine V_dconst0 ok dX2_bitsOf_90 ?_
      refine V_dge (tgt := 104) ok dX2_bitsOf_91 dX2_bitsOf_92 (by decide) hx.ne_nan zero_nn (fun h91 => ?_) (fun h91 => ?_)
      · refine V_lload ok dX2_bitsOf_104 0 rfl ?_
        exact V_lret ok dX2_bitsOf_106 (Nat.zero_le _) (Nat.zero_le _) ⟨by rw [mag_pos (pos_bits hx h91 h2)], rfl⟩
      · refine V_lload ok dX2_bitsOf_95 0 rfl ?_
        refine V_ldc2l ok twl_X2_216 dX2_bitsOf_97 ?_
        refine V_lor ok dX2_bitsOf_100 ?_
        refine V_goto (tgt := 106) ok dX2_bitsOf_101 (by decide) ?_
        exact V_lret ok dX2_bitsOf_106 (Nat.zero_le _) (Nat.zero_le _) ⟨by rw [mag_neg (neg_bits hx h91)], rfl⟩
    have H59 : ∀ (j : Nat) (m : UInt64) (w : Nat), j ≤ 1075 → FP.d2l m = lN w → w < 2 ^ 53 → ((w < 2 ^ 52 ∧ w = magB x) ∨ (2 ^ 52 ≤ w ∧ j * 2 ^ 52 + (w - 2 ^ 52) = magB x)) → V g Γ 11 0 0 59 ([]) [(6, .int (nI j)), (4, .double m), (2, .long 4503599627370496), (0, .double x)] [] := by
      intro j m w hj2 hw hw53 hor
      refine V_dload ok dX2_bitsOf_59 1 rfl ?_
      refine V_d2l ok dX2_bitsOf_61 ?_
      refine V_top_long (b := lN w) (hw) ?_
      refine V_lstore (lv2 := [(7, .long (lN w)), (6, .int (nI j)), (4, .double m), (2, .long 4503599627370496), (0, .double x)]) ok dX2_bitsOf_62 (by decide) rfl ?_
      refine V_lload ok dX2_bitsOf_64 0 rfl ?_
      refine V_lload_n ok dX2_bitsOf_66 rfl 3 rfl ?_
      refine V_lcmp_ge (tgt := 76) ok dX2_bitsOf_67 dX2_bitsOf_68 (by decide) (fun h67 => ?_) (fun h67 => ?_)
      · have hge : ¬ w < 2 ^ 52 := fun q => h67 ((pk_lLT (by omega) (by decide)).mpr q)
        refine V_iload ok dX2_bitsOf_76 1 rfl ?_
        refine V_i2l ok dX2_bitsOf_78 ?_
        refine V_bipush (v := nI 52) ok dX2_bitsOf_79 rfl ?_
        refine V_lshl (v := ((nI j).toInt64) <<< ((nI 52).toInt64 &&& 63)) ok dX2_bitsOf_81 rfl ?_
        refine V_lload ok dX2_bitsOf_82 0 rfl ?_
        refine V_lload_n ok dX2_bitsOf_84 rfl 3 rfl ?_
        refine V_lsub ok dX2_bitsOf_85 ?_
        refine V_ladd ok dX2_bitsOf_86 ?_
        refine V_top_long (b := lN (magB x)) (by rw [shl52 hj2 (by omega), (hor.resolve_left (fun z => by omega)).2]) ?_
        refine V_lv [0, 1, 2, 3, 4] rfl ?_
        exact H87 _ j m
      · have hlt : w < 2 ^ 52 := (pk_lLT (b := 2 ^ 52) (by omega) (by decide)).mp h67
        refine V_lload ok dX2_bitsOf_71 0 rfl ?_
        refine V_goto (tgt := 87) ok dX2_bitsOf_73 (by decide) ?_
        refine V_top_long (b := lN (magB x)) (by rw [(hor.resolve_right (fun z => by omega)).2]) ?_
        refine V_lv [0, 1, 2, 3, 4] rfl ?_
        exact H87 _ j m
    have HL : ∀ (j : Nat) (m : UInt64), 1 ≤ j → j ≤ 1075 → FP.Core.DFin m → zv m = ((zv x).natAbs * 2 ^ (1075 - j) : Nat) → (∀ i, j < i → i ≤ 1075 → (zv x).natAbs * 2 ^ (1075 - i) < 2 ^ 52 * one) → V g Γ 11 0 0 31 ([]) [(6, .int (nI j)), (4, .double m), (2, .long 4503599627370496), (0, .double x)] [] := by
      intro j
      induction j with
      | zero => intro m hj1; omega
      | succ j ih =>
        intro m hj1 hj2 hm hv hlow
        refine V_dload ok dX2_bitsOf_31 1 rfl ?_
        refine V_lload_n ok dX2_bitsOf_33 rfl 2 rfl ?_
        refine V_l2d ok dX2_bitsOf_34 ?_
        refine V_dge (tgt := 59) ok dX2_bitsOf_35 dX2_bitsOf_36 (by decide) hm.ne_nan hid_nn (fun h35 => ?_) (fun h35 => ?_)
        · have hge2 : 2 ^ 52 * one ≤ (zv x).natAbs * 2 ^ (1075 - (j + 1)) := by rw [hid_zv, hv] at h35; omega
          obtain ⟨w, hw, hw53, hor⟩ := bits_end hx hb hm hj1 hj2 hv hlow (Or.inl hge2)
          refine V_lv [0, 1, 2, 3] rfl ?_
          exact H59 (j + 1) m w hj2 hw hw53 hor
        · have hlt2 : (zv x).natAbs * 2 ^ (1075 - (j + 1)) < 2 ^ 52 * one := by rw [hid_zv, hv] at h35; omega
          have dm := dbl_zv hm (by rw [hv, Int.natAbs_natCast]; exact hlt2)
          refine V_iload ok dX2_bitsOf_39 0 rfl ?_
          refine V_iconst (v := nI 1) ok dX2_bitsOf_41 rfl ?_
          refine V_icmpN_le (tgt := 59) ok dX2_bitsOf_42 (by decide) (by omega) (by omega) (fun h42 => ?_) (fun h42 => ?_)
          · obtain ⟨w, hw, hw53, hor⟩ := bits_end hx hb hm hj1 hj2 hv hlow (Or.inr (by omega))
            refine V_lv [0, 1, 2, 3] rfl ?_
            exact H59 (j + 1) m w hj2 hw hw53 hor
          · refine V_dload ok dX2_bitsOf_45 1 rfl ?_
            refine V_ldc2d ok twd_X2_214 dX2_bitsOf_47 ?_
            refine V_dmul ok dX2_bitsOf_50 (n64_of dm.1.ne_nan) ?_
            refine V_dstore (lv2 := [(4, .double (FP.dmul m 4611686018427387904)), (6, .int (nI (j + 1))), (2, .long 4503599627370496), (0, .double x)]) ok dX2_bitsOf_51 (by decide) rfl ?_
            refine V_iinc (q := 1) (v := nI j) (lv2 := [(6, .int (nI j)), (4, .double (FP.dmul m 4611686018427387904)), (2, .long 4503599627370496), (0, .double x)]) ok dX2_bitsOf_53 rfl (nI_dec j) (by decide) rfl ?_
            refine V_goto (tgt := 31) ok dX2_bitsOf_56 (by decide) ?_
            refine V_lv [0, 1, 2, 3] rfl ?_
            exact ih (FP.dmul m 4611686018427387904) (by omega) (by omega) dm.1 (by rw [dm.2, hv, show 1075 - j = 1075 - (j + 1) + 1 by omega, Nat.pow_succ, ← Nat.mul_assoc, Nat.mul_comm _ 2]; omega) (fun i h1 h2 => by rcases Nat.lt_or_ge (j + 1) i with q | q; exact hlow i q h2; rw [show i = j + 1 by omega]; exact hlt2)
    refine V_ldc2l ok twl_X2_212 dX2_bitsOf_8 ?_
    refine V_lstore_n (lv2 := [(2, .long 4503599627370496), (0, .double x)]) ok dX2_bitsOf_11 rfl (by decide) rfl ?_
    refine V_dload_n ok dX2_bitsOf_12 rfl 1 rfl ?_
    refine V_dconst0 ok dX2_bitsOf_13 ?_
    have J14 : V g Γ 11 0 0 24 ([]) [(2, .long 4503599627370496), (0, .double x)] [.double (if zv x < zv 0 then FP.dneg x else x)] := by
      refine V_dstore (lv2 := [(4, .double (if zv x < zv 0 then FP.dneg x else x)), (2, .long 4503599627370496), (0, .double x)]) ok dX2_bitsOf_24 (by decide) rfl ?_
      refine V_sipush (v := nI 1075) ok dX2_bitsOf_26 rfl ?_
      refine V_istore (lv2 := [(6, .int (nI 1075)), (4, .double (if zv x < zv 0 then FP.dneg x else x)), (2, .long 4503599627370496), (0, .double x)]) ok dX2_bitsOf_29 (by decide) rfl ?_
      refine V_lv [0, 1, 2, 3] rfl ?_
      have ha := absD_zv hx
      exact HL 1075 (absD x) (by decide) (by decide) ha.1 (by rw [ha.2]; simp) (fun i h1 h2 => by omega)
    refine V_dge (tgt := 23) ok dX2_bitsOf_14 dX2_bitsOf_15 (by decide) hx.ne_nan zero_nn (fun h14 => ?_) (fun h14 => ?_)
    · refine V_dload_n ok dX2_bitsOf_23 rfl 1 rfl ?_
      simp only [if_neg h14] at J14
      exact J14
    · refine V_dload_n ok dX2_bitsOf_18 rfl 1 rfl ?_
      refine V_dneg ok dX2_bitsOf_19 ?_
      refine V_goto (tgt := 24) ok dX2_bitsOf_20 (by decide) ?_
      simp only [if_pos h14] at J14
      exact J14
  · refine V_lconst (v := 0) ok dX2_bitsOf_6 rfl ?_
    exact V_lret ok dX2_bitsOf_7 (Nat.zero_le _) (Nat.zero_le _) ⟨by rw [zero_of hx hz h2]; rfl, rfl⟩
