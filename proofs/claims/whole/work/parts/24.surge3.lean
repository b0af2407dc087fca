def stayN (b : UInt64) : Nat → LineSt → LineSt
  | 0, x => x
  | f + 1, x => if zv b < zv x.2.2.2.2.2.1 then x else stayN b f (stepL x)
theorem stayN_LG {b : UInt64} : ∀ (f : Nat) {x : LineSt}, LG x → nv x.1 8 + f ≤ 999 → LG (stayN b f x)
  | 0, x, h, _ => h
  | f + 1, x, h, ht => by
    simp only [stayN]
    split
    · exact h
    · obtain ⟨a, e, -⟩ := LG.step h (by omega)
      exact stayN_LG f a (by omega)
/-- the trial's pipe -/
def tryL (v : Nat → Int32) (k t : Int32) (sp : LineSt) : LineSt := settleL (tryV v k t, sp.2)
theorem tryL_ok {v : Nat → Int32} (hv : VG v) {k t : Int32} (hk : okI 6 k) (ht : okI 7 t) (sp : LineSt) : LG (tryL v k t sp) ∧ nv (tryL v k t sp).1 8 = 0 := ⟨LG.settle (hv.try hk ht), (hv.try hk ht).steady.2.1⟩
theorem i2d_nn (b : Int32) : nn (FP.i2d b) := (FP.Core.i2d_fin b).ne_nan
theorem LG.hiN {x : LineSt} (h : LG x) : nn x.2.2.2.2.2.1 := h.hiF.ne_nan
def soonN (v : Nat → Int32) (k b : Int32) (m : Nat) : Nat → Nat → LineSt → Int32 × LineSt
  | 0, _, sp => ((-1), sp)
  | f + 1, t, sp => if zv (FP.i2d b) < zv (stayN (FP.i2d b) m (tryL v k (nI t) sp)).2.2.2.2.2.1 then soonN v k b m f (t + 1) (stayN (FP.i2d b) m (tryL v k (nI t) sp)) else (nI t, stayN (FP.i2d b) m (tryL v k (nI t) sp))
theorem okI7 {t : Nat} (h1 : 1 ≤ t) (h2 : t ≤ 60) : okI 7 (nI t) := by
  have e : (nI t).toNatClampNeg = t := nI_clamp (by omega)
  show nI t = nI (nI t).toNatClampNeg ∧ 1 ≤ (nI t).toNatClampNeg ∧ (nI t).toNatClampNeg ≤ 60
  rw [e]; exact ⟨rfl, h1, h2⟩
theorem okI6 {t : Nat} (h2 : t ≤ 5) : okI 6 (nI t) := by
  have e : (nI t).toNatClampNeg = t := nI_clamp (by omega)
  show nI t = nI (nI t).toNatClampNeg ∧ (nI t).toNatClampNeg ≤ 5
  rw [e]; exact ⟨rfl, h2⟩
theorem trial_m {m : Nat} (h : m ≤ 100) : trialB (nI m) = true := by unfold trialB; rw [if_neg (nI_pos (by omega)), if_neg (nI_nlt h (by decide))]
def bestN (v : Nat → Int32) (b : Int32) (m : Nat) : Nat → Nat → LineSt → Option Nat × LineSt
  | 0, _, sp => (none, sp)
  | f + 1, n, sp => if zv (FP.i2d b) < zv (stayN (FP.i2d b) m (tryL v (nI (1 + n % 4)) (nI (1 + n / 4)) sp)).2.2.2.2.2.1 then bestN v b m f (n + 1) (stayN (FP.i2d b) m (tryL v (nI (1 + n % 4)) (nI (1 + n / 4)) sp)) else (some n, stayN (FP.i2d b) m (tryL v (nI (1 + n % 4)) (nI (1 + n / 4)) sp))
def bestA (w : Nat) : Option Nat → Int32
  | none => (-1)
  | some n => if w = 0 then nI (1 + n % 4) else nI (1 + n / 4)
set_option maxHeartbeats 4000000 in
set_option maxRecDepth 100000 in
theorem c_X2_staysWithin (g : Glob) (a : Nat → Nat) (now spare : LineSt) (K : Nat → LineSt) (nw sts : Nat) (rf : Nat → Int32) (pg : PageSt) (k t b : Int32) (m : Nat) (hk : okI 6 k) (ht : okI 7 t) (hm : m ≤ 100) (hx : LG now) : Con g yX2_staysWithin cX2_staysWithin 8 (some .boolean) ({ frames := 3, cells := 0, slots := 0, locals := 75 } : Room) [.ref (a 0), .int k, .int t, .int b, .int (nI m)] (surgeW g a now spare K nw sts rf pg) (Is (some (.int (bI (decide (¬ zv (FP.i2d b) < zv (stayN (FP.i2d b) m (tryL now.1 k t spare)).2.2.2.2.2.1))))) (surgeW g a now (stayN (FP.i2d b) m (tryL now.1 k t spare)) K nw sts rf pg)) := by
  refine con_of_V ypl_X2_staysWithin (Nat.le_of_ble_eq_true rfl) [(0, .ref (a 0)), (1, .int k), (2, .int t), (3, .int b), (4, .int (nI m))] rfl (fun Γ ok => ?_)
  have hvt := hx.1.try hk ht
  obtain ⟨hy, h8⟩ := tryL_ok hx.1 hk ht spare
  have HT : ∀ z : LineSt, LG z → z = stayN (FP.i2d b) m (tryL now.1 k t spare) → V g Γ 8 0 0 54 (surgeW g a now z K nw sts rf pg) [(5, .double (FP.i2d b)), (0, .ref (a 0)), (1, .int k), (2, .int t), (3, .int b), (4, .int (nI m))] [] := by
    intro z hz hzz
    refine V_aload_n ok dX2_staysWithin_54 rfl 1 rfl ?_
    refine V_get (v := .ref (a 7)) ok 0 1 tw_X2 twf_X2_16 rfl rfl (by decide) dX2_staysWithin_55 sg_at0 rfl ?_
    refine V_get (v := .double z.2.2.2.2.2.1) ok 7 5 tw_X0 twf_X2_110 rfl rfl (by decide) dX2_staysWithin_58 sg_at7 rfl ?_
    refine V_dload ok dX2_staysWithin_61 0 rfl ?_
    refine V_dgt (tgt := 71) ok dX2_staysWithin_63 dX2_staysWithin_64 (by decide) hz.hiN (i2d_nn b) (fun h63 => ?_) (fun h63 => ?_)
    · refine V_iconst (v := nI 0) ok dX2_staysWithin_71 rfl ?_
      exact V_zret ok dX2_staysWithin_72 (Nat.zero_le _) (Nat.zero_le _) rfl ⟨bI_f (by rw [← hzz]; simp [h63]), by rw [hzz]⟩
    · refine V_iconst (v := nI 1) ok dX2_staysWithin_67 rfl ?_
      refine V_goto (tgt := 72) ok dX2_staysWithin_68 (by decide) ?_
      exact V_zret ok dX2_staysWithin_72 (Nat.zero_le _) (Nat.zero_le _) rfl ⟨bI_t (by rw [← hzz]; simp [h63]), by rw [hzz]⟩
  have HL : ∀ (f i : Nat) (z : LineSt), f + i = m → LG z → nv z.1 8 + f ≤ 999 → stayN (FP.i2d b) f z = stayN (FP.i2d b) m (tryL now.1 k t spare) → V g Γ 8 0 0 20 (surgeW g a now z K nw sts rf pg) [(7, .int (nI i)), (5, .double (FP.i2d b)), (0, .ref (a 0)), (1, .int k), (2, .int t), (3, .int b), (4, .int (nI m))] [] := by
    intro f
    induction f using Nat.strongRecOn with
    | ind f ih =>
    cases f with
    | zero =>
      intro i z hf hz h8 hzz
      refine V_iload ok dX2_staysWithin_20 0 rfl ?_
      refine V_iload ok dX2_staysWithin_22 6 rfl ?_
      refine V_icmpN_ge (tgt := 54) ok dX2_staysWithin_24 (by decide) (by omega) (by omega) (fun h24 => ?_) (fun h24 => absurd (by omega) h24)
      refine V_lv [1, 2, 3, 4, 5, 6] rfl ?_
      exact HT z hz (by rw [← hzz]; rfl)
    | succ f =>
      intro i z hf hz h8 hzz
      refine V_iload ok dX2_staysWithin_20 0 rfl ?_
      refine V_iload ok dX2_staysWithin_22 6 rfl ?_
      refine V_icmpN_ge (tgt := 54) ok dX2_staysWithin_24 (by decide) (by omega) (by omega) (fun h24 => absurd h24 (by omega)) (fun h24 => ?_)
      refine V_aload_n ok dX2_staysWithin_27 rfl 2 rfl ?_
      refine V_get (v := .ref (a 7)) ok 0 1 tw_X2 twf_X2_16 rfl rfl (by decide) dX2_staysWithin_28 sg_at0 rfl ?_
      refine V_get (v := .double z.2.2.2.2.2.1) ok 7 5 tw_X0 twf_X2_110 rfl rfl (by decide) dX2_staysWithin_31 sg_at7 rfl ?_
      refine V_dload ok dX2_staysWithin_34 1 rfl ?_
      refine V_dgt (tgt := 54) ok dX2_staysWithin_36 dX2_staysWithin_37 (by decide) hz.hiN (i2d_nn b) (fun h36 => ?_) (fun h36 => ?_)
      · refine V_lv [1, 2, 3, 4, 5, 6] rfl ?_
        exact HT z hz (by rw [← hzz]; simp only [stayN]; rw [if_pos h36])
      · refine V_aload_n ok dX2_staysWithin_40 rfl 2 rfl ?_
        refine V_get (v := .ref (a 7)) ok 0 1 tw_X2 twf_X2_16 rfl rfl (by decide) dX2_staysWithin_41 sg_at0 rfl ?_
        refine V_iconst (v := nI 1) ok dX2_staysWithin_44 rfl ?_
        refine V_cV (v2 := none) (wn := surgeW g a now (stepL z) K nw sts rf pg) (rest := []) ok 7 0 (c_X0_advance g (fun i => a (7 + i)) z 1 hz (by omega)) 1 twm_X2_74 twi_yX0_advance twv_yX0_advance twin_X0 twc_yX0_advance yok_X0_advance (by decide) ⟨rfl, rfl⟩ dX2_staysWithin_45 rfl sg_at7 rfl rfl (Nat.le_of_ble_eq_true rfl) ⟨Nat.zero_le _, Nat.zero_le _⟩ (slN 7) rfl sg_sub_7 (Nat.le_of_ble_eq_true rfl) sg_rep_7 ?_
        refine V_iinc (q := 0) (v := nI (i + 1)) (lv2 := [(7, .int (nI (i + 1))), (5, .double (FP.i2d b)), (0, .ref (a 0)), (1, .int k), (2, .int t), (3, .int b), (4, .int (nI m))]) ok dX2_staysWithin_48 rfl (nI_inc i 1) (by decide) rfl ?_
        refine V_goto (tgt := 20) ok dX2_staysWithin_51 (by decide) ?_
        refine V_lv [0, 1, 2, 3, 4, 5, 6] rfl ?_
        have hs := LG.step hz (by omega)
        exact ih f (Nat.lt_succ_self f) (i + 1) (stepL z) (by omega) hs.1 (by omega) (by rw [← hzz]; simp only [stayN]; rw [if_neg h36])
  refine V_iload_n ok dX2_staysWithin_0 rfl 3 rfl ?_
  refine V_i2d ok dX2_staysWithin_1 ?_
  refine V_dstore (lv2 := [(5, .double (FP.i2d b)), (0, .ref (a 0)), (1, .int k), (2, .int t), (3, .int b), (4, .int (nI m))]) ok dX2_staysWithin_2 (by decide) rfl ?_
  refine V_aload_n ok dX2_staysWithin_4 rfl 1 rfl ?_
  refine V_get (v := .ref (a 7)) ok 0 1 tw_X2 twf_X2_16 rfl rfl (by decide) dX2_staysWithin_5 sg_at0 rfl ?_
  refine V_aload_n ok dX2_staysWithin_8 rfl 1 rfl ?_
  refine V_get (v := .ref (a 1)) ok 0 0 tw_X2 twf_X2_10 rfl rfl (by decide) dX2_staysWithin_9 sg_at0 rfl ?_
  refine V_iload_n ok dX2_staysWithin_12 rfl 2 rfl ?_
  refine V_iload_n ok dX2_staysWithin_13 rfl 3 rfl ?_
  refine V_cV (v2 := none) (wn := surgeW g a now (settleL (tryV now.1 k t, spare.2)) K nw sts rf pg) (rest := []) ok 7 0 (c_X0_tryOut g (fun i => a (7 + i)) (fun i => a (1 + i)) spare now k t hvt) 3 twm_X2_130 twi_yX0_tryOut twv_yX0_tryOut twin_X0 twc_yX0_tryOut yok_X0_tryOut (by decide) ⟨rfl, rfl⟩ dX2_staysWithin_14 rfl sg_at7 rfl rfl (Nat.le_of_ble_eq_true rfl) ⟨Nat.zero_le _, Nat.zero_le _⟩ (slN 7 ++ slN 1) rfl (sub_app sg_sub_7 sg_sub_1) (Nat.le_of_ble_eq_true rfl) (rep_app rfl rfl sg_rep_7 sg_rep_1) ?_
  refine V_iconst (v := nI 0) ok dX2_staysWithin_17 rfl ?_
  refine V_istore (lv2 := [(7, .int (nI 0)), (5, .double (FP.i2d b)), (0, .ref (a 0)), (1, .int k), (2, .int t), (3, .int b), (4, .int (nI m))]) ok dX2_staysWithin_18 (by decide) rfl ?_
  refine V_lv [0, 1, 2, 3, 4, 5, 6] rfl ?_
  exact HL m 0 (tryL now.1 k t spare) (by omega) hy (by omega) rfl
set_option maxHeartbeats 4000000 in
set_option maxRecDepth 100000 in
theorem c_X2_soonest_ok (g : Glob) (a : Nat → Nat) (now spare : LineSt) (K : Nat → LineSt) (nw sts : Nat) (rf : Nat → Int32) (pg : PageSt) (k b : Int32) (m : Nat) (hk : fitsB (nI 6) k = true) (hb : boundB b = true) (hm : m ≤ 100) (hx : LG now) : Con g yX2_soonest cX2_soonest 5 (some .int) ({ frames := 4, cells := 0, slots := 0, locals := 102 } : Room) [.ref (a 0), .int k, .int b, .int (nI m)] (surgeW g a now spare K nw sts rf pg) (Is (some (.int (soonN now.1 k b m 60 1 spare).1)) (surgeW g a now ((soonN now.1 k b m 60 1 spare).2) K nw sts rf pg)) := by
  refine con_of_V ypl_X2_soonest (Nat.le_of_ble_eq_true rfl) [(0, .ref (a 0)), (1, .int k), (2, .int b), (3, .int (nI m))] rfl (fun Γ ok => ?_)
  have HL : ∀ (f t : Nat) (z : LineSt), f + t = 61 → 1 ≤ t → soonN now.1 k b m f t z = (soonN now.1 k b m 60 1 spare) → V g Γ 5 0 0 33 (surgeW g a now z K nw sts rf pg) [(4, .int (nI t)), (0, .ref (a 0)), (1, .int k), (2, .int b), (3, .int (nI m))] [] := by
    intro f
    induction f using Nat.strongRecOn with
    | ind f ih =>
    cases f with
    | zero =>
      intro t z hf ht1 hzz
      refine V_iload ok dX2_soonest_33 0 rfl ?_
      refine V_bipush (v := nI 60) ok dX2_soonest_35 rfl ?_
      refine V_icmpN_gt (tgt := 61) ok dX2_soonest_37 (by decide) (by omega) (by omega) (fun h37 => ?_) (fun h37 => absurd (by omega) h37)
      refine V_iconst (v := (-1)) ok dX2_soonest_61 rfl ?_
      exact V_iret ok dX2_soonest_62 (Nat.zero_le _) (Nat.zero_le _) ⟨by rw [← hzz]; rfl, by rw [← hzz]; rfl⟩
    | succ f =>
      intro t z hf ht1 hzz
      refine V_iload ok dX2_soonest_33 0 rfl ?_
      refine V_bipush (v := nI 60) ok dX2_soonest_35 rfl ?_
      refine V_icmpN_gt (tgt := 61) ok dX2_soonest_37 (by decide) (by omega) (by omega) (fun h37 => absurd h37 (by omega)) (fun h37 => ?_)
      refine V_aload_n ok dX2_soonest_40 rfl 1 rfl ?_
      refine V_iload_n ok dX2_soonest_41 rfl 2 rfl ?_
      refine V_iload ok dX2_soonest_42 0 rfl ?_
      refine V_iload_n ok dX2_soonest_44 rfl 3 rfl ?_
      refine V_iload_n ok dX2_soonest_45 rfl 4 rfl ?_
      refine V_cW (v2 := some (.int (bI (decide (¬ zv (FP.i2d b) < zv (stayN (FP.i2d b) m (tryL now.1 k (nI t) z)).2.2.2.2.2.1))))) (w2 := surgeW g a now (stayN (FP.i2d b) m (tryL now.1 k (nI t) z)) K nw sts rf pg) (rest := []) ok 0 2 (c_X2_staysWithin g a now z K nw sts rf pg k (nI t) b m (fits_ok (by decide) hk) (okI7 (by omega) (by omega)) hm hx) 4 twm_X2_140 twi_yX2_staysWithin twv_yX2_staysWithin twin_X2 twc_yX2_staysWithin yok_X2_staysWithin (by decide) ⟨rfl, rfl⟩ dX2_soonest_46 rfl sg_at0 rfl rfl (Nat.le_of_ble_eq_true rfl) ⟨Nat.zero_le _, Nat.zero_le _⟩ ?_
      generalize hr46 : stayN (FP.i2d b) m (tryL now.1 k (nI t) z) = r46
      refine V_ifB_eq (tgt := 55) ok dX2_soonest_49 (by decide) (fun h49 => ?_) (fun h49 => ?_)
      · refine V_iinc (q := 0) (v := nI (t + 1)) (lv2 := [(4, .int (nI (t + 1))), (0, .ref (a 0)), (1, .int k), (2, .int b), (3, .int (nI m))]) ok dX2_soonest_55 rfl (nI_inc t 1) (by decide) rfl ?_
        refine V_goto (tgt := 33) ok dX2_soonest_58 (by decide) ?_
        refine V_lv [0, 1, 2, 3, 4] rfl ?_
        exact ih f (Nat.lt_succ_self f) (t + 1) r46 (by omega) (by omega) (by rw [← hzz]; simp only [soonN]; rw [hr46, if_pos (by simpa using h49)])
      · refine V_iload ok dX2_soonest_52 0 rfl ?_
        have e54 : soonN now.1 k b m (f + 1) t z = (nI t, r46) := by simp only [soonN]; rw [hr46, if_neg (by simpa using h49)]
        exact V_iret ok dX2_soonest_54 (Nat.zero_le _) (Nat.zero_le _) ⟨by rw [← hzz, e54], by rw [← hzz, e54]⟩
  refine V_bipush (v := nI 6) ok dX2_soonest_0 rfl ?_
  refine V_iload_n ok dX2_soonest_2 rfl 1 rfl ?_
  refine V_cS (v2 := some (.int (bI (fitsB (nI 6) k)))) (wn := surgeW g a now spare K nw sts rf pg) (rest := []) ok (c_X0_fits g (nI 6) k) 2 twm_X2_134 tws_yX0_fits twin_X0 twc_yX0_fits yok_X0_fits (by decide) ⟨rfl, rfl⟩ dX2_soonest_3 rfl rfl (Nat.le_of_ble_eq_true rfl) ⟨Nat.zero_le _, Nat.zero_le _⟩ [] rfl rfl (Nat.le_of_ble_eq_true rfl) (rep_nil _) ?_
  refine V_ifB_eq (tgt := 23) ok dX2_soonest_6 (by decide) (fun h6 => absurd hk h6) (fun h6 => ?_)
  refine V_iload_n ok dX2_soonest_9 rfl 2 rfl ?_
  refine V_cS (v2 := some (.int (bI (boundB b)))) (wn := surgeW g a now spare K nw sts rf pg) (rest := []) ok (c_X2_isBound g b) 1 twm_X2_137 tws_yX2_isBound twin_X2 twc_yX2_isBound yok_X2_isBound (by decide) ⟨rfl, rfl⟩ dX2_soonest_10 rfl rfl (Nat.le_of_ble_eq_true rfl) ⟨Nat.zero_le _, Nat.zero_le _⟩ [] rfl rfl (Nat.le_of_ble_eq_true rfl) (rep_nil _) ?_
  refine V_ifB_eq (tgt := 23) ok dX2_soonest_13 (by decide) (fun h13 => absurd hb h13) (fun h13 => ?_)
  refine V_iload_n ok dX2_soonest_16 rfl 3 rfl ?_
  refine V_cS (v2 := some (.int (bI (trialB (nI m))))) (wn := surgeW g a now spare K nw sts rf pg) (rest := []) ok (c_X2_isTrialLength g (nI m)) 1 twm_X2_127 tws_yX2_isTrialLength twin_X2 twc_yX2_isTrialLength yok_X2_isTrialLength (by decide) ⟨rfl, rfl⟩ dX2_soonest_17 rfl rfl (Nat.le_of_ble_eq_true rfl) ⟨Nat.zero_le _, Nat.zero_le _⟩ [] rfl rfl (Nat.le_of_ble_eq_true rfl) (rep_nil _) ?_
  refine V_ifB_ne (tgt := 30) ok dX2_soonest_20 (by decide) (fun h20 => ?_) (fun h20 => absurd (trial_m hm) h20)
  refine V_iconst (v := nI 1) ok dX2_soonest_30 rfl ?_
  refine V_istore (lv2 := [(4, .int (nI 1)), (0, .ref (a 0)), (1, .int k), (2, .int b), (3, .int (nI m))]) ok dX2_soonest_31 (by decide) rfl ?_
  refine V_lv [0, 1, 2, 3, 4] rfl ?_
  exact HL 60 1 spare (by decide) (by decide) rfl
set_option maxHeartbeats 4000000 in
set_option maxRecDepth 100000 in
theorem c_X2_soonest_bad (g : Glob) (a : Nat → Nat) (now spare : LineSt) (K : Nat → LineSt) (nw sts : Nat) (rf : Nat → Int32) (pg : PageSt) (k b m : Int32) (ho : ¬ fitsB (nI 6) k = true ∨ ¬ boundB b = true ∨ ¬ trialB m = true) : Con g yX2_soonest cX2_soonest 5 (some .int) ({ frames := 4, cells := 0, slots := 0, locals := 102 } : Room) [.ref (a 0), .int k, .int b, .int m] (surgeW g a now spare K nw sts rf pg) (Is (some (.int (-2))) (surgeW g a now spare K nw sts (rfU rf (-2)) pg)) := by
  refine con_of_V ypl_X2_soonest (Nat.le_of_ble_eq_true rfl) [(0, .ref (a 0)), (1, .int k), (2, .int b), (3, .int m)] rfl (fun Γ ok => ?_)
  refine V_bipush (v := nI 6) ok dX2_soonest_0 rfl ?_
  refine V_iload_n ok dX2_soonest_2 rfl 1 rfl ?_
  refine V_cS (v2 := some (.int (bI (fitsB (nI 6) k)))) (wn := surgeW g a now spare K nw sts rf pg) (rest := []) ok (c_X0_fits g (nI 6) k) 2 twm_X2_134 tws_yX0_fits twin_X0 twc_yX0_fits yok_X0_fits (by decide) ⟨rfl, rfl⟩ dX2_soonest_3 rfl rfl (Nat.le_of_ble_eq_true rfl) ⟨Nat.zero_le _, Nat.zero_le _⟩ [] rfl rfl (Nat.le_of_ble_eq_true rfl) (rep_nil _) ?_
  refine V_ifB_eq (tgt := 23) ok dX2_soonest_6 (by decide) (fun h6 => ?_) (fun h6 => ?_)
  · refine V_aload_n ok dX2_soonest_23 rfl 0 rfl ?_
    refine V_bipush (v := (-2)) ok dX2_soonest_24 rfl ?_
    refine V_cW (v2 := some (.int (-2))) (w2 := surgeW g a now spare K nw sts (rfU rf (-2)) pg) (rest := []) ok 0 2 (c_X2_refuse_m2 g a now spare K nw sts rf pg) 1 twm_X2_45 twi_yX2_refuse twv_yX2_refuse twin_X2 twc_yX2_refuse yok_X2_refuse (by decide) ⟨rfl, rfl⟩ dX2_soonest_26 rfl sg_at0 rfl rfl (Nat.le_of_ble_eq_true rfl) ⟨Nat.zero_le _, Nat.zero_le _⟩ ?_
    exact V_iret ok dX2_soonest_29 (Nat.zero_le _) (Nat.zero_le _) ⟨rfl, rfl⟩
  · refine V_iload_n ok dX2_soonest_9 rfl 2 rfl ?_
    refine V_cS (v2 := some (.int (bI (boundB b)))) (wn := surgeW g a now spare K nw sts rf pg) (rest := []) ok (c_X2_isBound g b) 1 twm_X2_137 tws_yX2_isBound twin_X2 twc_yX2_isBound yok_X2_isBound (by decide) ⟨rfl, rfl⟩ dX2_soonest_10 rfl rfl (Nat.le_of_ble_eq_true rfl) ⟨Nat.zero_le _, Nat.zero_le _⟩ [] rfl rfl (Nat.le_of_ble_eq_true rfl) (rep_nil _) ?_
    refine V_ifB_eq (tgt := 23) ok dX2_soonest_13 (by decide) (fun h13 => ?_) (fun h13 => ?_)
    · refine V_aload_n ok dX2_soonest_23 rfl 0 rfl ?_
      refine V_bipush (v := (-2)) ok dX2_soonest_24 rfl ?_
      refine V_cW (v2 := some (.int (-2))) (w2 := surgeW g a now spare K nw sts (rfU rf (-2)) pg) (rest := []) ok 0 2 (c_X2_refuse_m2 g a now spare K nw sts rf pg) 1 twm_X2_45 twi_yX2_refuse twv_yX2_refuse twin_X2 twc_yX2_refuse yok_X2_refuse (by decide) ⟨rfl, rfl⟩ dX2_soonest_26 rfl sg_at0 rfl rfl (Nat.le_of_ble_eq_true rfl) ⟨Nat.zero_le _, Nat.zero_le _⟩ ?_
      exact V_iret ok dX2_soonest_29 (Nat.zero_le _) (Nat.zero_le _) ⟨rfl, rfl⟩
    · refine V_iload_n ok dX2_soonest_16 rfl 3 rfl ?_
      refine V_cS (v2 := some (.int (bI (trialB m)))) (wn := surgeW g a now spare K nw sts rf pg) (rest := []) ok (c_X2_isTrialLength g m) 1 twm_X2_127 tws_yX2_isTrialLength twin_X2 twc_yX2_isTrialLength yok_X2_isTrialLength (by decide) ⟨rfl, rfl⟩ dX2_soonest_17 rfl rfl (Nat.le_of_ble_eq_true rfl) ⟨Nat.zero_le _, Nat.zero_le _⟩ [] rfl rfl (Nat.le_of_ble_eq_true rfl) (rep_nil _) ?_
      refine V_ifB_ne (tgt := 30) ok dX2_soonest_20 (by decide) (fun h20 => absurd h20 ((ho.resolve_left (fun z => z h6)).resolve_left (fun z => z h13))) (fun h20 => ?_)
      refine V_aload_n ok dX2_soonest_23 rfl 0 rfl ?_
      refine V_bipush (v := (-2)) ok dX2_soonest_24 rfl ?_
      refine V_cW (v2 := some (.int (-2))) (w2 := surgeW g a now spare K nw sts (rfU rf (-2)) pg) (rest := []) ok 0 2 (c_X2_refuse_m2 g a now spare K nw sts rf pg) 1 twm_X2_45 twi_yX2_refuse twv_yX2_refuse twin_X2 twc_yX2_refuse yok_X2_refuse (by decide) ⟨rfl, rfl⟩ dX2_soonest_26 rfl sg_at0 rfl rfl (Nat.le_of_ble_eq_true rfl) ⟨Nat.zero_le _, Nat.zero_le _⟩ ?_
      exact V_iret ok dX2_soonest_29 (Nat.zero_le _) (Nat.zero_le _) ⟨rfl, rfl⟩
set_option maxHeartbeats 4000000 in
set_option maxRecDepth 100000 in
theorem c_X2_best_ok (g : Glob) (a : Nat → Nat) (now spare : LineSt) (K : Nat → LineSt) (nw sts : Nat) (rf : Nat → Int32) (pg : PageSt) (b : Int32) (m w : Nat) (hb : boundB b = true) (hm : m ≤ 100) (hw : w ≤ 1) (hx : LG now) : Con g yX2_best cX2_best 6 (some .int) ({ frames := 4, cells := 0, slots := 0, locals := 102 } : Room) [.ref (a 0), .int b, .int (nI m), .int (nI w)] (surgeW g a now spare K nw sts rf pg) (Is (some (.int (bestA w (bestN now.1 b m 240 0 spare).1))) (surgeW g a now ((bestN now.1 b m 240 0 spare).2) K nw sts rf pg)) := by
  refine con_of_V ypl_X2_best (Nat.le_of_ble_eq_true rfl) [(0, .ref (a 0)), (1, .int b), (2, .int (nI m)), (3, .int (nI w))] rfl (fun Γ ok => ?_)
  have HL : ∀ (μ f t k : Nat) (z : LineSt), μ = 2 * f + (if k = 5 then 1 else 0) → 1 ≤ t → t ≤ 60 → 1 ≤ k → k ≤ 5 → f + 4 * (t - 1) + (k - 1) = 240 → bestN now.1 b m f (4 * (t - 1) + (k - 1)) z = (bestN now.1 b m 240 0 spare) → V g Γ 6 0 0 43 (surgeW g a now z K nw sts rf pg) [(5, .int (nI k)), (4, .int (nI t)), (0, .ref (a 0)), (1, .int b), (2, .int (nI m)), (3, .int (nI w))] [] := by
    intro μ
    induction μ using Nat.strongRecOn with
    | ind μ ih =>
    intro f t k z hmu ht1 ht2 hk1 hk2 hsum hzz
    refine V_iload ok dX2_best_43 0 rfl ?_
    refine V_iconst (v := nI 4) ok dX2_best_45 rfl ?_
    refine V_icmpN_gt (tgt := 80) ok dX2_best_46 (by decide) (by omega) (by omega) (fun h46 => ?_) (fun h46 => ?_)
    · have hk5 : k = 5 := by omega
      refine V_iinc (q := 1) (v := nI (t + 1)) (lv2 := [(4, .int (nI (t + 1))), (5, .int (nI k)), (0, .ref (a 0)), (1, .int b), (2, .int (nI m)), (3, .int (nI w))]) ok dX2_best_80 rfl (nI_inc t 1) (by decide) rfl ?_
      refine V_goto (tgt := 33) ok dX2_best_83 (by decide) ?_
      refine V_iload ok dX2_best_33 0 rfl ?_
      refine V_bipush (v := nI 60) ok dX2_best_35 rfl ?_
      refine V_icmpN_gt (tgt := 86) ok dX2_best_37 (by decide) (by omega) (by omega) (fun h37 => ?_) (fun h37 => ?_)
      · refine V_iconst (v := (-1)) ok dX2_best_86 rfl ?_
        obtain rfl : f = 0 := by omega
        exact V_iret ok dX2_best_87 (Nat.zero_le _) (Nat.zero_le _) ⟨by rw [← hzz]; rfl, by rw [← hzz]; rfl⟩
      · refine V_iconst (v := nI 1) ok dX2_best_40 rfl ?_
        refine V_istore (lv2 := [(5, .int (nI 1)), (4, .int (nI (t + 1))), (0, .ref (a 0)), (1, .int b), (2, .int (nI m)), (3, .int (nI w))]) ok dX2_best_41 (by decide) rfl ?_
        refine V_lv [0, 1, 2, 3, 4, 5] rfl ?_
        exact ih (2 * f) (by rw [hmu, if_pos hk5]; omega) f (t + 1) 1 z (by simp) (by omega) (by omega) (by decide) (by decide) (by omega) (by rw [← hzz]; congr 1; omega)
    · obtain ⟨f0, rfl⟩ : ∃ f0, f = f0 + 1 := ⟨f - 1, by omega⟩
      have e1 : 1 + (4 * (t - 1) + (k - 1)) % 4 = k := by omega
      have e2 : 1 + (4 * (t - 1) + (k - 1)) / 4 = t := by omega
      refine V_aload_n ok dX2_best_49 rfl 2 rfl ?_
      refine V_iload ok dX2_best_50 0 rfl ?_
      refine V_iload ok dX2_best_52 1 rfl ?_
      refine V_iload_n ok dX2_best_54 rfl 3 rfl ?_
      refine V_iload_n ok dX2_best_55 rfl 4 rfl ?_
      refine V_cW (v2 := some (.int (bI (decide (¬ zv (FP.i2d b) < zv (stayN (FP.i2d b) m (tryL now.1 (nI k) (nI t) z)).2.2.2.2.2.1))))) (w2 := surgeW g a now (stayN (FP.i2d b) m (tryL now.1 (nI k) (nI t) z)) K nw sts rf pg) (rest := []) ok 0 2 (c_X2_staysWithin g a now z K nw sts rf pg (nI k) (nI t) b m (okI6 (by omega)) (okI7 (by omega) (by omega)) hm hx) 4 twm_X2_140 twi_yX2_staysWithin twv_yX2_staysWithin twin_X2 twc_yX2_staysWithin yok_X2_staysWithin (by decide) ⟨rfl, rfl⟩ dX2_best_56 rfl sg_at0 rfl rfl (Nat.le_of_ble_eq_true rfl) ⟨Nat.zero_le _, Nat.zero_le _⟩ ?_
      generalize hr56 : stayN (FP.i2d b) m (tryL now.1 (nI k) (nI t) z) = r56
      refine V_ifB_eq (tgt := 74) ok dX2_best_59 (by decide) (fun h59 => ?_) (fun h59 => ?_)
      · refine V_iinc (q := 0) (v := nI (k + 1)) (lv2 := [(5, .int (nI (k + 1))), (4, .int (nI t)), (0, .ref (a 0)), (1, .int b), (2, .int (nI m)), (3, .int (nI w))]) ok dX2_best_74 rfl (nI_inc k 1) (by decide) rfl ?_
        refine V_goto (tgt := 43) ok dX2_best_77 (by decide) ?_
        refine V_lv [0, 1, 2, 3, 4, 5] rfl ?_
        exact ih (2 * f0 + (if k + 1 = 5 then 1 else 0)) (by rw [hmu]; split <;> split <;> omega) f0 t (k + 1) r56 rfl (by omega) (by omega) (by omega) (by omega) (by omega) (by rw [← hzz]; simp only [bestN]; rw [e1, e2, hr56, if_pos (by simpa using h59), show 4 * (t - 1) + (k + 1 - 1) = 4 * (t - 1) + (k - 1) + 1 by omega])
      · have e73 : bestN now.1 b m (f0 + 1) (4 * (t - 1) + (k - 1)) z = (some (4 * (t - 1) + (k - 1)), r56) := by simp only [bestN]; rw [e1, e2, hr56, if_neg (by simpa using h59)]
        refine V_iload_n ok dX2_best_62 rfl 5 rfl ?_
        refine V_ifN_ne (tgt := 71) ok dX2_best_63 (by decide) (by omega) (fun h63 => ?_) (fun h63 => ?_)
        · refine V_iload ok dX2_best_71 1 rfl ?_
          exact V_iret ok dX2_best_73 (Nat.zero_le _) (Nat.zero_le _) ⟨by rw [← hzz, e73]; show _ = some (Value.int (if w = 0 then _ else _)); rw [if_neg h63, e2], by rw [← hzz, e73]⟩
        · refine V_iload ok dX2_best_66 0 rfl ?_
          refine V_goto (tgt := 73) ok dX2_best_68 (by decide) ?_
          exact V_iret ok dX2_best_73 (Nat.zero_le _) (Nat.zero_le _) ⟨by rw [← hzz, e73]; show _ = some (Value.int (if w = 0 then _ else _)); rw [if_pos h63, e1], by rw [← hzz, e73]⟩
  refine V_iload_n ok dX2_best_0 rfl 1 rfl ?_
  refine V_cS (v2 := some (.int (bI (boundB b)))) (wn := surgeW g a now spare K nw sts rf pg) (rest := []) ok (c_X2_isBound g b) 1 twm_X2_137 tws_yX2_isBound twin_X2 twc_yX2_isBound yok_X2_isBound (by decide) ⟨rfl, rfl⟩ dX2_best_1 rfl rfl (Nat.le_of_ble_eq_true rfl) ⟨Nat.zero_le _, Nat.zero_le _⟩ [] rfl rfl (Nat.le_of_ble_eq_true rfl) (rep_nil _) ?_
  refine V_ifB_eq (tgt := 23) ok dX2_best_4 (by decide) (fun h4 => absurd hb h4) (fun h4 => ?_)
  refine V_iload_n ok dX2_best_7 rfl 2 rfl ?_
  refine V_cS (v2 := some (.int (bI (trialB (nI m))))) (wn := surgeW g a now spare K nw sts rf pg) (rest := []) ok (c_X2_isTrialLength g (nI m)) 1 twm_X2_127 tws_yX2_isTrialLength twin_X2 twc_yX2_isTrialLength yok_X2_isTrialLength (by decide) ⟨rfl, rfl⟩ dX2_best_8 rfl rfl (Nat.le_of_ble_eq_true rfl) ⟨Nat.zero_le _, Nat.zero_le _⟩ [] rfl rfl (Nat.le_of_ble_eq_true rfl) (rep_nil _) ?_
  refine V_ifB_eq (tgt := 23) ok dX2_best_11 (by decide) (fun h11 => absurd (trial_m hm) h11) (fun h11 => ?_)
  refine V_iload_n ok dX2_best_14 rfl 3 rfl ?_
  refine V_ifN_lt (tgt := 23) ok dX2_best_15 (by decide) (by omega) ?_
  refine V_iload_n ok dX2_best_18 rfl 3 rfl ?_
  refine V_iconst (v := nI 1) ok dX2_best_19 rfl ?_
  refine V_icmpN_le (tgt := 30) ok dX2_best_20 (by decide) (by omega) (by omega) (fun h20 => ?_) (fun h20 => absurd (by omega) h20)
  refine V_iconst (v := nI 1) ok dX2_best_30 rfl ?_
  refine V_istore (lv2 := [(4, .int (nI 1)), (0, .ref (a 0)), (1, .int b), (2, .int (nI m)), (3, .int (nI w))]) ok dX2_best_31 (by decide) rfl ?_
  refine V_iload ok dX2_best_33 0 rfl ?_
  refine V_bipush (v := nI 60) ok dX2_best_35 rfl ?_
  refine V_icmpN_gt (tgt := 86) ok dX2_best_37 (by decide) (by omega) (by omega) (fun h37 => absurd h37 (by decide)) (fun h37 => ?_)
  refine V_iconst (v := nI 1) ok dX2_best_40 rfl ?_
  refine V_istore (lv2 := [(5, .int (nI 1)), (4, .int (nI 1)), (0, .ref (a 0)), (1, .int b), (2, .int (nI m)), (3, .int (nI w))]) ok dX2_best_41 (by decide) rfl ?_
  refine V_lv [0, 1, 2, 3, 4, 5] rfl ?_
  exact HL (2 * 240) 240 1 1 spare rfl (by decide) (by decide) (by decide) (by decide) (by decide) rfl
set_option maxHeartbeats 4000000 in
set_option maxRecDepth 100000 in
theorem c_X2_best_bad (g : Glob) (a : Nat → Nat) (now spare : LineSt) (K : Nat → LineSt) (nw sts : Nat) (rf : Nat → Int32) (pg : PageSt) (b m w : Int32) (ho : ¬ boundB b = true ∨ ¬ trialB m = true ∨ w < 0 ∨ nI 1 < w) : Con g yX2_best cX2_best 6 (some .int) ({ frames := 4, cells := 0, slots := 0, locals := 102 } : Room) [.ref (a 0), .int b, .int m, .int w] (surgeW g a now spare K nw sts rf pg) (Is (some (.int (-2))) (surgeW g a now spare K nw sts (rfU rf (-2)) pg)) := by
  refine con_of_V ypl_X2_best (Nat.le_of_ble_eq_true rfl) [(0, .ref (a 0)), (1, .int b), (2, .int m), (3, .int w)] rfl (fun Γ ok => ?_)
  refine V_iload_n ok dX2_best_0 rfl 1 rfl ?_
  refine V_cS (v2 := some (.int (bI (boundB b)))) (wn := surgeW g a now spare K nw sts rf pg) (rest := []) ok (c_X2_isBound g b) 1 twm_X2_137 tws_yX2_isBound twin_X2 twc_yX2_isBound yok_X2_isBound (by decide) ⟨rfl, rfl⟩ dX2_best_1 rfl rfl (Nat.le_of_ble_eq_true rfl) ⟨Nat.zero_le _, Nat.zero_le _⟩ [] rfl rfl (Nat.le_of_ble_eq_true rfl) (rep_nil _) ?_
  refine V_ifB_eq (tgt := 23) ok dX2_best_4 (by decide) (fun h4 => ?_) (fun h4 => ?_)
  · refine V_aload_n ok dX2_best_23 rfl 0 rfl ?_
    refine V_bipush (v := (-2)) ok dX2_best_24 rfl ?_
    refine V_cW (v2 := some (.int (-2))) (w2 := surgeW g a now spare K nw sts (rfU rf (-2)) pg) (rest := []) ok 0 2 (c_X2_refuse_m2 g a now spare K nw sts rf pg) 1 twm_X2_45 twi_yX2_refuse twv_yX2_refuse twin_X2 twc_yX2_refuse yok_X2_refuse (by decide) ⟨rfl, rfl⟩ dX2_best_26 rfl sg_at0 rfl rfl (Nat.le_of_ble_eq_true rfl) ⟨Nat.zero_le _, Nat.zero_le _⟩ ?_
    exact V_iret ok dX2_best_29 (Nat.zero_le _) (Nat.zero_le _) ⟨rfl, rfl⟩
  · refine V_iload_n ok dX2_best_7 rfl 2 rfl ?_
    refine V_cS (v2 := some (.int (bI (trialB m)))) (wn := surgeW g a now spare K nw sts rf pg) (rest := []) ok (c_X2_isTrialLength g m) 1 twm_X2_127 tws_yX2_isTrialLength twin_X2 twc_yX2_isTrialLength yok_X2_isTrialLength (by decide) ⟨rfl, rfl⟩ dX2_best_8 rfl rfl (Nat.le_of_ble_eq_true rfl) ⟨Nat.zero_le _, Nat.zero_le _⟩ [] rfl rfl (Nat.le_of_ble_eq_true rfl) (rep_nil _) ?_
    refine V_ifB_eq (tgt := 23) ok dX2_best_11 (by decide) (fun h11 => ?_) (fun h11 => ?_)
    · refine V_aload_n ok dX2_best_23 rfl 0 rfl ?_
      refine V_bipush (v := (-2)) ok dX2_best_24 rfl ?_
      refine V_cW (v2 := some (.int (-2))) (w2 := surgeW g a now spare K nw sts (rfU rf (-2)) pg) (rest := []) ok 0 2 (c_X2_refuse_m2 g a now spare K nw sts rf pg) 1 twm_X2_45 twi_yX2_refuse twv_yX2_refuse twin_X2 twc_yX2_refuse yok_X2_refuse (by decide) ⟨rfl, rfl⟩ dX2_best_26 rfl sg_at0 rfl rfl (Nat.le_of_ble_eq_true rfl) ⟨Nat.zero_le _, Nat.zero_le _⟩ ?_
      exact V_iret ok dX2_best_29 (Nat.zero_le _) (Nat.zero_le _) ⟨rfl, rfl⟩
    · refine V_iload_n ok dX2_best_14 rfl 3 rfl ?_
      refine V_if_lt (tgt := 23) ok dX2_best_15 (by decide) (fun h15 => ?_) (fun h15 => ?_)
      · refine V_aload_n ok dX2_best_23 rfl 0 rfl ?_
        refine V_bipush (v := (-2)) ok dX2_best_24 rfl ?_
        refine V_cW (v2 := some (.int (-2))) (w2 := surgeW g a now spare K nw sts (rfU rf (-2)) pg) (rest := []) ok 0 2 (c_X2_refuse_m2 g a now spare K nw sts rf pg) 1 twm_X2_45 twi_yX2_refuse twv_yX2_refuse twin_X2 twc_yX2_refuse yok_X2_refuse (by decide) ⟨rfl, rfl⟩ dX2_best_26 rfl sg_at0 rfl rfl (Nat.le_of_ble_eq_true rfl) ⟨Nat.zero_le _, Nat.zero_le _⟩ ?_
        exact V_iret ok dX2_best_29 (Nat.zero_le _) (Nat.zero_le _) ⟨rfl, rfl⟩
      · refine V_iload_n ok dX2_best_18 rfl 3 rfl ?_
        refine V_iconst (v := nI 1) ok dX2_best_19 rfl ?_
        refine V_icmp_le (tgt := 30) ok dX2_best_20 (by decide) (fun h20 => absurd h20 (Int32.not_le.mpr (((ho.resolve_left (fun z => z h4)).resolve_left (fun z => z h11)).resolve_left h15))) (fun h20 => ?_)
        refine V_aload_n ok dX2_best_23 rfl 0 rfl ?_
        refine V_bipush (v := (-2)) ok dX2_best_24 rfl ?_
        refine V_cW (v2 := some (.int (-2))) (w2 := surgeW g a now spare K nw sts (rfU rf (-2)) pg) (rest := []) ok 0 2 (c_X2_refuse_m2 g a now spare K nw sts rf pg) 1 twm_X2_45 twi_yX2_refuse twv_yX2_refuse twin_X2 twc_yX2_refuse yok_X2_refuse (by decide) ⟨rfl, rfl⟩ dX2_best_26 rfl sg_at0 rfl rfl (Nat.le_of_ble_eq_true rfl) ⟨Nat.zero_le _, Nat.zero_le _⟩ ?_
        exact V_iret ok dX2_best_29 (Nat.zero_le _) (Nat.zero_le _) ⟨rfl, rfl⟩
