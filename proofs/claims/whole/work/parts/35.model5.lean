theorem LG.mxN {x : LineSt} (h : LG x) {i : Nat} (hi : i ≤ nv x.1 0) : nn (maxU x.2.2.2.1 i) := by
  obtain ⟨j, a, e⟩ := maxU_mem x.2.2.2.1 i; rw [e]; exact (h.2.2.1 j (by omega)).1.1.nn
theorem LG.mnN {x : LineSt} (h : LG x) {i : Nat} (hi : i ≤ nv x.1 0) : nn (minU x.2.2.2.2.1 i) := by
  obtain ⟨j, a, e⟩ := minU_mem x.2.2.2.2.1 i; rw [e]; exact (h.2.2.1 j (by omega)).2.1.nn
/-- a trial's greatest pressure -/
def hiT (v : Nat → Int32) (k t : Int32) (m : Nat) : UInt64 := (advL m (tryL v k t ln0)).2.2.2.2.2.1
def soonM (v : Nat → Int32) (k b : Int32) (m : Nat) : Nat → Nat → Int32
  | 0, _ => (-1)
  | f + 1, t => if zv (FP.i2d b) < zv (hiT v k (nI t) m) then soonM v k b m f (t + 1) else nI t
def bestM (v : Nat → Int32) (b : Int32) (m : Nat) : Nat → Int32 × Int32
  | 0 => ((-1), (-1))
  | k + 1 => if soonM v (nI (k + 1)) b m 60 1 = (-1) then bestM v b m k else if (bestM v b m k).2 = (-1) then (nI (k + 1), soonM v (nI (k + 1)) b m 60 1) else if soonM v (nI (k + 1)) b m 60 1 < (bestM v b m k).2 then (nI (k + 1), soonM v (nI (k + 1)) b m 60 1) else bestM v b m k
set_option maxHeartbeats 4000000 in
set_option maxRecDepth 100000 in
theorem c_X3_farthest_max (g : Glob) (b : Nat → Nat) (x : LineSt) (wv : Nat → UInt64) (ah : Nat → UInt64) (pa : Nat → Int32) (pw : Nat → UInt64) (ai : Nat → Int32) (aw : Nat → UInt64) (sts : Nat) (rf : Nat → Int32) (tx : Nat → Int32) (len : Nat) (pl : Nat) (ord : Nat) (lr : Nat → Int32) (nu : Nat → Int32) (hsh : Int64) (hx : LG x) (hw : WR x wv) : Con g yX3_farthest cX3_farthest 8 (some .double) ({ frames := 0, cells := 0, slots := 0, locals := 0 } : Room) [.ref (b 0), .int (nI 22), .int (nI 1)] (modelW g b x.1 wv ah pa pw ai aw sts rf tx len pl ord lr nu hsh) (Is (some (.double x.2.2.2.2.2.1)) (modelW g b x.1 wv ah pa pw ai aw sts rf tx len pl ord lr nu hsh)) := by
  refine con_of_V ypl_X3_farthest (Nat.le_of_ble_eq_true rfl) [(0, .ref (b 0)), (1, .int (nI 22)), (2, .int (nI 1))] rfl (fun Γ ok => ?_)
  have hN := hx.1.n
  have HL : ∀ (n i : Nat), i ≤ nv x.1 0 → n = nv x.1 0 - i → V g Γ 8 0 0 10 (modelW g b x.1 wv ah pa pw ai aw sts rf tx len pl ord lr nu hsh) [(5, .int (nI (i + 1))), (3, .double (maxU x.2.2.2.1 i)), (2, .int (nI 1)), (1, .int (nI 22)), (0, .ref (b 0))] [] := by
    intro n
    induction n using Nat.strongRecOn with
    | ind n ih =>
    intro i hi hn
    subst hn
    refine V_iload ok dX3_farthest_10 0 rfl ?_
    refine V_aload_n ok dX3_farthest_12 rfl 4 rfl ?_
    refine V_get (v := .ref (b 1)) ok 0 0 tw_X3 twf_X3_7 rfl rfl (by decide) dX3_farthest_13 rfl rfl ?_
    refine V_iconst (v := nI 0) ok dX3_farthest_16 rfl ?_
    refine V_iald (f := x.1) (N := 9) ok 1 0 dX3_farthest_17 rfl rfl (by decide) (by decide) ?_
    refine V_top_int (b := nI (nv x.1 0)) (hx.1.n.1) ?_
    refine V_icmpN_gt (tgt := 72) ok dX3_farthest_18 (by decide) (by omega) (by omega) (fun h18 => ?_) (fun h18 => ?_)
    · refine V_dload_n ok dX3_farthest_72 rfl 1 rfl ?_
      exact V_dret ok dX3_farthest_73 (Nat.zero_le _) (Nat.zero_le _) ⟨by rw [hx.2.2.2.2.2.1, show nv x.1 0 = i by omega], rfl⟩
    · refine V_aload_n ok dX3_farthest_21 rfl 4 rfl ?_
      refine V_get (v := .ref (b 2)) ok 0 1 tw_X3 twf_X3_13 rfl rfl (by decide) dX3_farthest_22 rfl rfl ?_
      refine V_iload_n ok dX3_farthest_25 rfl 3 rfl ?_
      refine V_iload ok dX3_farthest_26 0 rfl ?_
      refine V_iaddN (a := 22) (b := i + 1) (c := 22 + (i + 1)) ok dX3_farthest_28 (by first | rfl | omega) ?_
      refine V_dald (f := wv) (N := 45) ok 2 (22 + (i + 1)) dX3_farthest_29 rfl rfl (by omega) (by decide) ?_
      refine V_top_double (b := x.2.2.2.1 (i + 1)) ((hw.1 (i + 1) (by omega)).2.2.1) ?_
      refine V_dstore (lv2 := [(6, .double (x.2.2.2.1 (i + 1))), (5, .int (nI (i + 1))), (3, .double (maxU x.2.2.2.1 i)), (2, .int (nI 1)), (1, .int (nI 22)), (0, .ref (b 0))]) ok dX3_farthest_30 (by decide) rfl ?_
      refine V_iload_n ok dX3_farthest_32 rfl 3 rfl ?_
      refine V_ifN_eq (tgt := 52) ok dX3_farthest_33 (by decide) (by omega) (fun h33 => absurd h33 (by decide)) (fun h33 => ?_)
      refine V_dload ok dX3_farthest_36 0 rfl ?_
      refine V_dload_n ok dX3_farthest_38 rfl 2 rfl ?_
      have J39 : V g Γ 8 0 0 65 (modelW g b x.1 wv ah pa pw ai aw sts rf tx len pl ord lr nu hsh) [(6, .double (x.2.2.2.1 (i + 1))), (5, .int (nI (i + 1))), (3, .double (maxU x.2.2.2.1 i)), (2, .int (nI 1)), (1, .int (nI 22)), (0, .ref (b 0))] [.double (if zv (maxU x.2.2.2.1 i) < zv (x.2.2.2.1 (i + 1)) then x.2.2.2.1 (i + 1) else maxU x.2.2.2.1 i)] := by
        refine V_dstore_n (lv2 := [(3, .double (if zv (maxU x.2.2.2.1 i) < zv (x.2.2.2.1 (i + 1)) then x.2.2.2.1 (i + 1) else maxU x.2.2.2.1 i)), (6, .double (x.2.2.2.1 (i + 1))), (5, .int (nI (i + 1))), (2, .int (nI 1)), (1, .int (nI 22)), (0, .ref (b 0))]) ok dX3_farthest_65 rfl (by decide) rfl ?_
        refine V_iinc (q := 2) (v := nI (i + 2)) (lv2 := [(5, .int (nI (i + 2))), (3, .double (if zv (maxU x.2.2.2.1 i) < zv (x.2.2.2.1 (i + 1)) then x.2.2.2.1 (i + 1) else maxU x.2.2.2.1 i)), (6, .double (x.2.2.2.1 (i + 1))), (2, .int (nI 1)), (1, .int (nI 22)), (0, .ref (b 0))]) ok dX3_farthest_66 rfl (nI_inc (i + 1) 1) (by decide) rfl ?_
        refine V_goto (tgt := 10) ok dX3_farthest_69 (by decide) ?_
        refine V_lv [0, 1, 3, 4, 5] rfl ?_
        exact ih (nv x.1 0 - (i + 1)) (by omega) (i + 1) (by omega) rfl
      refine V_dle (tgt := 48) ok dX3_farthest_39 dX3_farthest_40 (by decide) (hx.2.2.1 (i + 1) (by omega)).1.1.nn (hx.mxN (by omega)) (fun h39 => ?_) (fun h39 => ?_)
      · refine V_dload_n ok dX3_farthest_48 rfl 2 rfl ?_
        refine V_goto (tgt := 65) ok dX3_farthest_49 (by decide) ?_
        simp only [if_neg h39] at J39
        exact J39
      · refine V_dload ok dX3_farthest_43 0 rfl ?_
        refine V_goto (tgt := 65) ok dX3_farthest_45 (by decide) ?_
        simp only [if_pos h39] at J39
        exact J39
  refine V_aload_n ok dX3_farthest_0 rfl 0 rfl ?_
  refine V_get (v := .ref (b 2)) ok 0 1 tw_X3 twf_X3_13 rfl rfl (by decide) dX3_farthest_1 rfl rfl ?_
  refine V_iload_n ok dX3_farthest_4 rfl 1 rfl ?_
  refine V_dald (f := wv) (N := 45) ok 2 22 dX3_farthest_5 rfl rfl (by decide) (by decide) ?_
  refine V_top_double (b := maxU x.2.2.2.1 0) ((hw.1 0 (Nat.zero_le _)).2.2.1) ?_
  refine V_dstore_n (lv2 := [(3, .double (maxU x.2.2.2.1 0)), (0, .ref (b 0)), (1, .int (nI 22)), (2, .int (nI 1))]) ok dX3_farthest_6 rfl (by decide) rfl ?_
  refine V_iconst (v := nI 1) ok dX3_farthest_7 rfl ?_
  refine V_istore (lv2 := [(5, .int (nI 1)), (3, .double (maxU x.2.2.2.1 0)), (0, .ref (b 0)), (1, .int (nI 22)), (2, .int (nI 1))]) ok dX3_farthest_8 (by decide) rfl ?_
  refine V_lv [0, 1, 4, 3, 2] rfl ?_
  exact HL (nv x.1 0) 0 (Nat.zero_le _) rfl
set_option maxHeartbeats 4000000 in
set_option maxRecDepth 100000 in
theorem c_X3_farthest_min (g : Glob) (b : Nat → Nat) (x : LineSt) (wv : Nat → UInt64) (ah : Nat → UInt64) (pa : Nat → Int32) (pw : Nat → UInt64) (ai : Nat → Int32) (aw : Nat → UInt64) (sts : Nat) (rf : Nat → Int32) (tx : Nat → Int32) (len : Nat) (pl : Nat) (ord : Nat) (lr : Nat → Int32) (nu : Nat → Int32) (hsh : Int64) (hx : LG x) (hw : WR x wv) : Con g yX3_farthest cX3_farthest 8 (some .double) ({ frames := 0, cells := 0, slots := 0, locals := 0 } : Room) [.ref (b 0), .int (nI 33), .int (nI 0)] (modelW g b x.1 wv ah pa pw ai aw sts rf tx len pl ord lr nu hsh) (Is (some (.double x.2.2.2.2.2.2.1)) (modelW g b x.1 wv ah pa pw ai aw sts rf tx len pl ord lr nu hsh)) := by
  refine con_of_V ypl_X3_farthest (Nat.le_of_ble_eq_true rfl) [(0, .ref (b 0)), (1, .int (nI 33)), (2, .int (nI 0))] rfl (fun Γ ok => ?_)
  have hN := hx.1.n
  have HL : ∀ (n i : Nat), i ≤ nv x.1 0 → n = nv x.1 0 - i → V g Γ 8 0 0 10 (modelW g b x.1 wv ah pa pw ai aw sts rf tx len pl ord lr nu hsh) [(5, .int (nI (i + 1))), (3, .double (minU x.2.2.2.2.1 i)), (2, .int (nI 0)), (1, .int (nI 33)), (0, .ref (b 0))] [] := by
    intro n
    induction n using Nat.strongRecOn with
    | ind n ih =>
    intro i hi hn
    subst hn
    refine V_iload ok dX3_farthest_10 0 rfl ?_
    refine V_aload_n ok dX3_farthest_12 rfl 4 rfl ?_
    refine V_get (v := .ref (b 1)) ok 0 0 tw_X3 twf_X3_7 rfl rfl (by decide) dX3_farthest_13 rfl rfl ?_
    refine V_iconst (v := nI 0) ok dX3_farthest_16 rfl ?_
    refine V_iald (f := x.1) (N := 9) ok 1 0 dX3_farthest_17 rfl rfl (by decide) (by decide) ?_
    refine V_top_int (b := nI (nv x.1 0)) (hx.1.n.1) ?_
    refine V_icmpN_gt (tgt := 72) ok dX3_farthest_18 (by decide) (by omega) (by omega) (fun h18 => ?_) (fun h18 => ?_)
    · refine V_dload_n ok dX3_farthest_72 rfl 1 rfl ?_
      exact V_dret ok dX3_farthest_73 (Nat.zero_le _) (Nat.zero_le _) ⟨by rw [hx.2.2.2.2.2.2, show nv x.1 0 = i by omega], rfl⟩
    · refine V_aload_n ok dX3_farthest_21 rfl 4 rfl ?_
      refine V_get (v := .ref (b 2)) ok 0 1 tw_X3 twf_X3_13 rfl rfl (by decide) dX3_farthest_22 rfl rfl ?_
      refine V_iload_n ok dX3_farthest_25 rfl 3 rfl ?_
      refine V_iload ok dX3_farthest_26 0 rfl ?_
      refine V_iaddN (a := 33) (b := i + 1) (c := 33 + (i + 1)) ok dX3_farthest_28 (by first | rfl | omega) ?_
      refine V_dald (f := wv) (N := 45) ok 2 (33 + (i + 1)) dX3_farthest_29 rfl rfl (by omega) (by decide) ?_
      refine V_top_double (b := x.2.2.2.2.1 (i + 1)) ((hw.1 (i + 1) (by omega)).2.2.2) ?_
      refine V_dstore (lv2 := [(6, .double (x.2.2.2.2.1 (i + 1))), (5, .int (nI (i + 1))), (3, .double (minU x.2.2.2.2.1 i)), (2, .int (nI 0)), (1, .int (nI 33)), (0, .ref (b 0))]) ok dX3_farthest_30 (by decide) rfl ?_
      refine V_iload_n ok dX3_farthest_32 rfl 3 rfl ?_
      refine V_ifN_eq (tgt := 52) ok dX3_farthest_33 (by decide) (by omega) (fun h33 => ?_) (fun h33 => absurd rfl h33)
      refine V_dload ok dX3_farthest_52 0 rfl ?_
      refine V_dload_n ok dX3_farthest_54 rfl 2 rfl ?_
      have J55 : V g Γ 8 0 0 65 (modelW g b x.1 wv ah pa pw ai aw sts rf tx len pl ord lr nu hsh) [(6, .double (x.2.2.2.2.1 (i + 1))), (5, .int (nI (i + 1))), (3, .double (minU x.2.2.2.2.1 i)), (2, .int (nI 0)), (1, .int (nI 33)), (0, .ref (b 0))] [.double (if zv (x.2.2.2.2.1 (i + 1)) < zv (minU x.2.2.2.2.1 i) then x.2.2.2.2.1 (i + 1) else minU x.2.2.2.2.1 i)] := by
        refine V_dstore_n (lv2 := [(3, .double (if zv (x.2.2.2.2.1 (i + 1)) < zv (minU x.2.2.2.2.1 i) then x.2.2.2.2.1 (i + 1) else minU x.2.2.2.2.1 i)), (6, .double (x.2.2.2.2.1 (i + 1))), (5, .int (nI (i + 1))), (2, .int (nI 0)), (1, .int (nI 33)), (0, .ref (b 0))]) ok dX3_farthest_65 rfl (by decide) rfl ?_
        refine V_iinc (q := 2) (v := nI (i + 2)) (lv2 := [(5, .int (nI (i + 2))), (3, .double (if zv (x.2.2.2.2.1 (i + 1)) < zv (minU x.2.2.2.2.1 i) then x.2.2.2.2.1 (i + 1) else minU x.2.2.2.2.1 i)), (6, .double (x.2.2.2.2.1 (i + 1))), (2, .int (nI 0)), (1, .int (nI 33)), (0, .ref (b 0))]) ok dX3_farthest_66 rfl (nI_inc (i + 1) 1) (by decide) rfl ?_
        refine V_goto (tgt := 10) ok dX3_farthest_69 (by decide) ?_
        refine V_lv [0, 1, 3, 4, 5] rfl ?_
        exact ih (nv x.1 0 - (i + 1)) (by omega) (i + 1) (by omega) rfl
      refine V_dge (tgt := 64) ok dX3_farthest_55 dX3_farthest_56 (by decide) (hx.2.2.1 (i + 1) (by omega)).2.1.nn (hx.mnN (by omega)) (fun h55 => ?_) (fun h55 => ?_)
      · refine V_dload_n ok dX3_farthest_64 rfl 2 rfl ?_
        simp only [if_neg h55] at J55
        exact J55
      · refine V_dload ok dX3_farthest_59 0 rfl ?_
        refine V_goto (tgt := 65) ok dX3_farthest_61 (by decide) ?_
        simp only [if_pos h55] at J55
        exact J55
  refine V_aload_n ok dX3_farthest_0 rfl 0 rfl ?_
  refine V_get (v := .ref (b 2)) ok 0 1 tw_X3 twf_X3_13 rfl rfl (by decide) dX3_farthest_1 rfl rfl ?_
  refine V_iload_n ok dX3_farthest_4 rfl 1 rfl ?_
  refine V_dald (f := wv) (N := 45) ok 2 33 dX3_farthest_5 rfl rfl (by decide) (by decide) ?_
  refine V_top_double (b := minU x.2.2.2.2.1 0) ((hw.1 0 (Nat.zero_le _)).2.2.2) ?_
  refine V_dstore_n (lv2 := [(3, .double (minU x.2.2.2.2.1 0)), (0, .ref (b 0)), (1, .int (nI 33)), (2, .int (nI 0))]) ok dX3_farthest_6 rfl (by decide) rfl ?_
  refine V_iconst (v := nI 1) ok dX3_farthest_7 rfl ?_
  refine V_istore (lv2 := [(5, .int (nI 1)), (3, .double (minU x.2.2.2.2.1 0)), (0, .ref (b 0)), (1, .int (nI 33)), (2, .int (nI 0))]) ok dX3_farthest_8 (by decide) rfl ?_
  refine V_lv [0, 1, 4, 3, 2] rfl ?_
  exact HL (nv x.1 0) 0 (Nat.zero_le _) rfl
set_option maxHeartbeats 4000000 in
set_option maxRecDepth 100000 in
theorem c_X3_allIs (g : Glob) (b : Nat → Nat) (x : LineSt) (wv : Nat → UInt64) (ah : Nat → UInt64) (pa : Nat → Int32) (pw : Nat → UInt64) (ai : Nat → Int32) (aw : Nat → UInt64) (sts : Nat) (rf : Nat → Int32) (tx : Nat → Int32) (len : Nat) (pl : Nat) (ord : Nat) (lr : Nat → Int32) (nu : Nat → Int32) (hsh : Int64) (w : Nat) (hx : LG x) (hw : WR x wv) (hw3 : w ≤ 3) : Con g yX3_allIs cX3_allIs 2 (some .double) ({ frames := 1, cells := 0, slots := 0, locals := 27 } : Room) [.ref (b 0), .int (nI w)] (modelW g b x.1 wv ah pa pw ai aw sts rf tx len pl ord lr nu hsh) (Is (some (.double (allV x w))) (modelW g b x.1 wv ah pa pw ai aw sts rf tx len pl ord lr nu hsh)) := by
  refine con_of_V ypl_X3_allIs (Nat.le_of_ble_eq_true rfl) [(0, .ref (b 0)), (1, .int (nI w))] rfl (fun Γ ok => ?_)
  refine V_iload_n ok dX3_allIs_0 rfl 1 rfl ?_
  rcases (show w = 0 ∨ w = 1 ∨ w = 2 ∨ w = 3 by omega) with hk | hk | hk | hk
  · refine V_top_int (b := nI 0) (by rw [hk]) ?_
    refine V_tabIn (off := 27) (tgt := 28) ok dX3_allIs_1 (by decide) (by decide) rfl (by decide) ?_
    refine V_aload_n ok dX3_allIs_28 rfl 0 rfl ?_
    refine V_cW (v2 := some (.double (kept0 x.2.1 x.2.2.1 (nv x.1 0 + 1)))) (w2 := modelW g b x.1 wv ah pa pw ai aw sts rf tx len pl ord lr nu hsh) (rest := []) ok 0 3 (c_X3_kept g b x wv ah pa pw ai aw sts rf tx len pl ord lr nu hsh hx hw) 0 twm_X3_122 twi_yX3_kept twv_yX3_kept twin_X3 twc_yX3_kept yok_X3_kept (by decide) ⟨rfl, rfl⟩ dX3_allIs_29 rfl rfl rfl rfl (Nat.le_of_ble_eq_true rfl) ⟨Nat.zero_le _, Nat.zero_le _⟩ ?_
    exact V_dret ok dX3_allIs_32 (Nat.zero_le _) (Nat.zero_le _) ⟨by subst hk; rfl, rfl⟩
  · refine V_top_int (b := nI 1) (by rw [hk]) ?_
    refine V_tabIn (off := 32) (tgt := 33) ok dX3_allIs_1 (by decide) (by decide) rfl (by decide) ?_
    refine V_aload_n ok dX3_allIs_33 rfl 0 rfl ?_
    refine V_bipush (v := nI 22) ok dX3_allIs_34 rfl ?_
    refine V_iconst (v := nI 1) ok dX3_allIs_36 rfl ?_
    refine V_cW (v2 := some (.double x.2.2.2.2.2.1)) (w2 := modelW g b x.1 wv ah pa pw ai aw sts rf tx len pl ord lr nu hsh) (rest := []) ok 0 3 (c_X3_farthest_max g b x wv ah pa pw ai aw sts rf tx len pl ord lr nu hsh hx hw) 2 twm_X3_126 twi_yX3_farthest twv_yX3_farthest twin_X3 twc_yX3_farthest yok_X3_farthest (by decide) ⟨rfl, rfl⟩ dX3_allIs_37 rfl rfl rfl rfl (Nat.le_of_ble_eq_true rfl) ⟨Nat.zero_le _, Nat.zero_le _⟩ ?_
    exact V_dret ok dX3_allIs_40 (Nat.zero_le _) (Nat.zero_le _) ⟨by subst hk; rfl, rfl⟩
  · refine V_top_int (b := nI 2) (by rw [hk]) ?_
    refine V_tabIn (off := 40) (tgt := 41) ok dX3_allIs_1 (by decide) (by decide) rfl (by decide) ?_
    refine V_aload_n ok dX3_allIs_41 rfl 0 rfl ?_
    refine V_bipush (v := nI 33) ok dX3_allIs_42 rfl ?_
    refine V_iconst (v := nI 0) ok dX3_allIs_44 rfl ?_
    refine V_cW (v2 := some (.double x.2.2.2.2.2.2.1)) (w2 := modelW g b x.1 wv ah pa pw ai aw sts rf tx len pl ord lr nu hsh) (rest := []) ok 0 3 (c_X3_farthest_min g b x wv ah pa pw ai aw sts rf tx len pl ord lr nu hsh hx hw) 2 twm_X3_126 twi_yX3_farthest twv_yX3_farthest twin_X3 twc_yX3_farthest yok_X3_farthest (by decide) ⟨rfl, rfl⟩ dX3_allIs_45 rfl rfl rfl rfl (Nat.le_of_ble_eq_true rfl) ⟨Nat.zero_le _, Nat.zero_le _⟩ ?_
    exact V_dret ok dX3_allIs_48 (Nat.zero_le _) (Nat.zero_le _) ⟨by subst hk; rfl, rfl⟩
  · refine V_top_int (b := nI 3) (by rw [hk]) ?_
    refine V_tabOut (tgt := 49) ok dX3_allIs_1 (by decide) (by decide) ?_
    refine V_aload_n ok dX3_allIs_49 rfl 0 rfl ?_
    refine V_get (v := .ref (b 1)) ok 0 0 tw_X3 twf_X3_7 rfl rfl (by decide) dX3_allIs_50 rfl rfl ?_
    refine V_iconst (v := nI 5) ok dX3_allIs_53 rfl ?_
    refine V_iald (f := x.1) (N := 9) ok 1 5 dX3_allIs_54 rfl rfl (by decide) (by decide) ?_
    refine V_top_int (b := nI (nv x.1 5)) (hx.1.rt.1) ?_
    refine V_iconst (v := nI 3) ok dX3_allIs_55 rfl ?_
    have hrt := hx.1.rt
    refine V_icmpN_ne (tgt := 69) ok dX3_allIs_56 (by decide) (by omega) (by omega) (fun h56 => ?_) (fun h56 => ?_)
    · refine V_aload_n ok dX3_allIs_69 rfl 0 rfl ?_
      refine V_get (v := .ref (b 1)) ok 0 0 tw_X3 twf_X3_7 rfl rfl (by decide) dX3_allIs_70 rfl rfl ?_
      refine V_iconst (v := nI 1) ok dX3_allIs_73 rfl ?_
      refine V_iald (f := x.1) (N := 9) ok 1 1 dX3_allIs_74 rfl rfl (by decide) (by decide) ?_
      refine V_i2d ok dX3_allIs_75 ?_
      exact V_dret ok dX3_allIs_76 (Nat.zero_le _) (Nat.zero_le _) ⟨by subst hk; rw [← hx.2.2.2.2.1 h56]; rfl, rfl⟩
    · refine V_aload_n ok dX3_allIs_59 rfl 0 rfl ?_
      refine V_get (v := .ref (b 2)) ok 0 1 tw_X3 twf_X3_13 rfl rfl (by decide) dX3_allIs_60 rfl rfl ?_
      refine V_bipush (v := nI 44) ok dX3_allIs_63 rfl ?_
      refine V_dald (f := wv) (N := 45) ok 2 44 dX3_allIs_65 rfl rfl (by decide) (by decide) ?_
      refine V_top_double (b := x.2.2.2.2.2.2.2) (hw.2) ?_
      refine V_goto (tgt := 76) ok dX3_allIs_66 (by decide) ?_
      exact V_dret ok dX3_allIs_76 (Nat.zero_le _) (Nat.zero_le _) ⟨by subst hk; rfl, rfl⟩
set_option maxHeartbeats 4000000 in
set_option maxRecDepth 100000 in
theorem c_X3_tried (g : Glob) (b : Nat → Nat) (x : LineSt) (wv : Nat → UInt64) (ah : Nat → UInt64) (pa : Nat → Int32) (pw : Nat → UInt64) (ai : Nat → Int32) (aw : Nat → UInt64) (sts : Nat) (rf : Nat → Int32) (tx : Nat → Int32) (len : Nat) (pl : Nat) (ord : Nat) (lr : Nat → Int32) (nu : Nat → Int32) (hsh : Int64) (k t : Int32) (m : Nat) (sp : LineSt) (hv : VG (tryV x.1 k t)) (hm : m ≤ 100) : Con g yX3_tried cX3_tried 6 (some .double) ({ frames := 4, cells := 0, slots := 0, locals := 100 } : Room) [.ref (b 0), .int k, .int t, .int (nI m)] (modelW g b x.1 wv ah pa pw ai aw sts rf tx len pl ord lr nu hsh) (fun r_ w_ => r_ = (some (.double (advL m (settleL (tryV x.1 k t, sp.2))).2.2.2.2.2.1)) ∧ ∃ ah2 : Nat → UInt64,  w_ = modelW g b x.1 wv ah2 pa pw x.1 wv sts rf tx len pl ord lr nu hsh) := by
  refine con_of_V ypl_X3_tried (Nat.le_of_ble_eq_true rfl) [(0, .ref (b 0)), (1, .int k), (2, .int t), (3, .int (nI m))] rfl (fun Γ ok => ?_)
  have hg : LG (settleL (tryV x.1 k t, sp.2)) := LG.settle hv
  have h8 : nv (settleL (tryV x.1 k t, sp.2)).1 8 = 0 := hv.steady.2.1
  refine V_aload_n ok dX3_tried_0 rfl 0 rfl ?_
  refine V_cW (v2 := none) (w2 := modelW g b x.1 wv ah pa pw x.1 wv sts rf tx len pl ord lr nu hsh) (rest := []) ok 0 3 (c_X3_laysAside g b x.1 wv ah pa pw ai aw sts rf tx len pl ord lr nu hsh) 0 twm_X3_139 twi_yX3_laysAside twv_yX3_laysAside twin_X3 twc_yX3_laysAside yok_X3_laysAside (by decide) ⟨rfl, rfl⟩ dX3_tried_1 rfl rfl rfl rfl (Nat.le_of_ble_eq_true rfl) ⟨Nat.zero_le _, Nat.zero_le _⟩ ?_
  refine V_aload_n ok dX3_tried_4 rfl 0 rfl ?_
  refine V_get (v := .ref (b 1)) ok 0 0 tw_X3 twf_X3_7 rfl rfl (by decide) dX3_tried_5 rfl rfl ?_
  refine V_iconst (v := nI 5) ok dX3_tried_8 rfl ?_
  refine V_iconst (v := nI 0) ok dX3_tried_9 rfl ?_
  refine V_iast (f := x.1) (N := 9) (w2 := modelW g b (upd x.1 5 (nI 0)) wv ah pa pw x.1 wv sts rf tx len pl ord lr nu hsh) ok 1 5 dX3_tried_10 rfl rfl (by decide) (by decide) rfl ?_
  refine V_aload_n ok dX3_tried_11 rfl 0 rfl ?_
  refine V_iload_n ok dX3_tried_12 rfl 1 rfl ?_
  refine V_iload_n ok dX3_tried_13 rfl 2 rfl ?_
  refine V_cW (v2 := some (.int ((upd x.1 5 (nI 0)) 6))) (w2 := modelW g b (upd (upd (upd x.1 5 (nI 0)) 6 k) 7 t) wv ah pa pw x.1 wv sts rf tx len pl ord lr nu hsh) (rest := []) ok 0 3 (c_X3_becomesLaw g b (upd x.1 5 (nI 0)) wv ah pa pw x.1 wv sts rf tx len pl ord lr nu hsh k t) 2 twm_X3_102 twi_yX3_becomesLaw twv_yX3_becomesLaw twin_X3 twc_yX3_becomesLaw yok_X3_becomesLaw (by decide) ⟨rfl, rfl⟩ dX3_tried_14 rfl rfl rfl rfl (Nat.le_of_ble_eq_true rfl) ⟨Nat.zero_le _, Nat.zero_le _⟩ ?_
  refine V_pop ok dX3_tried_17 rfl ?_
  refine V_aload_n ok dX3_tried_18 rfl 0 rfl ?_
  refine V_cX (rest := []) ok 0 3 (c_X3_laysSteady g b (upd (upd (upd x.1 5 (nI 0)) 6 k) 7 t, sp.2) wv ah pa pw x.1 wv sts rf tx len pl ord lr nu hsh hv) 0 twm_X3_44 twi_yX3_laysSteady twv_yX3_laysSteady twin_X3 twc_yX3_laysSteady yok_X3_laysSteady (by decide) ⟨rfl, rfl⟩ dX3_tried_19 rfl rfl rfl rfl (Nat.le_of_ble_eq_true rfl) ⟨Nat.zero_le _, Nat.zero_le _⟩ (fun v_ w_ hh => ?_)
  obtain ⟨rfl, wv19, hw19, rfl⟩ := hh
  refine V_aload_n ok dX3_tried_22 rfl 0 rfl ?_
  refine V_iload_n ok dX3_tried_23 rfl 3 rfl ?_
  refine V_cX (rest := []) ok 0 3 (c_X3_goesOnFor g b (settleL (upd (upd (upd x.1 5 (nI 0)) 6 k) 7 t, sp.2)) wv19 ah pa pw x.1 wv sts rf tx len pl ord lr nu hsh m hg (show nv (settleL (tryV x.1 k t, sp.2)).1 8 + m ≤ 999 by omega) hw19) 1 twm_X3_105 twi_yX3_goesOnFor twv_yX3_goesOnFor twin_X3 twc_yX3_goesOnFor yok_X3_goesOnFor (by decide) ⟨rfl, rfl⟩ dX3_tried_24 rfl rfl rfl rfl (Nat.le_of_ble_eq_true rfl) ⟨Nat.zero_le _, Nat.zero_le _⟩ (fun v_ w_ hh => ?_)
  obtain ⟨rfl, wv24, ah24, hw24, rfl⟩ := hh
  refine V_pop ok dX3_tried_27 rfl ?_
  refine V_aload_n ok dX3_tried_28 rfl 0 rfl ?_
  refine V_bipush (v := nI 22) ok dX3_tried_29 rfl ?_
  refine V_iconst (v := nI 1) ok dX3_tried_31 rfl ?_
  refine V_cW (v2 := some (.double ((advL m (settleL (upd (upd (upd x.1 5 (nI 0)) 6 k) 7 t, sp.2))).2.2.2.2.2.1))) (w2 := modelW g b ((advL m (settleL (upd (upd (upd x.1 5 (nI 0)) 6 k) 7 t, sp.2))).1) wv24 ah24 pa pw x.1 wv sts rf tx len pl ord lr nu hsh) (rest := []) ok 0 3 (c_X3_farthest_max g b (advL m (settleL (upd (upd (upd x.1 5 (nI 0)) 6 k) 7 t, sp.2))) wv24 ah24 pa pw x.1 wv sts rf tx len pl ord lr nu hsh (hg.adv m (by omega)).1 hw24) 2 twm_X3_126 twi_yX3_farthest twv_yX3_farthest twin_X3 twc_yX3_farthest yok_X3_farthest (by decide) ⟨rfl, rfl⟩ dX3_tried_32 rfl rfl rfl rfl (Nat.le_of_ble_eq_true rfl) ⟨Nat.zero_le _, Nat.zero_le _⟩ ?_
  refine V_dstore (lv2 := [(4, .double ((advL m (settleL (upd (upd (upd x.1 5 (nI 0)) 6 k) 7 t, sp.2))).2.2.2.2.2.1)), (0, .ref (b 0)), (1, .int k), (2, .int t), (3, .int (nI m))]) ok dX3_tried_35 (by decide) rfl ?_
  refine V_aload_n ok dX3_tried_37 rfl 1 rfl ?_
  refine V_cW (v2 := none) (w2 := modelW g b x.1 wv ah24 pa pw x.1 wv sts rf tx len pl ord lr nu hsh) (rest := []) ok 0 3 (c_X3_becomesAside g b ((advL m (settleL (upd (upd (upd x.1 5 (nI 0)) 6 k) 7 t, sp.2))).1) wv24 ah24 pa pw x.1 wv sts rf tx len pl ord lr nu hsh) 0 twm_X3_142 twi_yX3_becomesAside twv_yX3_becomesAside twin_X3 twc_yX3_becomesAside yok_X3_becomesAside (by decide) ⟨rfl, rfl⟩ dX3_tried_38 rfl rfl rfl rfl (Nat.le_of_ble_eq_true rfl) ⟨Nat.zero_le _, Nat.zero_le _⟩ ?_
  refine V_dload ok dX3_tried_41 0 rfl ?_
  exact V_dret ok dX3_tried_43 (Nat.zero_le _) (Nat.zero_le _) ⟨rfl, _, rfl⟩
set_option maxHeartbeats 4000000 in
set_option maxRecDepth 100000 in
theorem c_X3_pipe_ok (g : Glob) (b : Nat → Nat) (x : LineSt) (wv : Nat → UInt64) (ah : Nat → UInt64) (pa : Nat → Int32) (pw : Nat → UInt64) (ai : Nat → Int32) (aw : Nat → UInt64) (sts : Nat) (rf : Nat → Int32) (tx : Nat → Int32) (len : Nat) (pl : Nat) (ord : Nat) (lr : Nat → Int32) (nu : Nat → Int32) (hsh : Int64) (u : Int32) (hf : pipB u = true) (hv : VG (upd x.1 0 u)) (hst : sts ≤ 4) : Con g yX3_pipe cX3_pipe 2 (some .int) ({ frames := 2, cells := 0, slots := 0, locals := 48 } : Room) [.ref (b 0), .int u] (modelW g b x.1 wv ah pa pw ai aw sts rf tx len pl ord lr nu hsh) (fun r_ w_ => r_ = (some (.int (x.1 0))) ∧ ∃ wv2 : Nat → UInt64, (WR (settleL (upd x.1 0 u, x.2)) wv2) ∧  w_ = modelW g b ((settleL (upd x.1 0 u, x.2)).1) wv2 ah (leaI pa sts x.1) (leaD pw sts wv) ai aw (stsU sts) rf tx len pl ord lr nu hsh) := by
  refine con_of_V ypl_X3_pipe (Nat.le_of_ble_eq_true rfl) [(0, .ref (b 0)), (1, .int u)] rfl (fun Γ ok => ?_)
  refine V_aload_n ok dX3_pipe_0 rfl 0 rfl ?_
  refine V_iload_n ok dX3_pipe_1 rfl 1 rfl ?_
  refine V_cW (v2 := some (.int (bI (pipB u)))) (w2 := modelW g b x.1 wv ah pa pw ai aw sts rf tx len pl ord lr nu hsh) (rest := []) ok 0 3 (c_X3_mayPipe g b x.1 wv ah pa pw ai aw sts rf tx len pl ord lr nu hsh u) 1 twm_X3_81 twi_yX3_mayPipe twv_yX3_mayPipe twin_X3 twc_yX3_mayPipe yok_X3_mayPipe (by decide) ⟨rfl, rfl⟩ dX3_pipe_2 rfl rfl rfl rfl (Nat.le_of_ble_eq_true rfl) ⟨Nat.zero_le _, Nat.zero_le _⟩ ?_
  refine V_ifB_ne (tgt := 15) ok dX3_pipe_5 (by decide) (fun h5 => ?_) (fun h5 => absurd hf h5)
  refine V_aload_n ok dX3_pipe_15 rfl 0 rfl ?_
  refine V_cW (v2 := none) (w2 := modelW g b x.1 wv ah (leaI pa sts x.1) (leaD pw sts wv) ai aw (stsU sts) rf tx len pl ord lr nu hsh) (rest := []) ok 0 3 (c_X3_leaves g b x.1 wv ah pa pw ai aw sts rf tx len pl ord lr nu hsh hst) 0 twm_X3_85 twi_yX3_leaves twv_yX3_leaves twin_X3 twc_yX3_leaves yok_X3_leaves (by decide) ⟨rfl, rfl⟩ dX3_pipe_16 rfl rfl rfl rfl (Nat.le_of_ble_eq_true rfl) ⟨Nat.zero_le _, Nat.zero_le _⟩ ?_
  refine V_aload_n ok dX3_pipe_19 rfl 0 rfl ?_
  refine V_iconst (v := nI 0) ok dX3_pipe_20 rfl ?_
  refine V_iload_n ok dX3_pipe_21 rfl 1 rfl ?_
  refine V_cX (rest := []) ok 0 3 (c_X3_becomes g b x wv ah (leaI pa sts x.1) (leaD pw sts wv) ai aw (stsU sts) rf tx len pl ord lr nu hsh 0 u (by decide) hv) 2 twm_X3_88 twi_yX3_becomes twv_yX3_becomes twin_X3 twc_yX3_becomes yok_X3_becomes (by decide) ⟨rfl, rfl⟩ dX3_pipe_22 rfl rfl rfl rfl (Nat.le_of_ble_eq_true rfl) ⟨Nat.zero_le _, Nat.zero_le _⟩ (fun v_ w_ hh => ?_)
  obtain ⟨rfl, wv22, hw22, rfl⟩ := hh
  exact V_iret ok dX3_pipe_25 (Nat.zero_le _) (Nat.zero_le _) ⟨rfl, _, hw22, rfl⟩
set_option maxHeartbeats 4000000 in
set_option maxRecDepth 100000 in
theorem c_X3_pipe_bad (g : Glob) (b : Nat → Nat) (nw : Nat → Int32) (wv : Nat → UInt64) (ah : Nat → UInt64) (pa : Nat → Int32) (pw : Nat → UInt64) (ai : Nat → Int32) (aw : Nat → UInt64) (sts : Nat) (rf : Nat → Int32) (tx : Nat → Int32) (len : Nat) (pl : Nat) (ord : Nat) (lr : Nat → Int32) (nu : Nat → Int32) (hsh : Int64) (u : Int32) (hf : ¬ pipB u = true) : Con g yX3_pipe cX3_pipe 2 (some .int) ({ frames := 2, cells := 0, slots := 0, locals := 48 } : Room) [.ref (b 0), .int u] (modelW g b nw wv ah pa pw ai aw sts rf tx len pl ord lr nu hsh) (Is (some (.int (-2))) (modelW g b nw wv ah pa pw ai aw sts (rfU rf (-2)) tx len pl ord lr nu hsh)) := by
  refine con_of_V ypl_X3_pipe (Nat.le_of_ble_eq_true rfl) [(0, .ref (b 0)), (1, .int u)] rfl (fun Γ ok => ?_)
  refine V_aload_n ok dX3_pipe_0 rfl 0 rfl ?_
  refine V_iload_n ok dX3_pipe_1 rfl 1 rfl ?_
  refine V_cW (v2 := some (.int (bI (pipB u)))) (w2 := modelW g b nw wv ah pa pw ai aw sts rf tx len pl ord lr nu hsh) (rest := []) ok 0 3 (c_X3_mayPipe g b nw wv ah pa pw ai aw sts rf tx len pl ord lr nu hsh u) 1 twm_X3_81 twi_yX3_mayPipe twv_yX3_mayPipe twin_X3 twc_yX3_mayPipe yok_X3_mayPipe (by decide) ⟨rfl, rfl⟩ dX3_pipe_2 rfl rfl rfl rfl (Nat.le_of_ble_eq_true rfl) ⟨Nat.zero_le _, Nat.zero_le _⟩ ?_
  refine V_ifB_ne (tgt := 15) ok dX3_pipe_5 (by decide) (fun h5 => absurd h5 hf) (fun h5 => ?_)
  refine V_aload_n ok dX3_pipe_8 rfl 0 rfl ?_
  refine V_bipush (v := (-2)) ok dX3_pipe_9 rfl ?_
  refine V_cW (v2 := some (.int (-2))) (w2 := modelW g b nw wv ah pa pw ai aw sts (rfU rf (-2)) tx len pl ord lr nu hsh) (rest := []) ok 0 3 (c_X3_counts_m2 g b nw wv ah pa pw ai aw sts rf tx len pl ord lr nu hsh) 1 twm_X3_53 twi_yX3_counts twv_yX3_counts twin_X3 twc_yX3_counts yok_X3_counts (by decide) ⟨rfl, rfl⟩ dX3_pipe_11 rfl rfl rfl rfl (Nat.le_of_ble_eq_true rfl) ⟨Nat.zero_le _, Nat.zero_le _⟩ ?_
  exact V_iret ok dX3_pipe_14 (Nat.zero_le _) (Nat.zero_le _) ⟨rfl, rfl⟩
set_option maxHeartbeats 4000000 in
set_option maxRecDepth 100000 in
theorem c_X3_sets_ok (g : Glob) (b : Nat → Nat) (x : LineSt) (wv : Nat → UInt64) (ah : Nat → UInt64) (pa : Nat → Int32) (pw : Nat → UInt64) (ai : Nat → Int32) (aw : Nat → UInt64) (sts : Nat) (rf : Nat → Int32) (tx : Nat → Int32) (len : Nat) (pl : Nat) (ord : Nat) (lr : Nat → Int32) (nu : Nat → Int32) (hsh : Int64) (j : Nat) (u : Int32) (hj : j ≤ 2) (hf : setB (nI j) u = true) (hv : VG (upd x.1 (1 + j) u)) (hst : sts ≤ 4) : Con g yX3_sets cX3_sets 3 (some .int) ({ frames := 2, cells := 0, slots := 0, locals := 48 } : Room) [.ref (b 0), .int (nI j), .int u] (modelW g b x.1 wv ah pa pw ai aw sts rf tx len pl ord lr nu hsh) (fun r_ w_ => r_ = (some (.int (x.1 (1 + j)))) ∧ ∃ wv2 : Nat → UInt64, (WR (settleL (upd x.1 (1 + j) u, x.2)) wv2) ∧  w_ = modelW g b ((settleL (upd x.1 (1 + j) u, x.2)).1) wv2 ah (leaI pa sts x.1) (leaD pw sts wv) ai aw (stsU sts) rf tx len pl ord lr nu hsh) := by
  refine con_of_V ypl_X3_sets (Nat.le_of_ble_eq_true rfl) [(0, .ref (b 0)), (1, .int (nI j)), (2, .int u)] rfl (fun Γ ok => ?_)
  refine V_aload_n ok dX3_sets_0 rfl 0 rfl ?_
  refine V_iload_n ok dX3_sets_1 rfl 1 rfl ?_
  refine V_iload_n ok dX3_sets_2 rfl 2 rfl ?_
  refine V_cW (v2 := some (.int (bI (setB (nI j) u)))) (w2 := modelW g b x.1 wv ah pa pw ai aw sts rf tx len pl ord lr nu hsh) (rest := []) ok 0 3 (c_X3_maySet g b x.1 wv ah pa pw ai aw sts rf tx len pl ord lr nu hsh (nI j) u) 2 twm_X3_92 twi_yX3_maySet twv_yX3_maySet twin_X3 twc_yX3_maySet yok_X3_maySet (by decide) ⟨rfl, rfl⟩ dX3_sets_3 rfl rfl rfl rfl (Nat.le_of_ble_eq_true rfl) ⟨Nat.zero_le _, Nat.zero_le _⟩ ?_
  refine V_ifB_ne (tgt := 16) ok dX3_sets_6 (by decide) (fun h6 => ?_) (fun h6 => absurd hf h6)
  refine V_aload_n ok dX3_sets_16 rfl 0 rfl ?_
  refine V_cW (v2 := none) (w2 := modelW g b x.1 wv ah (leaI pa sts x.1) (leaD pw sts wv) ai aw (stsU sts) rf tx len pl ord lr nu hsh) (rest := []) ok 0 3 (c_X3_leaves g b x.1 wv ah pa pw ai aw sts rf tx len pl ord lr nu hsh hst) 0 twm_X3_85 twi_yX3_leaves twv_yX3_leaves twin_X3 twc_yX3_leaves yok_X3_leaves (by decide) ⟨rfl, rfl⟩ dX3_sets_17 rfl rfl rfl rfl (Nat.le_of_ble_eq_true rfl) ⟨Nat.zero_le _, Nat.zero_le _⟩ ?_
  refine V_aload_n ok dX3_sets_20 rfl 0 rfl ?_
  refine V_iconst (v := nI 1) ok dX3_sets_21 rfl ?_
  refine V_iload_n ok dX3_sets_22 rfl 1 rfl ?_
  refine V_iaddN (a := 1) (b := j) (c := 1 + j) ok dX3_sets_23 (by first | rfl | omega) ?_
  refine V_iload_n ok dX3_sets_24 rfl 2 rfl ?_
  refine V_cX (rest := []) ok 0 3 (c_X3_becomes g b x wv ah (leaI pa sts x.1) (leaD pw sts wv) ai aw (stsU sts) rf tx len pl ord lr nu hsh (1 + j) u (by omega) hv) 2 twm_X3_88 twi_yX3_becomes twv_yX3_becomes twin_X3 twc_yX3_becomes yok_X3_becomes (by decide) ⟨rfl, rfl⟩ dX3_sets_25 rfl rfl rfl rfl (Nat.le_of_ble_eq_true rfl) ⟨Nat.zero_le _, Nat.zero_le _⟩ (fun v_ w_ hh => ?_)
  obtain ⟨rfl, wv25, hw25, rfl⟩ := hh
  exact V_iret ok dX3_sets_28 (Nat.zero_le _) (Nat.zero_le _) ⟨rfl, _, hw25, rfl⟩
set_option maxHeartbeats 4000000 in
set_option maxRecDepth 100000 in
theorem c_X3_sets_bad (g : Glob) (b : Nat → Nat) (nw : Nat → Int32) (wv : Nat → UInt64) (ah : Nat → UInt64) (pa : Nat → Int32) (pw : Nat → UInt64) (ai : Nat → Int32) (aw : Nat → UInt64) (sts : Nat) (rf : Nat → Int32) (tx : Nat → Int32) (len : Nat) (pl : Nat) (ord : Nat) (lr : Nat → Int32) (nu : Nat → Int32) (hsh : Int64) (q u : Int32) (hf : ¬ setB q u = true) : Con g yX3_sets cX3_sets 3 (some .int) ({ frames := 2, cells := 0, slots := 0, locals := 48 } : Room) [.ref (b 0), .int q, .int u] (modelW g b nw wv ah pa pw ai aw sts rf tx len pl ord lr nu hsh) (Is (some (.int (-2))) (modelW g b nw wv ah pa pw ai aw sts (rfU rf (-2)) tx len pl ord lr nu hsh)) := by
  refine con_of_V ypl_X3_sets (Nat.le_of_ble_eq_true rfl) [(0, .ref (b 0)), (1, .int q), (2, .int u)] rfl (fun Γ ok => ?_)
  refine V_aload_n ok dX3_sets_0 rfl 0 rfl ?_
  refine V_iload_n ok dX3_sets_1 rfl 1 rfl ?_
  refine V_iload_n ok dX3_sets_2 rfl 2 rfl ?_
  refine V_cW (v2 := some (.int (bI (setB q u)))) (w2 := modelW g b nw wv ah pa pw ai aw sts rf tx len pl ord lr nu hsh) (rest := []) ok 0 3 (c_X3_maySet g b nw wv ah pa pw ai aw sts rf tx len pl ord lr nu hsh q u) 2 twm_X3_92 twi_yX3_maySet twv_yX3_maySet twin_X3 twc_yX3_maySet yok_X3_maySet (by decide) ⟨rfl, rfl⟩ dX3_sets_3 rfl rfl rfl rfl (Nat.le_of_ble_eq_true rfl) ⟨Nat.zero_le _, Nat.zero_le _⟩ ?_
  refine V_ifB_ne (tgt := 16) ok dX3_sets_6 (by decide) (fun h6 => absurd h6 hf) (fun h6 => ?_)
  refine V_aload_n ok dX3_sets_9 rfl 0 rfl ?_
  refine V_bipush (v := (-2)) ok dX3_sets_10 rfl ?_
  refine V_cW (v2 := some (.int (-2))) (w2 := modelW g b nw wv ah pa pw ai aw sts (rfU rf (-2)) tx len pl ord lr nu hsh) (rest := []) ok 0 3 (c_X3_counts_m2 g b nw wv ah pa pw ai aw sts rf tx len pl ord lr nu hsh) 1 twm_X3_53 twi_yX3_counts twv_yX3_counts twin_X3 twc_yX3_counts yok_X3_counts (by decide) ⟨rfl, rfl⟩ dX3_sets_12 rfl rfl rfl rfl (Nat.le_of_ble_eq_true rfl) ⟨Nat.zero_le _, Nat.zero_le _⟩ ?_
  exact V_iret ok dX3_sets_15 (Nat.zero_le _) (Nat.zero_le _) ⟨rfl, rfl⟩
set_option maxHeartbeats 4000000 in
set_option maxRecDepth 100000 in
theorem c_X3_ends_ok (g : Glob) (b : Nat → Nat) (x : LineSt) (wv : Nat → UInt64) (ah : Nat → UInt64) (pa : Nat → Int32) (pw : Nat → UInt64) (ai : Nat → Int32) (aw : Nat → UInt64) (sts : Nat) (rf : Nat → Int32) (tx : Nat → Int32) (len : Nat) (pl : Nat) (ord : Nat) (lr : Nat → Int32) (nu : Nat → Int32) (hsh : Int64) (j : Nat) (u : Int32) (hj : j ≤ 1) (hf : endB (nI j) u = true) (hv : VG (upd x.1 (4 + j) u)) (hst : sts ≤ 4) : Con g yX3_ends cX3_ends 3 (some .int) ({ frames := 2, cells := 0, slots := 0, locals := 48 } : Room) [.ref (b 0), .int (nI j), .int u] (modelW g b x.1 wv ah pa pw ai aw sts rf tx len pl ord lr nu hsh) (fun r_ w_ => r_ = (some (.int (x.1 (4 + j)))) ∧ ∃ wv2 : Nat → UInt64, (WR (settleL (upd x.1 (4 + j) u, x.2)) wv2) ∧  w_ = modelW g b ((settleL (upd x.1 (4 + j) u, x.2)).1) wv2 ah (leaI pa sts x.1) (leaD pw sts wv) ai aw (stsU sts) rf tx len pl ord lr nu hsh) := by
  refine con_of_V ypl_X3_ends (Nat.le_of_ble_eq_true rfl) [(0, .ref (b 0)), (1, .int (nI j)), (2, .int u)] rfl (fun Γ ok => ?_)
  refine V_aload_n ok dX3_ends_0 rfl 0 rfl ?_
  refine V_iload_n ok dX3_ends_1 rfl 1 rfl ?_
  refine V_iload_n ok dX3_ends_2 rfl 2 rfl ?_
  refine V_cW (v2 := some (.int (bI (endB (nI j) u)))) (w2 := modelW g b x.1 wv ah pa pw ai aw sts rf tx len pl ord lr nu hsh) (rest := []) ok 0 3 (c_X3_mayEnd g b x.1 wv ah pa pw ai aw sts rf tx len pl ord lr nu hsh (nI j) u) 2 twm_X3_96 twi_yX3_mayEnd twv_yX3_mayEnd twin_X3 twc_yX3_mayEnd yok_X3_mayEnd (by decide) ⟨rfl, rfl⟩ dX3_ends_3 rfl rfl rfl rfl (Nat.le_of_ble_eq_true rfl) ⟨Nat.zero_le _, Nat.zero_le _⟩ ?_
  refine V_ifB_ne (tgt := 16) ok dX3_ends_6 (by decide) (fun h6 => ?_) (fun h6 => absurd hf h6)
  refine V_aload_n ok dX3_ends_16 rfl 0 rfl ?_
  refine V_cW (v2 := none) (w2 := modelW g b x.1 wv ah (leaI pa sts x.1) (leaD pw sts wv) ai aw (stsU sts) rf tx len pl ord lr nu hsh) (rest := []) ok 0 3 (c_X3_leaves g b x.1 wv ah pa pw ai aw sts rf tx len pl ord lr nu hsh hst) 0 twm_X3_85 twi_yX3_leaves twv_yX3_leaves twin_X3 twc_yX3_leaves yok_X3_leaves (by decide) ⟨rfl, rfl⟩ dX3_ends_17 rfl rfl rfl rfl (Nat.le_of_ble_eq_true rfl) ⟨Nat.zero_le _, Nat.zero_le _⟩ ?_
  refine V_aload_n ok dX3_ends_20 rfl 0 rfl ?_
  refine V_iconst (v := nI 4) ok dX3_ends_21 rfl ?_
  refine V_iload_n ok dX3_ends_22 rfl 1 rfl ?_
  refine V_iaddN (a := 4) (b := j) (c := 4 + j) ok dX3_ends_23 (by first | rfl | omega) ?_
  refine V_iload_n ok dX3_ends_24 rfl 2 rfl ?_
  refine V_cX (rest := []) ok 0 3 (c_X3_becomes g b x wv ah (leaI pa sts x.1) (leaD pw sts wv) ai aw (stsU sts) rf tx len pl ord lr nu hsh (4 + j) u (by omega) hv) 2 twm_X3_88 twi_yX3_becomes twv_yX3_becomes twin_X3 twc_yX3_becomes yok_X3_becomes (by decide) ⟨rfl, rfl⟩ dX3_ends_25 rfl rfl rfl rfl (Nat.le_of_ble_eq_true rfl) ⟨Nat.zero_le _, Nat.zero_le _⟩ (fun v_ w_ hh => ?_)
  obtain ⟨rfl, wv25, hw25, rfl⟩ := hh
  exact V_iret ok dX3_ends_28 (Nat.zero_le _) (Nat.zero_le _) ⟨rfl, _, hw25, rfl⟩
set_option maxHeartbeats 4000000 in
set_option maxRecDepth 100000 in
theorem c_X3_ends_bad (g : Glob) (b : Nat → Nat) (nw : Nat → Int32) (wv : Nat → UInt64) (ah : Nat → UInt64) (pa : Nat → Int32) (pw : Nat → UInt64) (ai : Nat → Int32) (aw : Nat → UInt64) (sts : Nat) (rf : Nat → Int32) (tx : Nat → Int32) (len : Nat) (pl : Nat) (ord : Nat) (lr : Nat → Int32) (nu : Nat → Int32) (hsh : Int64) (q u : Int32) (hf : ¬ endB q u = true) : Con g yX3_ends cX3_ends 3 (some .int) ({ frames := 2, cells := 0, slots := 0, locals := 48 } : Room) [.ref (b 0), .int q, .int u] (modelW g b nw wv ah pa pw ai aw sts rf tx len pl ord lr nu hsh) (Is (some (.int (-2))) (modelW g b nw wv ah pa pw ai aw sts (rfU rf (-2)) tx len pl ord lr nu hsh)) := by
  refine con_of_V ypl_X3_ends (Nat.le_of_ble_eq_true rfl) [(0, .ref (b 0)), (1, .int q), (2, .int u)] rfl (fun Γ ok => ?_)
  refine V_aload_n ok dX3_ends_0 rfl 0 rfl ?_
  refine V_iload_n ok dX3_ends_1 rfl 1 rfl ?_
  refine V_iload_n ok dX3_ends_2 rfl 2 rfl ?_
  refine V_cW (v2 := some (.int (bI (endB q u)))) (w2 := modelW g b nw wv ah pa pw ai aw sts rf tx len pl ord lr nu hsh) (rest := []) ok 0 3 (c_X3_mayEnd g b nw wv ah pa pw ai aw sts rf tx len pl ord lr nu hsh q u) 2 twm_X3_96 twi_yX3_mayEnd twv_yX3_mayEnd twin_X3 twc_yX3_mayEnd yok_X3_mayEnd (by decide) ⟨rfl, rfl⟩ dX3_ends_3 rfl rfl rfl rfl (Nat.le_of_ble_eq_true rfl) ⟨Nat.zero_le _, Nat.zero_le _⟩ ?_
  refine V_ifB_ne (tgt := 16) ok dX3_ends_6 (by decide) (fun h6 => absurd h6 hf) (fun h6 => ?_)
  refine V_aload_n ok dX3_ends_9 rfl 0 rfl ?_
  refine V_bipush (v := (-2)) ok dX3_ends_10 rfl ?_
  refine V_cW (v2 := some (.int (-2))) (w2 := modelW g b nw wv ah pa pw ai aw sts (rfU rf (-2)) tx len pl ord lr nu hsh) (rest := []) ok 0 3 (c_X3_counts_m2 g b nw wv ah pa pw ai aw sts rf tx len pl ord lr nu hsh) 1 twm_X3_53 twi_yX3_counts twv_yX3_counts twin_X3 twc_yX3_counts yok_X3_counts (by decide) ⟨rfl, rfl⟩ dX3_ends_12 rfl rfl rfl rfl (Nat.le_of_ble_eq_true rfl) ⟨Nat.zero_le _, Nat.zero_le _⟩ ?_
  exact V_iret ok dX3_ends_15 (Nat.zero_le _) (Nat.zero_le _) ⟨rfl, rfl⟩
set_option maxHeartbeats 4000000 in
set_option maxRecDepth 100000 in
theorem c_X3_law_ok (g : Glob) (b : Nat → Nat) (x : LineSt) (wv : Nat → UInt64) (ah : Nat → UInt64) (pa : Nat → Int32) (pw : Nat → UInt64) (ai : Nat → Int32) (aw : Nat → UInt64) (sts : Nat) (rf : Nat → Int32) (tx : Nat → Int32) (len : Nat) (pl : Nat) (ord : Nat) (lr : Nat → Int32) (nu : Nat → Int32) (hsh : Int64) (k t : Int32) (hf : lawB k t = true) (hst : sts ≤ 4) : Con g yX3_law cX3_law 3 (some .int) ({ frames := 2, cells := 0, slots := 0, locals := 44 } : Room) [.ref (b 0), .int k, .int t] (modelW g b x.1 wv ah pa pw ai aw sts rf tx len pl ord lr nu hsh) (Is (some (.int (x.1 6))) (modelW g b (upd (upd x.1 6 k) 7 t) wv ah (leaI pa sts x.1) (leaD pw sts wv) ai aw (stsU sts) rf tx len pl ord lr nu hsh)) := by
  refine con_of_V ypl_X3_law (Nat.le_of_ble_eq_true rfl) [(0, .ref (b 0)), (1, .int k), (2, .int t)] rfl (fun Γ ok => ?_)
  refine V_aload_n ok dX3_law_0 rfl 0 rfl ?_
  refine V_iload_n ok dX3_law_1 rfl 1 rfl ?_
  refine V_iload_n ok dX3_law_2 rfl 2 rfl ?_
  refine V_cW (v2 := some (.int (bI (lawB k t)))) (w2 := modelW g b x.1 wv ah pa pw ai aw sts rf tx len pl ord lr nu hsh) (rest := []) ok 0 3 (c_X3_isLaw g b x.1 wv ah pa pw ai aw sts rf tx len pl ord lr nu hsh k t) 2 twm_X3_99 twi_yX3_isLaw twv_yX3_isLaw twin_X3 twc_yX3_isLaw yok_X3_isLaw (by decide) ⟨rfl, rfl⟩ dX3_law_3 rfl rfl rfl rfl (Nat.le_of_ble_eq_true rfl) ⟨Nat.zero_le _, Nat.zero_le _⟩ ?_
  refine V_ifB_ne (tgt := 16) ok dX3_law_6 (by decide) (fun h6 => ?_) (fun h6 => absurd hf h6)
  refine V_aload_n ok dX3_law_16 rfl 0 rfl ?_
  refine V_cW (v2 := none) (w2 := modelW g b x.1 wv ah (leaI pa sts x.1) (leaD pw sts wv) ai aw (stsU sts) rf tx len pl ord lr nu hsh) (rest := []) ok 0 3 (c_X3_leaves g b x.1 wv ah pa pw ai aw sts rf tx len pl ord lr nu hsh hst) 0 twm_X3_85 twi_yX3_leaves twv_yX3_leaves twin_X3 twc_yX3_leaves yok_X3_leaves (by decide) ⟨rfl, rfl⟩ dX3_law_17 rfl rfl rfl rfl (Nat.le_of_ble_eq_true rfl) ⟨Nat.zero_le _, Nat.zero_le _⟩ ?_
  refine V_aload_n ok dX3_law_20 rfl 0 rfl ?_
  refine V_iload_n ok dX3_law_21 rfl 1 rfl ?_
  refine V_iload_n ok dX3_law_22 rfl 2 rfl ?_
  refine V_cW (v2 := some (.int (x.1 6))) (w2 := modelW g b (upd (upd x.1 6 k) 7 t) wv ah (leaI pa sts x.1) (leaD pw sts wv) ai aw (stsU sts) rf tx len pl ord lr nu hsh) (rest := []) ok 0 3 (c_X3_becomesLaw g b x.1 wv ah (leaI pa sts x.1) (leaD pw sts wv) ai aw (stsU sts) rf tx len pl ord lr nu hsh k t) 2 twm_X3_102 twi_yX3_becomesLaw twv_yX3_becomesLaw twin_X3 twc_yX3_becomesLaw yok_X3_becomesLaw (by decide) ⟨rfl, rfl⟩ dX3_law_23 rfl rfl rfl rfl (Nat.le_of_ble_eq_true rfl) ⟨Nat.zero_le _, Nat.zero_le _⟩ ?_
  exact V_iret ok dX3_law_26 (Nat.zero_le _) (Nat.zero_le _) ⟨rfl, rfl⟩
set_option maxHeartbeats 4000000 in
set_option maxRecDepth 100000 in
theorem c_X3_law_bad (g : Glob) (b : Nat → Nat) (nw : Nat → Int32) (wv : Nat → UInt64) (ah : Nat → UInt64) (pa : Nat → Int32) (pw : Nat → UInt64) (ai : Nat → Int32) (aw : Nat → UInt64) (sts : Nat) (rf : Nat → Int32) (tx : Nat → Int32) (len : Nat) (pl : Nat) (ord : Nat) (lr : Nat → Int32) (nu : Nat → Int32) (hsh : Int64) (k t : Int32) (hf : ¬ lawB k t = true) : Con g yX3_law cX3_law 3 (some .int) ({ frames := 2, cells := 0, slots := 0, locals := 44 } : Room) [.ref (b 0), .int k, .int t] (modelW g b nw wv ah pa pw ai aw sts rf tx len pl ord lr nu hsh) (Is (some (.int (-2))) (modelW g b nw wv ah pa pw ai aw sts (rfU rf (-2)) tx len pl ord lr nu hsh)) := by
  refine con_of_V ypl_X3_law (Nat.le_of_ble_eq_true rfl) [(0, .ref (b 0)), (1, .int k), (2, .int t)] rfl (fun Γ ok => ?_)
  refine V_aload_n ok dX3_law_0 rfl 0 rfl ?_
  refine V_iload_n ok dX3_law_1 rfl 1 rfl ?_
  refine V_iload_n ok dX3_law_2 rfl 2 rfl ?_
  refine V_cW (v2 := some (.int (bI (lawB k t)))) (w2 := modelW g b nw wv ah pa pw ai aw sts rf tx len pl ord lr nu hsh) (rest := []) ok 0 3 (c_X3_isLaw g b nw wv ah pa pw ai aw sts rf tx len pl ord lr nu hsh k t) 2 twm_X3_99 twi_yX3_isLaw twv_yX3_isLaw twin_X3 twc_yX3_isLaw yok_X3_isLaw (by decide) ⟨rfl, rfl⟩ dX3_law_3 rfl rfl rfl rfl (Nat.le_of_ble_eq_true rfl) ⟨Nat.zero_le _, Nat.zero_le _⟩ ?_
  refine V_ifB_ne (tgt := 16) ok dX3_law_6 (by decide) (fun h6 => absurd h6 hf) (fun h6 => ?_)
  refine V_aload_n ok dX3_law_9 rfl 0 rfl ?_
  refine V_bipush (v := (-2)) ok dX3_law_10 rfl ?_
  refine V_cW (v2 := some (.int (-2))) (w2 := modelW g b nw wv ah pa pw ai aw sts (rfU rf (-2)) tx len pl ord lr nu hsh) (rest := []) ok 0 3 (c_X3_counts_m2 g b nw wv ah pa pw ai aw sts rf tx len pl ord lr nu hsh) 1 twm_X3_53 twi_yX3_counts twv_yX3_counts twin_X3 twc_yX3_counts yok_X3_counts (by decide) ⟨rfl, rfl⟩ dX3_law_12 rfl rfl rfl rfl (Nat.le_of_ble_eq_true rfl) ⟨Nat.zero_le _, Nat.zero_le _⟩ ?_
  exact V_iret ok dX3_law_15 (Nat.zero_le _) (Nat.zero_le _) ⟨rfl, rfl⟩
set_option maxHeartbeats 4000000 in
set_option maxRecDepth 100000 in
theorem c_X3_steady (g : Glob) (b : Nat → Nat) (x : LineSt) (wv : Nat → UInt64) (ah : Nat → UInt64) (pa : Nat → Int32) (pw : Nat → UInt64) (ai : Nat → Int32) (aw : Nat → UInt64) (sts : Nat) (rf : Nat → Int32) (tx : Nat → Int32) (len : Nat) (pl : Nat) (ord : Nat) (lr : Nat → Int32) (nu : Nat → Int32) (hsh : Int64) (hv : VG x.1) (hst : sts ≤ 4) : Con g yX3_steady cX3_steady 2 (some .int) ({ frames := 1, cells := 0, slots := 0, locals := 25 } : Room) [.ref (b 0)] (modelW g b x.1 wv ah pa pw ai aw sts rf tx len pl ord lr nu hsh) (fun r_ w_ => r_ = (some (.int (x.1 8))) ∧ ∃ wv2 : Nat → UInt64, (WR (settleL x) wv2) ∧  w_ = modelW g b ((settleL x).1) wv2 ah (leaI pa sts x.1) (leaD pw sts wv) ai aw (stsU sts) rf tx len pl ord lr nu hsh) := by
  refine con_of_V ypl_X3_steady (Nat.le_of_ble_eq_true rfl) [(0, .ref (b 0))] rfl (fun Γ ok => ?_)
  refine V_aload_n ok dX3_steady_0 rfl 0 rfl ?_
  refine V_cW (v2 := none) (w2 := modelW g b x.1 wv ah (leaI pa sts x.1) (leaD pw sts wv) ai aw (stsU sts) rf tx len pl ord lr nu hsh) (rest := []) ok 0 3 (c_X3_leaves g b x.1 wv ah pa pw ai aw sts rf tx len pl ord lr nu hsh hst) 0 twm_X3_85 twi_yX3_leaves twv_yX3_leaves twin_X3 twc_yX3_leaves yok_X3_leaves (by decide) ⟨rfl, rfl⟩ dX3_steady_1 rfl rfl rfl rfl (Nat.le_of_ble_eq_true rfl) ⟨Nat.zero_le _, Nat.zero_le _⟩ ?_
  refine V_aload_n ok dX3_steady_4 rfl 0 rfl ?_
  refine V_get (v := .ref (b 1)) ok 0 0 tw_X3 twf_X3_7 rfl rfl (by decide) dX3_steady_5 rfl rfl ?_
  refine V_bipush (v := nI 8) ok dX3_steady_8 rfl ?_
  refine V_iald (f := x.1) (N := 9) ok 1 8 dX3_steady_10 rfl rfl (by decide) (by decide) ?_
  refine V_istore_n (lv2 := [(1, .int (x.1 8)), (0, .ref (b 0))]) ok dX3_steady_11 rfl (by decide) rfl ?_
  refine V_aload_n ok dX3_steady_12 rfl 1 rfl ?_
  refine V_cX (rest := []) ok 0 3 (c_X3_laysSteady g b x wv ah (leaI pa sts x.1) (leaD pw sts wv) ai aw (stsU sts) rf tx len pl ord lr nu hsh hv) 0 twm_X3_44 twi_yX3_laysSteady twv_yX3_laysSteady twin_X3 twc_yX3_laysSteady yok_X3_laysSteady (by decide) ⟨rfl, rfl⟩ dX3_steady_13 rfl rfl rfl rfl (Nat.le_of_ble_eq_true rfl) ⟨Nat.zero_le _, Nat.zero_le _⟩ (fun v_ w_ hh => ?_)
  obtain ⟨rfl, wv13, hw13, rfl⟩ := hh
  refine V_iload_n ok dX3_steady_16 rfl 0 rfl ?_
  exact V_iret ok dX3_steady_17 (Nat.zero_le _) (Nat.zero_le _) ⟨rfl, _, hw13, rfl⟩
set_option maxHeartbeats 4000000 in
set_option maxRecDepth 100000 in
theorem c_X3_steps_bad (g : Glob) (b : Nat → Nat) (nw : Nat → Int32) (wv : Nat → UInt64) (ah : Nat → UInt64) (pa : Nat → Int32) (pw : Nat → UInt64) (ai : Nat → Int32) (aw : Nat → UInt64) (sts : Nat) (rf : Nat → Int32) (tx : Nat → Int32) (len : Nat) (pl : Nat) (ord : Nat) (lr : Nat → Int32) (nu : Nat → Int32) (hsh : Int64) (n : Int32) (hf : ¬ wiB n (nI 1) (nI 100) = true) : Con g yX3_steps cX3_steps 2 (some .int) ({ frames := 4, cells := 0, slots := 0, locals := 100 } : Room) [.ref (b 0), .int n] (modelW g b nw wv ah pa pw ai aw sts rf tx len pl ord lr nu hsh) (Is (some (.int (-2))) (modelW g b nw wv ah pa pw ai aw sts (rfU rf (-2)) tx len pl ord lr nu hsh)) := by
  refine con_of_V ypl_X3_steps (Nat.le_of_ble_eq_true rfl) [(0, .ref (b 0)), (1, .int n)] rfl (fun Γ ok => ?_)
  refine V_iload_n ok dX3_steps_0 rfl 1 rfl ?_
  refine V_iconst (v := nI 1) ok dX3_steps_1 rfl ?_
  refine V_bipush (v := nI 100) ok dX3_steps_2 rfl ?_
  refine V_cS (v2 := some (.int (bI (wiB n (nI 1) (nI 100))))) (wn := modelW g b nw wv ah pa pw ai aw sts rf tx len pl ord lr nu hsh) (rest := []) ok (c_X3_within g n (nI 1) (nI 100)) 3 twm_X3_74 tws_yX3_within twin_X3 twc_yX3_within yok_X3_within (by decide) ⟨rfl, rfl⟩ dX3_steps_4 rfl rfl (Nat.le_of_ble_eq_true rfl) ⟨Nat.zero_le _, Nat.zero_le _⟩ [] rfl rfl (Nat.le_of_ble_eq_true rfl) rfl ?_
  refine V_ifB_ne (tgt := 17) ok dX3_steps_7 (by decide) (fun h7 => absurd h7 hf) (fun h7 => ?_)
  refine V_aload_n ok dX3_steps_10 rfl 0 rfl ?_
  refine V_bipush (v := (-2)) ok dX3_steps_11 rfl ?_
  refine V_cW (v2 := some (.int (-2))) (w2 := modelW g b nw wv ah pa pw ai aw sts (rfU rf (-2)) tx len pl ord lr nu hsh) (rest := []) ok 0 3 (c_X3_counts_m2 g b nw wv ah pa pw ai aw sts rf tx len pl ord lr nu hsh) 1 twm_X3_53 twi_yX3_counts twv_yX3_counts twin_X3 twc_yX3_counts yok_X3_counts (by decide) ⟨rfl, rfl⟩ dX3_steps_13 rfl rfl rfl rfl (Nat.le_of_ble_eq_true rfl) ⟨Nat.zero_le _, Nat.zero_le _⟩ ?_
  exact V_iret ok dX3_steps_16 (Nat.zero_le _) (Nat.zero_le _) ⟨rfl, rfl⟩
set_option maxHeartbeats 4000000 in
set_option maxRecDepth 100000 in
theorem c_X3_steps_full (g : Glob) (b : Nat → Nat) (nw : Nat → Int32) (wv : Nat → UInt64) (ah : Nat → UInt64) (pa : Nat → Int32) (pw : Nat → UInt64) (ai : Nat → Int32) (aw : Nat → UInt64) (sts : Nat) (rf : Nat → Int32) (tx : Nat → Int32) (len : Nat) (pl : Nat) (ord : Nat) (lr : Nat → Int32) (nu : Nat → Int32) (hsh : Int64) (n : Int32) (hf : wiB n (nI 1) (nI 100) = true) (ht : ¬ nw 8 + n ≤ nI 999) : Con g yX3_steps cX3_steps 2 (some .int) ({ frames := 4, cells := 0, slots := 0, locals := 100 } : Room) [.ref (b 0), .int n] (modelW g b nw wv ah pa pw ai aw sts rf tx len pl ord lr nu hsh) (Is (some (.int (-4))) (modelW g b nw wv ah pa pw ai aw sts (rfU rf (-4)) tx len pl ord lr nu hsh)) := by
  refine con_of_V ypl_X3_steps (Nat.le_of_ble_eq_true rfl) [(0, .ref (b 0)), (1, .int n)] rfl (fun Γ ok => ?_)
  refine V_iload_n ok dX3_steps_0 rfl 1 rfl ?_
  refine V_iconst (v := nI 1) ok dX3_steps_1 rfl ?_
  refine V_bipush (v := nI 100) ok dX3_steps_2 rfl ?_
  refine V_cS (v2 := some (.int (bI (wiB n (nI 1) (nI 100))))) (wn := modelW g b nw wv ah pa pw ai aw sts rf tx len pl ord lr nu hsh) (rest := []) ok (c_X3_within g n (nI 1) (nI 100)) 3 twm_X3_74 tws_yX3_within twin_X3 twc_yX3_within yok_X3_within (by decide) ⟨rfl, rfl⟩ dX3_steps_4 rfl rfl (Nat.le_of_ble_eq_true rfl) ⟨Nat.zero_le _, Nat.zero_le _⟩ [] rfl rfl (Nat.le_of_ble_eq_true rfl) rfl ?_
  refine V_ifB_ne (tgt := 17) ok dX3_steps_7 (by decide) (fun h7 => ?_) (fun h7 => absurd hf h7)
  refine V_aload_n ok dX3_steps_17 rfl 0 rfl ?_
  refine V_get (v := .ref (b 1)) ok 0 0 tw_X3 twf_X3_7 rfl rfl (by decide) dX3_steps_18 rfl rfl ?_
  refine V_bipush (v := nI 8) ok dX3_steps_21 rfl ?_
  refine V_iald (f := nw) (N := 9) ok 1 8 dX3_steps_23 rfl rfl (by decide) (by decide) ?_
  refine V_iload_n ok dX3_steps_24 rfl 1 rfl ?_
  refine V_iadd ok dX3_steps_25 ?_
  refine V_sipush (v := nI 999) ok dX3_steps_26 rfl ?_
  refine V_icmp_le (tgt := 39) ok dX3_steps_29 (by decide) (fun h29 => absurd h29 ht) (fun h29 => ?_)
  refine V_aload_n ok dX3_steps_32 rfl 0 rfl ?_
  refine V_bipush (v := (-4)) ok dX3_steps_33 rfl ?_
  refine V_cW (v2 := some (.int (-4))) (w2 := modelW g b nw wv ah pa pw ai aw sts (rfU rf (-4)) tx len pl ord lr nu hsh) (rest := []) ok 0 3 (c_X3_counts_m4 g b nw wv ah pa pw ai aw sts rf tx len pl ord lr nu hsh) 1 twm_X3_53 twi_yX3_counts twv_yX3_counts twin_X3 twc_yX3_counts yok_X3_counts (by decide) ⟨rfl, rfl⟩ dX3_steps_35 rfl rfl rfl rfl (Nat.le_of_ble_eq_true rfl) ⟨Nat.zero_le _, Nat.zero_le _⟩ ?_
  exact V_iret ok dX3_steps_38 (Nat.zero_le _) (Nat.zero_le _) ⟨rfl, rfl⟩
set_option maxHeartbeats 4000000 in
set_option maxRecDepth 100000 in
theorem c_X3_steps_ok (g : Glob) (b : Nat → Nat) (x : LineSt) (wv : Nat → UInt64) (ah : Nat → UInt64) (pa : Nat → Int32) (pw : Nat → UInt64) (ai : Nat → Int32) (aw : Nat → UInt64) (sts : Nat) (rf : Nat → Int32) (tx : Nat → Int32) (len : Nat) (pl : Nat) (ord : Nat) (lr : Nat → Int32) (nu : Nat → Int32) (hsh : Int64) (n : Nat) (hf : wiB (nI n) (nI 1) (nI 100) = true) (ht : x.1 8 + nI n ≤ nI 999) (hx : LG x) (hn : nv x.1 8 + n ≤ 999) (hw : WR x wv) (hst : sts ≤ 4) : Con g yX3_steps cX3_steps 2 (some .int) ({ frames := 4, cells := 0, slots := 0, locals := 100 } : Room) [.ref (b 0), .int (nI n)] (modelW g b x.1 wv ah pa pw ai aw sts rf tx len pl ord lr nu hsh) (fun r_ w_ => r_ = (some (.int ((advL n x).1 8))) ∧ ∃ wv2 : Nat → UInt64, ∃ ah2 : Nat → UInt64, (WR (advL n x) wv2) ∧  w_ = modelW g b ((advL n x).1) wv2 ah2 (leaI pa sts x.1) (leaD pw sts wv) ai aw (stsU sts) rf tx len pl ord lr nu hsh) := by
  refine con_of_V ypl_X3_steps (Nat.le_of_ble_eq_true rfl) [(0, .ref (b 0)), (1, .int (nI n))] rfl (fun Γ ok => ?_)
  refine V_iload_n ok dX3_steps_0 rfl 1 rfl ?_
  refine V_iconst (v := nI 1) ok dX3_steps_1 rfl ?_
  refine V_bipush (v := nI 100) ok dX3_steps_2 rfl ?_
  refine V_cS (v2 := some (.int (bI (wiB (nI n) (nI 1) (nI 100))))) (wn := modelW g b x.1 wv ah pa pw ai aw sts rf tx len pl ord lr nu hsh) (rest := []) ok (c_X3_within g (nI n) (nI 1) (nI 100)) 3 twm_X3_74 tws_yX3_within twin_X3 twc_yX3_within yok_X3_within (by decide) ⟨rfl, rfl⟩ dX3_steps_4 rfl rfl (Nat.le_of_ble_eq_true rfl) ⟨Nat.zero_le _, Nat.zero_le _⟩ [] rfl rfl (Nat.le_of_ble_eq_true rfl) rfl ?_
  refine V_ifB_ne (tgt := 17) ok dX3_steps_7 (by decide) (fun h7 => ?_) (fun h7 => absurd hf h7)
  refine V_aload_n ok dX3_steps_17 rfl 0 rfl ?_
  refine V_get (v := .ref (b 1)) ok 0 0 tw_X3 twf_X3_7 rfl rfl (by decide) dX3_steps_18 rfl rfl ?_
  refine V_bipush (v := nI 8) ok dX3_steps_21 rfl ?_
  refine V_iald (f := x.1) (N := 9) ok 1 8 dX3_steps_23 rfl rfl (by decide) (by decide) ?_
  refine V_iload_n ok dX3_steps_24 rfl 1 rfl ?_
  refine V_iadd ok dX3_steps_25 ?_
  refine V_sipush (v := nI 999) ok dX3_steps_26 rfl ?_
  refine V_icmp_le (tgt := 39) ok dX3_steps_29 (by decide) (fun h29 => ?_) (fun h29 => absurd ht h29)
  refine V_aload_n ok dX3_steps_39 rfl 0 rfl ?_
  refine V_cW (v2 := none) (w2 := modelW g b x.1 wv ah (leaI pa sts x.1) (leaD pw sts wv) ai aw (stsU sts) rf tx len pl ord lr nu hsh) (rest := []) ok 0 3 (c_X3_leaves g b x.1 wv ah pa pw ai aw sts rf tx len pl ord lr nu hsh hst) 0 twm_X3_85 twi_yX3_leaves twv_yX3_leaves twin_X3 twc_yX3_leaves yok_X3_leaves (by decide) ⟨rfl, rfl⟩ dX3_steps_40 rfl rfl rfl rfl (Nat.le_of_ble_eq_true rfl) ⟨Nat.zero_le _, Nat.zero_le _⟩ ?_
  refine V_aload_n ok dX3_steps_43 rfl 0 rfl ?_
  refine V_iload_n ok dX3_steps_44 rfl 1 rfl ?_
  refine V_cX (rest := []) ok 0 3 (c_X3_goesOnFor g b x wv ah (leaI pa sts x.1) (leaD pw sts wv) ai aw (stsU sts) rf tx len pl ord lr nu hsh n hx hn hw) 1 twm_X3_105 twi_yX3_goesOnFor twv_yX3_goesOnFor twin_X3 twc_yX3_goesOnFor yok_X3_goesOnFor (by decide) ⟨rfl, rfl⟩ dX3_steps_45 rfl rfl rfl rfl (Nat.le_of_ble_eq_true rfl) ⟨Nat.zero_le _, Nat.zero_le _⟩ (fun v_ w_ hh => ?_)
  obtain ⟨rfl, wv45, ah45, hw45, rfl⟩ := hh
  exact V_iret ok dX3_steps_48 (Nat.zero_le _) (Nat.zero_le _) ⟨rfl, _, _, hw45, rfl⟩
