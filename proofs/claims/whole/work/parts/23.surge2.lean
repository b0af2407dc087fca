def nodeV (x : LineSt) (i w : Nat) : UInt64 := if w = 0 then FP.dadd (x.2.1 i) (x.2.2.1 i) else if w = 1 then FP.dsub (x.2.1 i) (x.2.2.1 i) else if w = 2 then x.2.1 i else if w = 3 then x.2.2.1 i else if w = 4 then x.2.2.2.1 i else x.2.2.2.2.1 i
theorem LG.nodeF {x : LineSt} (h : LG x) {i : Nat} (hi : i ≤ nv x.1 0) : FP.Core.DFin (x.2.1 i) ∧ FP.Core.DFin (x.2.2.1 i) ∧ FP.Core.DFin (x.2.2.2.1 i) ∧ FP.Core.DFin (x.2.2.2.2.1 i) ∧ Bd 2000000000 (FP.dsub (x.2.1 i) (x.2.2.1 i)) := by
  have hb := wb_le h.1.tm.2
  exact ⟨(h.2.1 i hi).1.1.fin, (h.2.1 i hi).2.1.fin, (h.2.2.1 i hi).1.1.fin, (h.2.2.1 i hi).2.1.fin, bdS ((h.2.1 i hi).1.1.mono hb) ((h.2.1 i hi).2.1.mono hb) (by decide) (by decide)⟩
def allV (x : LineSt) (w : Nat) : UInt64 := if w = 0 then kept0 x.2.1 x.2.2.1 (nv x.1 0 + 1) else if w = 1 then x.2.2.2.2.2.1 else if w = 2 then x.2.2.2.2.2.2.1 else x.2.2.2.2.2.2.2
def toldV (v : Nat → Int32) (rf : Nat → Int32) (len sts w : Nat) : Int32 := if w < 3 then rf w else if w = 3 then nI len else if w = 13 then nI sts else v (w - 4)
set_option maxHeartbeats 4000000 in
set_option maxRecDepth 100000 in
theorem c_X2_change_ok (g : Glob) (a : Nat → Nat) (now spare : LineSt) (K : Nat → LineSt) (nw sts : Nat) (rf : Nat → Int32) (pg : PageSt) (w : Nat) (u : Int32) (hw : w < 6) (hf : fitsB (nI w) u = true) (hx : LG now) (hnw : nw < 4) (hst : sts ≤ 4) : Con g yX2_change cX2_change 4 (some .int) ({ frames := 3, cells := 0, slots := 0, locals := 72 } : Room) [.ref (a 0), .int (nI w), .int u] (surgeW g a now spare K nw sts rf pg) (Is (some (.int (now.1 w))) (surgeW g a (settleL (upd now.1 w u, now.2)) spare (ringU K nw now) ((nw + 1) % 4) (stsU sts) rf pg)) := by
  refine con_of_V ypl_X2_change (Nat.le_of_ble_eq_true rfl) [(0, .ref (a 0)), (1, .int (nI w)), (2, .int u)] rfl (fun Γ ok => ?_)
  refine V_iload_n ok dX2_change_0 rfl 1 rfl ?_
  refine V_iload_n ok dX2_change_1 rfl 2 rfl ?_
  refine V_cS (v2 := some (.int (bI (fitsB (nI w) u)))) (wn := surgeW g a now spare K nw sts rf pg) (rest := []) ok (c_X0_fits g (nI w) u) 2 twm_X2_134 tws_yX0_fits twin_X0 twc_yX0_fits yok_X0_fits (by decide) ⟨rfl, rfl⟩ dX2_change_2 rfl rfl (Nat.le_of_ble_eq_true rfl) ⟨Nat.zero_le _, Nat.zero_le _⟩ [] rfl rfl (Nat.le_of_ble_eq_true rfl) (rep_nil _) ?_
  refine V_ifB_ne (tgt := 15) ok dX2_change_5 (by decide) (fun h5 => ?_) (fun h5 => absurd hf h5)
  refine V_aload_n ok dX2_change_15 rfl 0 rfl ?_
  refine V_aload_n ok dX2_change_16 rfl 0 rfl ?_
  refine V_get (v := .ref (a 1)) ok 0 0 tw_X2 twf_X2_10 rfl rfl (by decide) dX2_change_17 sg_at0 rfl ?_
  refine V_cW (v2 := none) (w2 := surgeW g a now spare (ringU K nw now) ((nw + 1) % 4) (stsU sts) rf pg) (rest := []) ok 0 2 (c_X2_keep_now g a now spare K nw sts rf pg hnw hst) 1 twm_X2_53 twi_yX2_keep twv_yX2_keep twin_X2 twc_yX2_keep yok_X2_keep (by decide) ⟨rfl, rfl⟩ dX2_change_20 rfl sg_at0 rfl rfl (Nat.le_of_ble_eq_true rfl) ⟨Nat.zero_le _, Nat.zero_le _⟩ ?_
  refine V_aload_n ok dX2_change_23 rfl 0 rfl ?_
  refine V_get (v := .ref (a 1)) ok 0 0 tw_X2 twf_X2_10 rfl rfl (by decide) dX2_change_24 sg_at0 rfl ?_
  refine V_get (v := .ref (a 2)) ok 1 0 tw_X0 twf_X2_57 rfl rfl (by decide) dX2_change_27 sg_at1 rfl ?_
  refine V_iload_n ok dX2_change_30 rfl 1 rfl ?_
  refine V_iald (f := now.1) (N := 9) ok 2 w dX2_change_31 sg_at2 rfl (by omega) (by decide) ?_
  refine V_istore_n (lv2 := [(3, .int (now.1 w)), (0, .ref (a 0)), (1, .int (nI w)), (2, .int u)]) ok dX2_change_32 rfl (by decide) rfl ?_
  refine V_aload_n ok dX2_change_33 rfl 1 rfl ?_
  refine V_get (v := .ref (a 1)) ok 0 0 tw_X2 twf_X2_10 rfl rfl (by decide) dX2_change_34 sg_at0 rfl ?_
  refine V_iload_n ok dX2_change_37 rfl 2 rfl ?_
  refine V_iload_n ok dX2_change_38 rfl 3 rfl ?_
  refine V_cV (v2 := none) (wn := surgeW g a (settleL (upd now.1 w u, now.2)) spare (ringU K nw now) ((nw + 1) % 4) (stsU sts) rf pg) (rest := []) ok 1 0 (k_X0_put g (fun i => a (1 + i)) now w u (by omega) (hx.1.put1 (fits_ok (by omega) hf))) 2 twm_X2_204 twi_yX0_put twv_yX0_put twin_X0 twc_yX0_put yok_X0_put (by decide) ⟨rfl, rfl⟩ dX2_change_39 rfl sg_at1 rfl rfl (Nat.le_of_ble_eq_true rfl) ⟨Nat.zero_le _, Nat.zero_le _⟩ (slN 1) rfl sg_sub_1 (Nat.le_of_ble_eq_true rfl) sg_rep_1 ?_
  refine V_iload_n ok dX2_change_42 rfl 0 rfl ?_
  exact V_iret ok dX2_change_43 (Nat.zero_le _) (Nat.zero_le _) ⟨rfl, rfl⟩
set_option maxHeartbeats 4000000 in
set_option maxRecDepth 100000 in
theorem c_X2_change_bad (g : Glob) (a : Nat → Nat) (now spare : LineSt) (K : Nat → LineSt) (nw sts : Nat) (rf : Nat → Int32) (pg : PageSt) (w : Nat) (u : Int32) (hf : ¬ fitsB (nI w) u = true) : Con g yX2_change cX2_change 4 (some .int) ({ frames := 3, cells := 0, slots := 0, locals := 72 } : Room) [.ref (a 0), .int (nI w), .int u] (surgeW g a now spare K nw sts rf pg) (Is (some (.int (-2))) (surgeW g a now spare K nw sts (rfU rf (-2)) pg)) := by
  refine con_of_V ypl_X2_change (Nat.le_of_ble_eq_true rfl) [(0, .ref (a 0)), (1, .int (nI w)), (2, .int u)] rfl (fun Γ ok => ?_)
  refine V_iload_n ok dX2_change_0 rfl 1 rfl ?_
  refine V_iload_n ok dX2_change_1 rfl 2 rfl ?_
  refine V_cS (v2 := some (.int (bI (fitsB (nI w) u)))) (wn := surgeW g a now spare K nw sts rf pg) (rest := []) ok (c_X0_fits g (nI w) u) 2 twm_X2_134 tws_yX0_fits twin_X0 twc_yX0_fits yok_X0_fits (by decide) ⟨rfl, rfl⟩ dX2_change_2 rfl rfl (Nat.le_of_ble_eq_true rfl) ⟨Nat.zero_le _, Nat.zero_le _⟩ [] rfl rfl (Nat.le_of_ble_eq_true rfl) (rep_nil _) ?_
  refine V_ifB_ne (tgt := 15) ok dX2_change_5 (by decide) (fun h5 => absurd h5 hf) (fun h5 => ?_)
  refine V_aload_n ok dX2_change_8 rfl 0 rfl ?_
  refine V_bipush (v := (-2)) ok dX2_change_9 rfl ?_
  refine V_cW (v2 := some (.int (-2))) (w2 := surgeW g a now spare K nw sts (rfU rf (-2)) pg) (rest := []) ok 0 2 (c_X2_refuse_m2 g a now spare K nw sts rf pg) 1 twm_X2_45 twi_yX2_refuse twv_yX2_refuse twin_X2 twc_yX2_refuse yok_X2_refuse (by decide) ⟨rfl, rfl⟩ dX2_change_11 rfl sg_at0 rfl rfl (Nat.le_of_ble_eq_true rfl) ⟨Nat.zero_le _, Nat.zero_le _⟩ ?_
  exact V_iret ok dX2_change_14 (Nat.zero_le _) (Nat.zero_le _) ⟨rfl, rfl⟩
set_option maxHeartbeats 4000000 in
set_option maxRecDepth 100000 in
theorem c_X2_pipe_ok (g : Glob) (a : Nat → Nat) (now spare : LineSt) (K : Nat → LineSt) (nw sts : Nat) (rf : Nat → Int32) (pg : PageSt) (u : Int32) (hf : fitsB (nI 0) u = true) (hx : LG now) (hnw : nw < 4) (hst : sts ≤ 4) : Con g yX2_pipe cX2_pipe 2 (some .int) ({ frames := 4, cells := 0, slots := 0, locals := 95 } : Room) [.ref (a 0), .int u] (surgeW g a now spare K nw sts rf pg) (Is (some (.int (now.1 0))) (surgeW g a (settleL (upd now.1 0 u, now.2)) spare (ringU K nw now) ((nw + 1) % 4) (stsU sts) rf pg)) := by
  refine con_of_V ypl_X2_pipe (Nat.le_of_ble_eq_true rfl) [(0, .ref (a 0)), (1, .int u)] rfl (fun Γ ok => ?_)
  refine V_aload_n ok dX2_pipe_0 rfl 0 rfl ?_
  refine V_iconst (v := nI 0) ok dX2_pipe_1 rfl ?_
  refine V_iload_n ok dX2_pipe_2 rfl 1 rfl ?_
  refine V_cW (v2 := some (.int (now.1 0))) (w2 := surgeW g a (settleL (upd now.1 0 u, now.2)) spare (ringU K nw now) ((nw + 1) % 4) (stsU sts) rf pg) (rest := []) ok 0 2 (c_X2_change_ok g a now spare K nw sts rf pg 0 u (by decide) hf hx hnw hst) 2 twm_X2_41 twi_yX2_change twv_yX2_change twin_X2 twc_yX2_change yok_X2_change (by decide) ⟨rfl, rfl⟩ dX2_pipe_3 rfl sg_at0 rfl rfl (Nat.le_of_ble_eq_true rfl) ⟨Nat.zero_le _, Nat.zero_le _⟩ ?_
  exact V_iret ok dX2_pipe_6 (Nat.zero_le _) (Nat.zero_le _) ⟨rfl, rfl⟩
set_option maxHeartbeats 4000000 in
set_option maxRecDepth 100000 in
theorem c_X2_pipe_bad (g : Glob) (a : Nat → Nat) (now spare : LineSt) (K : Nat → LineSt) (nw sts : Nat) (rf : Nat → Int32) (pg : PageSt) (u : Int32) (hf : ¬ fitsB (nI 0) u = true) : Con g yX2_pipe cX2_pipe 2 (some .int) ({ frames := 4, cells := 0, slots := 0, locals := 95 } : Room) [.ref (a 0), .int u] (surgeW g a now spare K nw sts rf pg) (Is (some (.int (-2))) (surgeW g a now spare K nw sts (rfU rf (-2)) pg)) := by
  refine con_of_V ypl_X2_pipe (Nat.le_of_ble_eq_true rfl) [(0, .ref (a 0)), (1, .int u)] rfl (fun Γ ok => ?_)
  refine V_aload_n ok dX2_pipe_0 rfl 0 rfl ?_
  refine V_iconst (v := nI 0) ok dX2_pipe_1 rfl ?_
  refine V_iload_n ok dX2_pipe_2 rfl 1 rfl ?_
  refine V_cW (v2 := some (.int (-2))) (w2 := surgeW g a now spare K nw sts (rfU rf (-2)) pg) (rest := []) ok 0 2 (c_X2_change_bad g a now spare K nw sts rf pg 0 u hf) 2 twm_X2_41 twi_yX2_change twv_yX2_change twin_X2 twc_yX2_change yok_X2_change (by decide) ⟨rfl, rfl⟩ dX2_pipe_3 rfl sg_at0 rfl rfl (Nat.le_of_ble_eq_true rfl) ⟨Nat.zero_le _, Nat.zero_le _⟩ ?_
  exact V_iret ok dX2_pipe_6 (Nat.zero_le _) (Nat.zero_le _) ⟨rfl, rfl⟩
set_option maxHeartbeats 4000000 in
set_option maxRecDepth 100000 in
theorem c_X2_sets_ok (g : Glob) (a : Nat → Nat) (now spare : LineSt) (K : Nat → LineSt) (nw sts : Nat) (rf : Nat → Int32) (pg : PageSt) (j : Nat) (u : Int32) (hj : j ≤ 2) (hf : fitsB (nI (1 + j)) u = true) (hx : LG now) (hnw : nw < 4) (hst : sts ≤ 4) : Con g yX2_sets cX2_sets 3 (some .int) ({ frames := 4, cells := 0, slots := 0, locals := 95 } : Room) [.ref (a 0), .int (nI j), .int u] (surgeW g a now spare K nw sts rf pg) (Is (some (.int (now.1 (1 + j)))) (surgeW g a (settleL (upd now.1 (1 + j) u, now.2)) spare (ringU K nw now) ((nw + 1) % 4) (stsU sts) rf pg)) := by
  refine con_of_V ypl_X2_sets (Nat.le_of_ble_eq_true rfl) [(0, .ref (a 0)), (1, .int (nI j)), (2, .int u)] rfl (fun Γ ok => ?_)
  refine V_iload_n ok dX2_sets_0 rfl 1 rfl ?_
  refine V_ifN_lt (tgt := 9) ok dX2_sets_1 (by decide) (by omega) ?_
  refine V_iload_n ok dX2_sets_4 rfl 1 rfl ?_
  refine V_iconst (v := nI 2) ok dX2_sets_5 rfl ?_
  refine V_icmpN_le (tgt := 16) ok dX2_sets_6 (by decide) (by omega) (by omega) (fun h6 => ?_) (fun h6 => absurd (by omega) h6)
  refine V_aload_n ok dX2_sets_16 rfl 0 rfl ?_
  refine V_iconst (v := nI 1) ok dX2_sets_17 rfl ?_
  refine V_iload_n ok dX2_sets_18 rfl 1 rfl ?_
  refine V_iaddN (a := 1) (b := j) (c := 1 + j) ok dX2_sets_19 (by first | rfl | omega) ?_
  refine V_iload_n ok dX2_sets_20 rfl 2 rfl ?_
  refine V_cW (v2 := some (.int (now.1 (1 + j)))) (w2 := surgeW g a (settleL (upd now.1 (1 + j) u, now.2)) spare (ringU K nw now) ((nw + 1) % 4) (stsU sts) rf pg) (rest := []) ok 0 2 (c_X2_change_ok g a now spare K nw sts rf pg (1 + j) u (by omega) hf hx hnw hst) 2 twm_X2_41 twi_yX2_change twv_yX2_change twin_X2 twc_yX2_change yok_X2_change (by decide) ⟨rfl, rfl⟩ dX2_sets_21 rfl sg_at0 rfl rfl (Nat.le_of_ble_eq_true rfl) ⟨Nat.zero_le _, Nat.zero_le _⟩ ?_
  exact V_iret ok dX2_sets_24 (Nat.zero_le _) (Nat.zero_le _) ⟨rfl, rfl⟩
set_option maxHeartbeats 4000000 in
set_option maxRecDepth 100000 in
theorem c_X2_sets_bad (g : Glob) (a : Nat → Nat) (now spare : LineSt) (K : Nat → LineSt) (nw sts : Nat) (rf : Nat → Int32) (pg : PageSt) (j : Nat) (u : Int32) (hj : j ≤ 2) (hf : ¬ fitsB (nI (1 + j)) u = true) : Con g yX2_sets cX2_sets 3 (some .int) ({ frames := 4, cells := 0, slots := 0, locals := 95 } : Room) [.ref (a 0), .int (nI j), .int u] (surgeW g a now spare K nw sts rf pg) (Is (some (.int (-2))) (surgeW g a now spare K nw sts (rfU rf (-2)) pg)) := by
  refine con_of_V ypl_X2_sets (Nat.le_of_ble_eq_true rfl) [(0, .ref (a 0)), (1, .int (nI j)), (2, .int u)] rfl (fun Γ ok => ?_)
  refine V_iload_n ok dX2_sets_0 rfl 1 rfl ?_
  refine V_ifN_lt (tgt := 9) ok dX2_sets_1 (by decide) (by omega) ?_
  refine V_iload_n ok dX2_sets_4 rfl 1 rfl ?_
  refine V_iconst (v := nI 2) ok dX2_sets_5 rfl ?_
  refine V_icmpN_le (tgt := 16) ok dX2_sets_6 (by decide) (by omega) (by omega) (fun h6 => ?_) (fun h6 => absurd (by omega) h6)
  refine V_aload_n ok dX2_sets_16 rfl 0 rfl ?_
  refine V_iconst (v := nI 1) ok dX2_sets_17 rfl ?_
  refine V_iload_n ok dX2_sets_18 rfl 1 rfl ?_
  refine V_iaddN (a := 1) (b := j) (c := 1 + j) ok dX2_sets_19 (by first | rfl | omega) ?_
  refine V_iload_n ok dX2_sets_20 rfl 2 rfl ?_
  refine V_cW (v2 := some (.int (-2))) (w2 := surgeW g a now spare K nw sts (rfU rf (-2)) pg) (rest := []) ok 0 2 (c_X2_change_bad g a now spare K nw sts rf pg (1 + j) u hf) 2 twm_X2_41 twi_yX2_change twv_yX2_change twin_X2 twc_yX2_change yok_X2_change (by decide) ⟨rfl, rfl⟩ dX2_sets_21 rfl sg_at0 rfl rfl (Nat.le_of_ble_eq_true rfl) ⟨Nat.zero_le _, Nat.zero_le _⟩ ?_
  exact V_iret ok dX2_sets_24 (Nat.zero_le _) (Nat.zero_le _) ⟨rfl, rfl⟩
set_option maxHeartbeats 4000000 in
set_option maxRecDepth 100000 in
theorem c_X2_sets_out (g : Glob) (a : Nat → Nat) (now spare : LineSt) (K : Nat → LineSt) (nw sts : Nat) (rf : Nat → Int32) (pg : PageSt) (q u : Int32) (ho : q < 0 ∨ nI 2 < q) : Con g yX2_sets cX2_sets 3 (some .int) ({ frames := 4, cells := 0, slots := 0, locals := 95 } : Room) [.ref (a 0), .int q, .int u] (surgeW g a now spare K nw sts rf pg) (Is (some (.int (-2))) (surgeW g a now spare K nw sts (rfU rf (-2)) pg)) := by
  refine con_of_V ypl_X2_sets (Nat.le_of_ble_eq_true rfl) [(0, .ref (a 0)), (1, .int q), (2, .int u)] rfl (fun Γ ok => ?_)
  refine V_iload_n ok dX2_sets_0 rfl 1 rfl ?_
  refine V_if_lt (tgt := 9) ok dX2_sets_1 (by decide) (fun h1 => ?_) (fun h1 => ?_)
  · refine V_aload_n ok dX2_sets_9 rfl 0 rfl ?_
    refine V_bipush (v := (-2)) ok dX2_sets_10 rfl ?_
    refine V_cW (v2 := some (.int (-2))) (w2 := surgeW g a now spare K nw sts (rfU rf (-2)) pg) (rest := []) ok 0 2 (c_X2_refuse_m2 g a now spare K nw sts rf pg) 1 twm_X2_45 twi_yX2_refuse twv_yX2_refuse twin_X2 twc_yX2_refuse yok_X2_refuse (by decide) ⟨rfl, rfl⟩ dX2_sets_12 rfl sg_at0 rfl rfl (Nat.le_of_ble_eq_true rfl) ⟨Nat.zero_le _, Nat.zero_le _⟩ ?_
    exact V_iret ok dX2_sets_15 (Nat.zero_le _) (Nat.zero_le _) ⟨rfl, rfl⟩
  · refine V_iload_n ok dX2_sets_4 rfl 1 rfl ?_
    refine V_iconst (v := nI 2) ok dX2_sets_5 rfl ?_
    refine V_icmp_le (tgt := 16) ok dX2_sets_6 (by decide) (fun h6 => absurd h6 (Int32.not_le.mpr (ho.resolve_left h1))) (fun h6 => ?_)
    refine V_aload_n ok dX2_sets_9 rfl 0 rfl ?_
    refine V_bipush (v := (-2)) ok dX2_sets_10 rfl ?_
    refine V_cW (v2 := some (.int (-2))) (w2 := surgeW g a now spare K nw sts (rfU rf (-2)) pg) (rest := []) ok 0 2 (c_X2_refuse_m2 g a now spare K nw sts rf pg) 1 twm_X2_45 twi_yX2_refuse twv_yX2_refuse twin_X2 twc_yX2_refuse yok_X2_refuse (by decide) ⟨rfl, rfl⟩ dX2_sets_12 rfl sg_at0 rfl rfl (Nat.le_of_ble_eq_true rfl) ⟨Nat.zero_le _, Nat.zero_le _⟩ ?_
    exact V_iret ok dX2_sets_15 (Nat.zero_le _) (Nat.zero_le _) ⟨rfl, rfl⟩
set_option maxHeartbeats 4000000 in
set_option maxRecDepth 100000 in
theorem c_X2_ends_ok (g : Glob) (a : Nat → Nat) (now spare : LineSt) (K : Nat → LineSt) (nw sts : Nat) (rf : Nat → Int32) (pg : PageSt) (j : Nat) (u : Int32) (hj : j ≤ 1) (hf : fitsB (nI (4 + j)) u = true) (hx : LG now) (hnw : nw < 4) (hst : sts ≤ 4) : Con g yX2_ends cX2_ends 3 (some .int) ({ frames := 4, cells := 0, slots := 0, locals := 95 } : Room) [.ref (a 0), .int (nI j), .int u] (surgeW g a now spare K nw sts rf pg) (Is (some (.int (now.1 (4 + j)))) (surgeW g a (settleL (upd now.1 (4 + j) u, now.2)) spare (ringU K nw now) ((nw + 1) % 4) (stsU sts) rf pg)) := by
  refine con_of_V ypl_X2_ends (Nat.le_of_ble_eq_true rfl) [(0, .ref (a 0)), (1, .int (nI j)), (2, .int u)] rfl (fun Γ ok => ?_)
  refine V_iload_n ok dX2_ends_0 rfl 1 rfl ?_
  refine V_ifN_lt (tgt := 9) ok dX2_ends_1 (by decide) (by omega) ?_
  refine V_iload_n ok dX2_ends_4 rfl 1 rfl ?_
  refine V_iconst (v := nI 1) ok dX2_ends_5 rfl ?_
  refine V_icmpN_le (tgt := 16) ok dX2_ends_6 (by decide) (by omega) (by omega) (fun h6 => ?_) (fun h6 => absurd (by omega) h6)
  refine V_aload_n ok dX2_ends_16 rfl 0 rfl ?_
  refine V_iconst (v := nI 4) ok dX2_ends_17 rfl ?_
  refine V_iload_n ok dX2_ends_18 rfl 1 rfl ?_
  refine V_iaddN (a := 4) (b := j) (c := 4 + j) ok dX2_ends_19 (by first | rfl | omega) ?_
  refine V_iload_n ok dX2_ends_20 rfl 2 rfl ?_
  refine V_cW (v2 := some (.int (now.1 (4 + j)))) (w2 := surgeW g a (settleL (upd now.1 (4 + j) u, now.2)) spare (ringU K nw now) ((nw + 1) % 4) (stsU sts) rf pg) (rest := []) ok 0 2 (c_X2_change_ok g a now spare K nw sts rf pg (4 + j) u (by omega) hf hx hnw hst) 2 twm_X2_41 twi_yX2_change twv_yX2_change twin_X2 twc_yX2_change yok_X2_change (by decide) ⟨rfl, rfl⟩ dX2_ends_21 rfl sg_at0 rfl rfl (Nat.le_of_ble_eq_true rfl) ⟨Nat.zero_le _, Nat.zero_le _⟩ ?_
  exact V_iret ok dX2_ends_24 (Nat.zero_le _) (Nat.zero_le _) ⟨rfl, rfl⟩
set_option maxHeartbeats 4000000 in
set_option maxRecDepth 100000 in
theorem c_X2_ends_bad (g : Glob) (a : Nat → Nat) (now spare : LineSt) (K : Nat → LineSt) (nw sts : Nat) (rf : Nat → Int32) (pg : PageSt) (j : Nat) (u : Int32) (hj : j ≤ 1) (hf : ¬ fitsB (nI (4 + j)) u = true) : Con g yX2_ends cX2_ends 3 (some .int) ({ frames := 4, cells := 0, slots := 0, locals := 95 } : Room) [.ref (a 0), .int (nI j), .int u] (surgeW g a now spare K nw sts rf pg) (Is (some (.int (-2))) (surgeW g a now spare K nw sts (rfU rf (-2)) pg)) := by
  refine con_of_V ypl_X2_ends (Nat.le_of_ble_eq_true rfl) [(0, .ref (a 0)), (1, .int (nI j)), (2, .int u)] rfl (fun Γ ok => ?_)
  refine V_iload_n ok dX2_ends_0 rfl 1 rfl ?_
  refine V_ifN_lt (tgt := 9) ok dX2_ends_1 (by decide) (by omega) ?_
  refine V_iload_n ok dX2_ends_4 rfl 1 rfl ?_
  refine V_iconst (v := nI 1) ok dX2_ends_5 rfl ?_
  refine V_icmpN_le (tgt := 16) ok dX2_ends_6 (by decide) (by omega) (by omega) (fun h6 => ?_) (fun h6 => absurd (by omega) h6)
  refine V_aload_n ok dX2_ends_16 rfl 0 rfl ?_
  refine V_iconst (v := nI 4) ok dX2_ends_17 rfl ?_
  refine V_iload_n ok dX2_ends_18 rfl 1 rfl ?_
  refine V_iaddN (a := 4) (b := j) (c := 4 + j) ok dX2_ends_19 (by first | rfl | omega) ?_
  refine V_iload_n ok dX2_ends_20 rfl 2 rfl ?_
  refine V_cW (v2 := some (.int (-2))) (w2 := surgeW g a now spare K nw sts (rfU rf (-2)) pg) (rest := []) ok 0 2 (c_X2_change_bad g a now spare K nw sts rf pg (4 + j) u hf) 2 twm_X2_41 twi_yX2_change twv_yX2_change twin_X2 twc_yX2_change yok_X2_change (by decide) ⟨rfl, rfl⟩ dX2_ends_21 rfl sg_at0 rfl rfl (Nat.le_of_ble_eq_true rfl) ⟨Nat.zero_le _, Nat.zero_le _⟩ ?_
  exact V_iret ok dX2_ends_24 (Nat.zero_le _) (Nat.zero_le _) ⟨rfl, rfl⟩
set_option maxHeartbeats 4000000 in
set_option maxRecDepth 100000 in
theorem c_X2_ends_out (g : Glob) (a : Nat → Nat) (now spare : LineSt) (K : Nat → LineSt) (nw sts : Nat) (rf : Nat → Int32) (pg : PageSt) (q u : Int32) (ho : q < 0 ∨ nI 1 < q) : Con g yX2_ends cX2_ends 3 (some .int) ({ frames := 4, cells := 0, slots := 0, locals := 95 } : Room) [.ref (a 0), .int q, .int u] (surgeW g a now spare K nw sts rf pg) (Is (some (.int (-2))) (surgeW g a now spare K nw sts (rfU rf (-2)) pg)) := by
  refine con_of_V ypl_X2_ends (Nat.le_of_ble_eq_true rfl) [(0, .ref (a 0)), (1, .int q), (2, .int u)] rfl (fun Γ ok => ?_)
  refine V_iload_n ok dX2_ends_0 rfl 1 rfl ?_
  refine V_if_lt (tgt := 9) ok dX2_ends_1 (by decide) (fun h1 => ?_) (fun h1 => ?_)
  · refine V_aload_n ok dX2_ends_9 rfl 0 rfl ?_
    refine V_bipush (v := (-2)) ok dX2_ends_10 rfl ?_
    refine V_cW (v2 := some (.int (-2))) (w2 := surgeW g a now spare K nw sts (rfU rf (-2)) pg) (rest := []) ok 0 2 (c_X2_refuse_m2 g a now spare K nw sts rf pg) 1 twm_X2_45 twi_yX2_refuse twv_yX2_refuse twin_X2 twc_yX2_refuse yok_X2_refuse (by decide) ⟨rfl, rfl⟩ dX2_ends_12 rfl sg_at0 rfl rfl (Nat.le_of_ble_eq_true rfl) ⟨Nat.zero_le _, Nat.zero_le _⟩ ?_
    exact V_iret ok dX2_ends_15 (Nat.zero_le _) (Nat.zero_le _) ⟨rfl, rfl⟩
  · refine V_iload_n ok dX2_ends_4 rfl 1 rfl ?_
    refine V_iconst (v := nI 1) ok dX2_ends_5 rfl ?_
    refine V_icmp_le (tgt := 16) ok dX2_ends_6 (by decide) (fun h6 => absurd h6 (Int32.not_le.mpr (ho.resolve_left h1))) (fun h6 => ?_)
    refine V_aload_n ok dX2_ends_9 rfl 0 rfl ?_
    refine V_bipush (v := (-2)) ok dX2_ends_10 rfl ?_
    refine V_cW (v2 := some (.int (-2))) (w2 := surgeW g a now spare K nw sts (rfU rf (-2)) pg) (rest := []) ok 0 2 (c_X2_refuse_m2 g a now spare K nw sts rf pg) 1 twm_X2_45 twi_yX2_refuse twv_yX2_refuse twin_X2 twc_yX2_refuse yok_X2_refuse (by decide) ⟨rfl, rfl⟩ dX2_ends_12 rfl sg_at0 rfl rfl (Nat.le_of_ble_eq_true rfl) ⟨Nat.zero_le _, Nat.zero_le _⟩ ?_
    exact V_iret ok dX2_ends_15 (Nat.zero_le _) (Nat.zero_le _) ⟨rfl, rfl⟩
set_option maxHeartbeats 4000000 in
set_option maxRecDepth 100000 in
theorem c_X2_law_ok (g : Glob) (a : Nat → Nat) (now spare : LineSt) (K : Nat → LineSt) (nw sts : Nat) (rf : Nat → Int32) (pg : PageSt) (k t : Int32) (hl : isLawB k t = true) (hnw : nw < 4) (hst : sts ≤ 4) : Con g yX2_law cX2_law 4 (some .int) ({ frames := 3, cells := 0, slots := 0, locals := 72 } : Room) [.ref (a 0), .int k, .int t] (surgeW g a now spare K nw sts rf pg) (Is (some (.int (now.1 6))) (surgeW g a (upd (upd now.1 6 k) 7 t, now.2) spare (ringU K nw now) ((nw + 1) % 4) (stsU sts) rf pg)) := by
  refine con_of_V ypl_X2_law (Nat.le_of_ble_eq_true rfl) [(0, .ref (a 0)), (1, .int k), (2, .int t)] rfl (fun Γ ok => ?_)
  refine V_iload_n ok dX2_law_0 rfl 1 rfl ?_
  refine V_iload_n ok dX2_law_1 rfl 2 rfl ?_
  refine V_cS (v2 := some (.int (bI (isLawB k t)))) (wn := surgeW g a now spare K nw sts rf pg) (rest := []) ok (c_X0_isLaw g k t) 2 twm_X2_49 tws_yX0_isLaw twin_X0 twc_yX0_isLaw yok_X0_isLaw (by decide) ⟨rfl, rfl⟩ dX2_law_2 rfl rfl (Nat.le_of_ble_eq_true rfl) ⟨Nat.zero_le _, Nat.zero_le _⟩ [] rfl rfl (Nat.le_of_ble_eq_true rfl) (rep_nil _) ?_
  refine V_ifB_ne (tgt := 15) ok dX2_law_5 (by decide) (fun h5 => ?_) (fun h5 => absurd hl h5)
  refine V_aload_n ok dX2_law_15 rfl 0 rfl ?_
  refine V_aload_n ok dX2_law_16 rfl 0 rfl ?_
  refine V_get (v := .ref (a 1)) ok 0 0 tw_X2 twf_X2_10 rfl rfl (by decide) dX2_law_17 sg_at0 rfl ?_
  refine V_cW (v2 := none) (w2 := surgeW g a now spare (ringU K nw now) ((nw + 1) % 4) (stsU sts) rf pg) (rest := []) ok 0 2 (c_X2_keep_now g a now spare K nw sts rf pg hnw hst) 1 twm_X2_53 twi_yX2_keep twv_yX2_keep twin_X2 twc_yX2_keep yok_X2_keep (by decide) ⟨rfl, rfl⟩ dX2_law_20 rfl sg_at0 rfl rfl (Nat.le_of_ble_eq_true rfl) ⟨Nat.zero_le _, Nat.zero_le _⟩ ?_
  refine V_aload_n ok dX2_law_23 rfl 0 rfl ?_
  refine V_get (v := .ref (a 1)) ok 0 0 tw_X2 twf_X2_10 rfl rfl (by decide) dX2_law_24 sg_at0 rfl ?_
  refine V_get (v := .ref (a 2)) ok 1 0 tw_X0 twf_X2_57 rfl rfl (by decide) dX2_law_27 sg_at1 rfl ?_
  refine V_bipush (v := nI 6) ok dX2_law_30 rfl ?_
  refine V_iald (f := now.1) (N := 9) ok 2 6 dX2_law_32 sg_at2 rfl (by decide) (by decide) ?_
  refine V_istore_n (lv2 := [(3, .int (now.1 6)), (0, .ref (a 0)), (1, .int k), (2, .int t)]) ok dX2_law_33 rfl (by decide) rfl ?_
  refine V_aload_n ok dX2_law_34 rfl 1 rfl ?_
  refine V_get (v := .ref (a 1)) ok 0 0 tw_X2 twf_X2_10 rfl rfl (by decide) dX2_law_35 sg_at0 rfl ?_
  refine V_iload_n ok dX2_law_38 rfl 2 rfl ?_
  refine V_iload_n ok dX2_law_39 rfl 3 rfl ?_
  refine V_cV (v2 := none) (wn := surgeW g a (upd (upd now.1 6 k) 7 t, now.2) spare (ringU K nw now) ((nw + 1) % 4) (stsU sts) rf pg) (rest := []) ok 1 0 (k_X0_govern g (fun i => a (1 + i)) now k t) 2 twm_X2_60 twi_yX0_govern twv_yX0_govern twin_X0 twc_yX0_govern yok_X0_govern (by decide) ⟨rfl, rfl⟩ dX2_law_40 rfl sg_at1 rfl rfl (Nat.le_of_ble_eq_true rfl) ⟨Nat.zero_le _, Nat.zero_le _⟩ (slN 1) rfl sg_sub_1 (Nat.le_of_ble_eq_true rfl) sg_rep_1 ?_
  refine V_iload_n ok dX2_law_43 rfl 0 rfl ?_
  exact V_iret ok dX2_law_44 (Nat.zero_le _) (Nat.zero_le _) ⟨rfl, rfl⟩
set_option maxHeartbeats 4000000 in
set_option maxRecDepth 100000 in
theorem c_X2_law_bad (g : Glob) (a : Nat → Nat) (now spare : LineSt) (K : Nat → LineSt) (nw sts : Nat) (rf : Nat → Int32) (pg : PageSt) (k t : Int32) (hl : ¬ isLawB k t = true) : Con g yX2_law cX2_law 4 (some .int) ({ frames := 3, cells := 0, slots := 0, locals := 72 } : Room) [.ref (a 0), .int k, .int t] (surgeW g a now spare K nw sts rf pg) (Is (some (.int (-2))) (surgeW g a now spare K nw sts (rfU rf (-2)) pg)) := by
  refine con_of_V ypl_X2_law (Nat.le_of_ble_eq_true rfl) [(0, .ref (a 0)), (1, .int k), (2, .int t)] rfl (fun Γ ok => ?_)
  refine V_iload_n ok dX2_law_0 rfl 1 rfl ?_
  refine V_iload_n ok dX2_law_1 rfl 2 rfl ?_
  refine V_cS (v2 := some (.int (bI (isLawB k t)))) (wn := surgeW g a now spare K nw sts rf pg) (rest := []) ok (c_X0_isLaw g k t) 2 twm_X2_49 tws_yX0_isLaw twin_X0 twc_yX0_isLaw yok_X0_isLaw (by decide) ⟨rfl, rfl⟩ dX2_law_2 rfl rfl (Nat.le_of_ble_eq_true rfl) ⟨Nat.zero_le _, Nat.zero_le _⟩ [] rfl rfl (Nat.le_of_ble_eq_true rfl) (rep_nil _) ?_
  refine V_ifB_ne (tgt := 15) ok dX2_law_5 (by decide) (fun h5 => absurd h5 hl) (fun h5 => ?_)
  refine V_aload_n ok dX2_law_8 rfl 0 rfl ?_
  refine V_bipush (v := (-2)) ok dX2_law_9 rfl ?_
  refine V_cW (v2 := some (.int (-2))) (w2 := surgeW g a now spare K nw sts (rfU rf (-2)) pg) (rest := []) ok 0 2 (c_X2_refuse_m2 g a now spare K nw sts rf pg) 1 twm_X2_45 twi_yX2_refuse twv_yX2_refuse twin_X2 twc_yX2_refuse yok_X2_refuse (by decide) ⟨rfl, rfl⟩ dX2_law_11 rfl sg_at0 rfl rfl (Nat.le_of_ble_eq_true rfl) ⟨Nat.zero_le _, Nat.zero_le _⟩ ?_
  exact V_iret ok dX2_law_14 (Nat.zero_le _) (Nat.zero_le _) ⟨rfl, rfl⟩
set_option maxHeartbeats 4000000 in
set_option maxRecDepth 100000 in
theorem c_X2_steady (g : Glob) (a : Nat → Nat) (now spare : LineSt) (K : Nat → LineSt) (nw sts : Nat) (rf : Nat → Int32) (pg : PageSt) (hx : LG now) (hnw : nw < 4) (hst : sts ≤ 4) : Con g yX2_steady cX2_steady 2 (some .int) ({ frames := 3, cells := 0, slots := 0, locals := 72 } : Room) [.ref (a 0)] (surgeW g a now spare K nw sts rf pg) (Is (some (.int (now.1 8))) (surgeW g a (settleL now) spare (ringU K nw now) ((nw + 1) % 4) (stsU sts) rf pg)) := by
  refine con_of_V ypl_X2_steady (Nat.le_of_ble_eq_true rfl) [(0, .ref (a 0))] rfl (fun Γ ok => ?_)
  refine V_aload_n ok dX2_steady_0 rfl 0 rfl ?_
  refine V_aload_n ok dX2_steady_1 rfl 0 rfl ?_
  refine V_get (v := .ref (a 1)) ok 0 0 tw_X2 twf_X2_10 rfl rfl (by decide) dX2_steady_2 sg_at0 rfl ?_
  refine V_cW (v2 := none) (w2 := surgeW g a now spare (ringU K nw now) ((nw + 1) % 4) (stsU sts) rf pg) (rest := []) ok 0 2 (c_X2_keep_now g a now spare K nw sts rf pg hnw hst) 1 twm_X2_53 twi_yX2_keep twv_yX2_keep twin_X2 twc_yX2_keep yok_X2_keep (by decide) ⟨rfl, rfl⟩ dX2_steady_5 rfl sg_at0 rfl rfl (Nat.le_of_ble_eq_true rfl) ⟨Nat.zero_le _, Nat.zero_le _⟩ ?_
  refine V_aload_n ok dX2_steady_8 rfl 0 rfl ?_
  refine V_get (v := .ref (a 1)) ok 0 0 tw_X2 twf_X2_10 rfl rfl (by decide) dX2_steady_9 sg_at0 rfl ?_
  refine V_get (v := .ref (a 2)) ok 1 0 tw_X0 twf_X2_57 rfl rfl (by decide) dX2_steady_12 sg_at1 rfl ?_
  refine V_bipush (v := nI 8) ok dX2_steady_15 rfl ?_
  refine V_iald (f := now.1) (N := 9) ok 2 8 dX2_steady_17 sg_at2 rfl (by decide) (by decide) ?_
  refine V_istore_n (lv2 := [(1, .int (now.1 8)), (0, .ref (a 0))]) ok dX2_steady_18 rfl (by decide) rfl ?_
  refine V_aload_n ok dX2_steady_19 rfl 1 rfl ?_
  refine V_get (v := .ref (a 1)) ok 0 0 tw_X2 twf_X2_10 rfl rfl (by decide) dX2_steady_20 sg_at0 rfl ?_
  refine V_cV (v2 := none) (wn := surgeW g a (settleL now) spare (ringU K nw now) ((nw + 1) % 4) (stsU sts) rf pg) (rest := []) ok 1 0 (k_X0_settle g (fun i => a (1 + i)) now hx.1) 0 twm_X2_64 twi_yX0_settle twv_yX0_settle twin_X0 twc_yX0_settle yok_X0_settle (by decide) ⟨rfl, rfl⟩ dX2_steady_23 rfl sg_at1 rfl rfl (Nat.le_of_ble_eq_true rfl) ⟨Nat.zero_le _, Nat.zero_le _⟩ (slN 1) rfl sg_sub_1 (Nat.le_of_ble_eq_true rfl) sg_rep_1 ?_
  refine V_iload_n ok dX2_steady_26 rfl 0 rfl ?_
  exact V_iret ok dX2_steady_27 (Nat.zero_le _) (Nat.zero_le _) ⟨rfl, rfl⟩
set_option maxHeartbeats 4000000 in
set_option maxRecDepth 100000 in
theorem c_X2_steps_bad (g : Glob) (a : Nat → Nat) (now spare : LineSt) (K : Nat → LineSt) (nw sts : Nat) (rf : Nat → Int32) (pg : PageSt) (n : Int32) (hs : ¬ stepB n = true) : Con g yX2_steps cX2_steps 2 (some .int) ({ frames := 3, cells := 0, slots := 0, locals := 75 } : Room) [.ref (a 0), .int n] (surgeW g a now spare K nw sts rf pg) (Is (some (.int (-2))) (surgeW g a now spare K nw sts (rfU rf (-2)) pg)) := by
  refine con_of_V ypl_X2_steps (Nat.le_of_ble_eq_true rfl) [(0, .ref (a 0)), (1, .int n)] rfl (fun Γ ok => ?_)
  refine V_iload_n ok dX2_steps_0 rfl 1 rfl ?_
  refine V_cS (v2 := some (.int (bI (stepB n)))) (wn := surgeW g a now spare K nw sts rf pg) (rest := []) ok (c_X2_isStepCount g n) 1 twm_X2_67 tws_yX2_isStepCount twin_X2 twc_yX2_isStepCount yok_X2_isStepCount (by decide) ⟨rfl, rfl⟩ dX2_steps_1 rfl rfl (Nat.le_of_ble_eq_true rfl) ⟨Nat.zero_le _, Nat.zero_le _⟩ [] rfl rfl (Nat.le_of_ble_eq_true rfl) (rep_nil _) ?_
  refine V_ifB_ne (tgt := 14) ok dX2_steps_4 (by decide) (fun h4 => absurd h4 hs) (fun h4 => ?_)
  refine V_aload_n ok dX2_steps_7 rfl 0 rfl ?_
  refine V_bipush (v := (-2)) ok dX2_steps_8 rfl ?_
  refine V_cW (v2 := some (.int (-2))) (w2 := surgeW g a now spare K nw sts (rfU rf (-2)) pg) (rest := []) ok 0 2 (c_X2_refuse_m2 g a now spare K nw sts rf pg) 1 twm_X2_45 twi_yX2_refuse twv_yX2_refuse twin_X2 twc_yX2_refuse yok_X2_refuse (by decide) ⟨rfl, rfl⟩ dX2_steps_10 rfl sg_at0 rfl rfl (Nat.le_of_ble_eq_true rfl) ⟨Nat.zero_le _, Nat.zero_le _⟩ ?_
  exact V_iret ok dX2_steps_13 (Nat.zero_le _) (Nat.zero_le _) ⟨rfl, rfl⟩
set_option maxHeartbeats 4000000 in
set_option maxRecDepth 100000 in
theorem c_X2_steps_full (g : Glob) (a : Nat → Nat) (now spare : LineSt) (K : Nat → LineSt) (nw sts : Nat) (rf : Nat → Int32) (pg : PageSt) (n : Nat) (hs : stepB (nI n) = true) (ht : ¬ timeB now.1 (nI n) = true) : Con g yX2_steps cX2_steps 2 (some .int) ({ frames := 3, cells := 0, slots := 0, locals := 75 } : Room) [.ref (a 0), .int (nI n)] (surgeW g a now spare K nw sts rf pg) (Is (some (.int (-4))) (surgeW g a now spare K nw sts (rfU rf (-4)) pg)) := by
  refine con_of_V ypl_X2_steps (Nat.le_of_ble_eq_true rfl) [(0, .ref (a 0)), (1, .int (nI n))] rfl (fun Γ ok => ?_)
  refine V_iload_n ok dX2_steps_0 rfl 1 rfl ?_
  refine V_cS (v2 := some (.int (bI (stepB (nI n))))) (wn := surgeW g a now spare K nw sts rf pg) (rest := []) ok (c_X2_isStepCount g (nI n)) 1 twm_X2_67 tws_yX2_isStepCount twin_X2 twc_yX2_isStepCount yok_X2_isStepCount (by decide) ⟨rfl, rfl⟩ dX2_steps_1 rfl rfl (Nat.le_of_ble_eq_true rfl) ⟨Nat.zero_le _, Nat.zero_le _⟩ [] rfl rfl (Nat.le_of_ble_eq_true rfl) (rep_nil _) ?_
  refine V_ifB_ne (tgt := 14) ok dX2_steps_4 (by decide) (fun h4 => ?_) (fun h4 => absurd hs h4)
  refine V_aload_n ok dX2_steps_14 rfl 0 rfl ?_
  refine V_iload_n ok dX2_steps_15 rfl 1 rfl ?_
  refine V_cW (v2 := some (.int (bI (timeB now.1 (nI n))))) (w2 := surgeW g a now spare K nw sts rf pg) (rest := []) ok 0 2 (c_X2_hasTimeFor g a now spare K nw sts rf pg (nI n)) 1 twm_X2_71 twi_yX2_hasTimeFor twv_yX2_hasTimeFor twin_X2 twc_yX2_hasTimeFor yok_X2_hasTimeFor (by decide) ⟨rfl, rfl⟩ dX2_steps_16 rfl sg_at0 rfl rfl (Nat.le_of_ble_eq_true rfl) ⟨Nat.zero_le _, Nat.zero_le _⟩ ?_
  refine V_ifB_ne (tgt := 29) ok dX2_steps_19 (by decide) (fun h19 => absurd h19 ht) (fun h19 => ?_)
  refine V_aload_n ok dX2_steps_22 rfl 0 rfl ?_
  refine V_bipush (v := (-4)) ok dX2_steps_23 rfl ?_
  refine V_cW (v2 := some (.int (-4))) (w2 := surgeW g a now spare K nw sts (rfU rf (-4)) pg) (rest := []) ok 0 2 (c_X2_refuse_m4 g a now spare K nw sts rf pg) 1 twm_X2_45 twi_yX2_refuse twv_yX2_refuse twin_X2 twc_yX2_refuse yok_X2_refuse (by decide) ⟨rfl, rfl⟩ dX2_steps_25 rfl sg_at0 rfl rfl (Nat.le_of_ble_eq_true rfl) ⟨Nat.zero_le _, Nat.zero_le _⟩ ?_
  exact V_iret ok dX2_steps_28 (Nat.zero_le _) (Nat.zero_le _) ⟨rfl, rfl⟩
set_option maxHeartbeats 4000000 in
set_option maxRecDepth 100000 in
theorem c_X2_steps_ok (g : Glob) (a : Nat → Nat) (now spare : LineSt) (K : Nat → LineSt) (nw sts : Nat) (rf : Nat → Int32) (pg : PageSt) (n : Nat) (hs : stepB (nI n) = true) (ht : timeB now.1 (nI n) = true) (hx : LG now) (hn : nv now.1 8 + n ≤ 999) (hnw : nw < 4) (hst : sts ≤ 4) : Con g yX2_steps cX2_steps 2 (some .int) ({ frames := 3, cells := 0, slots := 0, locals := 75 } : Room) [.ref (a 0), .int (nI n)] (surgeW g a now spare K nw sts rf pg) (Is (some (.int ((advL n now).1 8))) (surgeW g a (advL n now) spare (ringU K nw now) ((nw + 1) % 4) (stsU sts) rf pg)) := by
  refine con_of_V ypl_X2_steps (Nat.le_of_ble_eq_true rfl) [(0, .ref (a 0)), (1, .int (nI n))] rfl (fun Γ ok => ?_)
  refine V_iload_n ok dX2_steps_0 rfl 1 rfl ?_
  refine V_cS (v2 := some (.int (bI (stepB (nI n))))) (wn := surgeW g a now spare K nw sts rf pg) (rest := []) ok (c_X2_isStepCount g (nI n)) 1 twm_X2_67 tws_yX2_isStepCount twin_X2 twc_yX2_isStepCount yok_X2_isStepCount (by decide) ⟨rfl, rfl⟩ dX2_steps_1 rfl rfl (Nat.le_of_ble_eq_true rfl) ⟨Nat.zero_le _, Nat.zero_le _⟩ [] rfl rfl (Nat.le_of_ble_eq_true rfl) (rep_nil _) ?_
  refine V_ifB_ne (tgt := 14) ok dX2_steps_4 (by decide) (fun h4 => ?_) (fun h4 => absurd hs h4)
  refine V_aload_n ok dX2_steps_14 rfl 0 rfl ?_
  refine V_iload_n ok dX2_steps_15 rfl 1 rfl ?_
  refine V_cW (v2 := some (.int (bI (timeB now.1 (nI n))))) (w2 := surgeW g a now spare K nw sts rf pg) (rest := []) ok 0 2 (c_X2_hasTimeFor g a now spare K nw sts rf pg (nI n)) 1 twm_X2_71 twi_yX2_hasTimeFor twv_yX2_hasTimeFor twin_X2 twc_yX2_hasTimeFor yok_X2_hasTimeFor (by decide) ⟨rfl, rfl⟩ dX2_steps_16 rfl sg_at0 rfl rfl (Nat.le_of_ble_eq_true rfl) ⟨Nat.zero_le _, Nat.zero_le _⟩ ?_
  refine V_ifB_ne (tgt := 29) ok dX2_steps_19 (by decide) (fun h19 => ?_) (fun h19 => absurd ht h19)
  refine V_aload_n ok dX2_steps_29 rfl 0 rfl ?_
  refine V_aload_n ok dX2_steps_30 rfl 0 rfl ?_
  refine V_get (v := .ref (a 1)) ok 0 0 tw_X2 twf_X2_10 rfl rfl (by decide) dX2_steps_31 sg_at0 rfl ?_
  refine V_cW (v2 := none) (w2 := surgeW g a now spare (ringU K nw now) ((nw + 1) % 4) (stsU sts) rf pg) (rest := []) ok 0 2 (c_X2_keep_now g a now spare K nw sts rf pg hnw hst) 1 twm_X2_53 twi_yX2_keep twv_yX2_keep twin_X2 twc_yX2_keep yok_X2_keep (by decide) ⟨rfl, rfl⟩ dX2_steps_34 rfl sg_at0 rfl rfl (Nat.le_of_ble_eq_true rfl) ⟨Nat.zero_le _, Nat.zero_le _⟩ ?_
  refine V_aload_n ok dX2_steps_37 rfl 0 rfl ?_
  refine V_get (v := .ref (a 1)) ok 0 0 tw_X2 twf_X2_10 rfl rfl (by decide) dX2_steps_38 sg_at0 rfl ?_
  refine V_iload_n ok dX2_steps_41 rfl 1 rfl ?_
  refine V_cV (v2 := none) (wn := surgeW g a (advL n now) spare (ringU K nw now) ((nw + 1) % 4) (stsU sts) rf pg) (rest := []) ok 1 0 (c_X0_advance g (fun i => a (1 + i)) now n hx hn) 1 twm_X2_74 twi_yX0_advance twv_yX0_advance twin_X0 twc_yX0_advance yok_X0_advance (by decide) ⟨rfl, rfl⟩ dX2_steps_42 rfl sg_at1 rfl rfl (Nat.le_of_ble_eq_true rfl) ⟨Nat.zero_le _, Nat.zero_le _⟩ (slN 1) rfl sg_sub_1 (Nat.le_of_ble_eq_true rfl) sg_rep_1 ?_
  refine V_aload_n ok dX2_steps_45 rfl 0 rfl ?_
  refine V_get (v := .ref (a 1)) ok 0 0 tw_X2 twf_X2_10 rfl rfl (by decide) dX2_steps_46 sg_at0 rfl ?_
  refine V_get (v := .ref (a 2)) ok 1 0 tw_X0 twf_X2_57 rfl rfl (by decide) dX2_steps_49 sg_at1 rfl ?_
  refine V_bipush (v := nI 8) ok dX2_steps_52 rfl ?_
  refine V_iald (f := (advL n now).1) (N := 9) ok 2 8 dX2_steps_54 sg_at2 rfl (by decide) (by decide) ?_
  exact V_iret ok dX2_steps_55 (Nat.zero_le _) (Nat.zero_le _) ⟨rfl, rfl⟩
set_option maxHeartbeats 4000000 in
set_option maxRecDepth 100000 in
theorem c_X2_node_ok (g : Glob) (a : Nat → Nat) (now spare : LineSt) (K : Nat → LineSt) (nw sts : Nat) (rf : Nat → Int32) (pg : PageSt) (i w : Nat) (hx : LG now) (hi : i ≤ nv now.1 0) (hw : w ≤ 5) : Con g yX2_node cX2_node 3 (some .long) ({ frames := 2, cells := 0, slots := 0, locals := 41 } : Room) [.ref (a 0), .int (nI i), .int (nI w)] (surgeW g a now spare K nw sts rf pg) (Is (some (.long (tf (nodeV now i w)))) (surgeW g a now spare K nw sts rf pg)) := by
  refine con_of_V ypl_X2_node (Nat.le_of_ble_eq_true rfl) [(0, .ref (a 0)), (1, .int (nI i)), (2, .int (nI w))] rfl (fun Γ ok => ?_)
  have hN := hx.1.n
  obtain ⟨f1, f2, f3, f4, f5⟩ := hx.nodeF hi
  have hp := hx.press hi
  have hb : nodeB now.1 (nI i) = true := by unfold nodeB; rw [if_neg (nI_pos (by omega)), hN.1, if_neg (nI_nlt hi (by omega))]
  rcases (show w = 0 ∨ w = 1 ∨ w = 2 ∨ w = 3 ∨ w = 4 ∨ w = 5 by omega) with rfl | rfl | rfl | rfl | rfl | rfl
  · refine V_aload_n ok dX2_node_0 rfl 0 rfl ?_
    refine V_get (v := .ref (a 1)) ok 0 0 tw_X2 twf_X2_10 rfl rfl (by decide) dX2_node_1 sg_at0 rfl ?_
    refine V_iload_n ok dX2_node_4 rfl 1 rfl ?_
    refine V_cV (v2 := some (.int (bI (nodeB now.1 (nI i))))) (wn := surgeW g a now spare K nw sts rf pg) (rest := []) ok 1 0 (k_X0_hasNode g (fun i => a (1 + i)) now (nI i)) 1 twm_X2_78 twi_yX0_hasNode twv_yX0_hasNode twin_X0 twc_yX0_hasNode yok_X0_hasNode (by decide) ⟨rfl, rfl⟩ dX2_node_5 rfl sg_at1 rfl rfl (Nat.le_of_ble_eq_true rfl) ⟨Nat.zero_le _, Nat.zero_le _⟩ (slN 1) rfl sg_sub_1 (Nat.le_of_ble_eq_true rfl) sg_rep_1 ?_
    refine V_ifB_eq (tgt := 20) ok dX2_node_8 (by decide) (fun h8 => absurd hb h8) (fun h8 => ?_)
    refine V_iload_n ok dX2_node_11 rfl 2 rfl ?_
    refine V_ifN_lt (tgt := 20) ok dX2_node_12 (by decide) (by omega) ?_
    refine V_iload_n ok dX2_node_15 rfl 2 rfl ?_
    refine V_iconst (v := nI 5) ok dX2_node_16 rfl ?_
    refine V_icmpN_le (tgt := 25) ok dX2_node_17 (by decide) (by omega) (by omega) (fun h17 => ?_) (fun h17 => absurd (by decide) h17)
    refine V_iload_n ok dX2_node_25 rfl 2 rfl ?_
    refine V_tabIn (off := 34) (tgt := 60) ok dX2_node_26 (by decide) (by decide) rfl (by decide) ?_
    refine V_aload_n ok dX2_node_60 rfl 0 rfl ?_
    refine V_get (v := .ref (a 1)) ok 0 0 tw_X2 twf_X2_10 rfl rfl (by decide) dX2_node_61 sg_at0 rfl ?_
    refine V_iload_n ok dX2_node_64 rfl 1 rfl ?_
    refine V_cV (v2 := some (.double (FP.dadd (now.2.1 i) (now.2.2.1 i)))) (wn := surgeW g a now spare K nw sts rf pg) (rest := []) ok 1 0 (k_X0_pressure g (fun i => a (1 + i)) now i (by omega) hp.1.n64) 1 twm_X2_85 twi_yX0_pressure twv_yX0_pressure twin_X0 twc_yX0_pressure yok_X0_pressure (by decide) ⟨rfl, rfl⟩ dX2_node_65 rfl sg_at1 rfl rfl (Nat.le_of_ble_eq_true rfl) ⟨Nat.zero_le _, Nat.zero_le _⟩ (slN 1) rfl sg_sub_1 (Nat.le_of_ble_eq_true rfl) sg_rep_1 ?_
    refine V_cS (v2 := some (.long (tf (FP.dadd (now.2.1 i) (now.2.2.1 i))))) (wn := surgeW g a now spare K nw sts rf pg) (rest := []) ok (c_X2_thousandfold g (FP.dadd (now.2.1 i) (now.2.2.1 i)) hp.1.fin) 1 twm_X2_89 tws_yX2_thousandfold twin_X2 twc_yX2_thousandfold yok_X2_thousandfold (by decide) ⟨rfl, rfl⟩ dX2_node_68 rfl rfl (Nat.le_of_ble_eq_true rfl) ⟨Nat.zero_le _, Nat.zero_le _⟩ [] rfl rfl (Nat.le_of_ble_eq_true rfl) (rep_nil _) ?_
    exact V_lret ok dX2_node_71 (Nat.zero_le _) (Nat.zero_le _) ⟨rfl, rfl⟩
  · refine V_aload_n ok dX2_node_0 rfl 0 rfl ?_
    refine V_get (v := .ref (a 1)) ok 0 0 tw_X2 twf_X2_10 rfl rfl (by decide) dX2_node_1 sg_at0 rfl ?_
    refine V_iload_n ok dX2_node_4 rfl 1 rfl ?_
    refine V_cV (v2 := some (.int (bI (nodeB now.1 (nI i))))) (wn := surgeW g a now spare K nw sts rf pg) (rest := []) ok 1 0 (k_X0_hasNode g (fun i => a (1 + i)) now (nI i)) 1 twm_X2_78 twi_yX0_hasNode twv_yX0_hasNode twin_X0 twc_yX0_hasNode yok_X0_hasNode (by decide) ⟨rfl, rfl⟩ dX2_node_5 rfl sg_at1 rfl rfl (Nat.le_of_ble_eq_true rfl) ⟨Nat.zero_le _, Nat.zero_le _⟩ (slN 1) rfl sg_sub_1 (Nat.le_of_ble_eq_true rfl) sg_rep_1 ?_
    refine V_ifB_eq (tgt := 20) ok dX2_node_8 (by decide) (fun h8 => absurd hb h8) (fun h8 => ?_)
    refine V_iload_n ok dX2_node_11 rfl 2 rfl ?_
    refine V_ifN_lt (tgt := 20) ok dX2_node_12 (by decide) (by omega) ?_
    refine V_iload_n ok dX2_node_15 rfl 2 rfl ?_
    refine V_iconst (v := nI 5) ok dX2_node_16 rfl ?_
    refine V_icmpN_le (tgt := 25) ok dX2_node_17 (by decide) (by omega) (by omega) (fun h17 => ?_) (fun h17 => absurd (by decide) h17)
    refine V_iload_n ok dX2_node_25 rfl 2 rfl ?_
    refine V_tabIn (off := 46) (tgt := 72) ok dX2_node_26 (by decide) (by decide) rfl (by decide) ?_
    refine V_aload_n ok dX2_node_72 rfl 0 rfl ?_
    refine V_get (v := .ref (a 1)) ok 0 0 tw_X2 twf_X2_10 rfl rfl (by decide) dX2_node_73 sg_at0 rfl ?_
    refine V_get (v := .ref (a 3)) ok 1 1 tw_X0 twf_X2_93 rfl rfl (by decide) dX2_node_76 sg_at1 rfl ?_
    refine V_iload_n ok dX2_node_79 rfl 1 rfl ?_
    refine V_dald (f := now.2.1) (N := 11) ok 3 i dX2_node_80 sg_at3 rfl (by omega) (by decide) ?_
    refine V_aload_n ok dX2_node_81 rfl 0 rfl ?_
    refine V_get (v := .ref (a 1)) ok 0 0 tw_X2 twf_X2_10 rfl rfl (by decide) dX2_node_82 sg_at0 rfl ?_
    refine V_get (v := .ref (a 4)) ok 1 2 tw_X0 twf_X2_97 rfl rfl (by decide) dX2_node_85 sg_at1 rfl ?_
    refine V_iload_n ok dX2_node_88 rfl 1 rfl ?_
    refine V_dald (f := now.2.2.1) (N := 11) ok 4 i dX2_node_89 sg_at4 rfl (by omega) (by decide) ?_
    refine V_dsub ok dX2_node_90 f5.n64 ?_
    refine V_cS (v2 := some (.long (tf (FP.dsub (now.2.1 i) (now.2.2.1 i))))) (wn := surgeW g a now spare K nw sts rf pg) (rest := []) ok (c_X2_thousandfold g (FP.dsub (now.2.1 i) (now.2.2.1 i)) f5.fin) 1 twm_X2_89 tws_yX2_thousandfold twin_X2 twc_yX2_thousandfold yok_X2_thousandfold (by decide) ⟨rfl, rfl⟩ dX2_node_91 rfl rfl (Nat.le_of_ble_eq_true rfl) ⟨Nat.zero_le _, Nat.zero_le _⟩ [] rfl rfl (Nat.le_of_ble_eq_true rfl) (rep_nil _) ?_
    exact V_lret ok dX2_node_94 (Nat.zero_le _) (Nat.zero_le _) ⟨rfl, rfl⟩
  · refine V_aload_n ok dX2_node_0 rfl 0 rfl ?_
    refine V_get (v := .ref (a 1)) ok 0 0 tw_X2 twf_X2_10 rfl rfl (by decide) dX2_node_1 sg_at0 rfl ?_
    refine V_iload_n ok dX2_node_4 rfl 1 rfl ?_
    refine V_cV (v2 := some (.int (bI (nodeB now.1 (nI i))))) (wn := surgeW g a now spare K nw sts rf pg) (rest := []) ok 1 0 (k_X0_hasNode g (fun i => a (1 + i)) now (nI i)) 1 twm_X2_78 twi_yX0_hasNode twv_yX0_hasNode twin_X0 twc_yX0_hasNode yok_X0_hasNode (by decide) ⟨rfl, rfl⟩ dX2_node_5 rfl sg_at1 rfl rfl (Nat.le_of_ble_eq_true rfl) ⟨Nat.zero_le _, Nat.zero_le _⟩ (slN 1) rfl sg_sub_1 (Nat.le_of_ble_eq_true rfl) sg_rep_1 ?_
    refine V_ifB_eq (tgt := 20) ok dX2_node_8 (by decide) (fun h8 => absurd hb h8) (fun h8 => ?_)
    refine V_iload_n ok dX2_node_11 rfl 2 rfl ?_
    refine V_ifN_lt (tgt := 20) ok dX2_node_12 (by decide) (by omega) ?_
    refine V_iload_n ok dX2_node_15 rfl 2 rfl ?_
    refine V_iconst (v := nI 5) ok dX2_node_16 rfl ?_
    refine V_icmpN_le (tgt := 25) ok dX2_node_17 (by decide) (by omega) (by omega) (fun h17 => ?_) (fun h17 => absurd (by decide) h17)
    refine V_iload_n ok dX2_node_25 rfl 2 rfl ?_
    refine V_tabIn (off := 69) (tgt := 95) ok dX2_node_26 (by decide) (by decide) rfl (by decide) ?_
    refine V_aload_n ok dX2_node_95 rfl 0 rfl ?_
    refine V_get (v := .ref (a 1)) ok 0 0 tw_X2 twf_X2_10 rfl rfl (by decide) dX2_node_96 sg_at0 rfl ?_
    refine V_get (v := .ref (a 3)) ok 1 1 tw_X0 twf_X2_93 rfl rfl (by decide) dX2_node_99 sg_at1 rfl ?_
    refine V_iload_n ok dX2_node_102 rfl 1 rfl ?_
    refine V_dald (f := now.2.1) (N := 11) ok 3 i dX2_node_103 sg_at3 rfl (by omega) (by decide) ?_
    refine V_cS (v2 := some (.long (tf (now.2.1 i)))) (wn := surgeW g a now spare K nw sts rf pg) (rest := []) ok (c_X2_thousandfold g (now.2.1 i) f1) 1 twm_X2_89 tws_yX2_thousandfold twin_X2 twc_yX2_thousandfold yok_X2_thousandfold (by decide) ⟨rfl, rfl⟩ dX2_node_104 rfl rfl (Nat.le_of_ble_eq_true rfl) ⟨Nat.zero_le _, Nat.zero_le _⟩ [] rfl rfl (Nat.le_of_ble_eq_true rfl) (rep_nil _) ?_
    exact V_lret ok dX2_node_107 (Nat.zero_le _) (Nat.zero_le _) ⟨rfl, rfl⟩
  · refine V_aload_n ok dX2_node_0 rfl 0 rfl ?_
    refine V_get (v := .ref (a 1)) ok 0 0 tw_X2 twf_X2_10 rfl rfl (by decide) dX2_node_1 sg_at0 rfl ?_
    refine V_iload_n ok dX2_node_4 rfl 1 rfl ?_
    refine V_cV (v2 := some (.int (bI (nodeB now.1 (nI i))))) (wn := surgeW g a now spare K nw sts rf pg) (rest := []) ok 1 0 (k_X0_hasNode g (fun i => a (1 + i)) now (nI i)) 1 twm_X2_78 twi_yX0_hasNode twv_yX0_hasNode twin_X0 twc_yX0_hasNode yok_X0_hasNode (by decide) ⟨rfl, rfl⟩ dX2_node_5 rfl sg_at1 rfl rfl (Nat.le_of_ble_eq_true rfl) ⟨Nat.zero_le _, Nat.zero_le _⟩ (slN 1) rfl sg_sub_1 (Nat.le_of_ble_eq_true rfl) sg_rep_1 ?_
    refine V_ifB_eq (tgt := 20) ok dX2_node_8 (by decide) (fun h8 => absurd hb h8) (fun h8 => ?_)
    refine V_iload_n ok dX2_node_11 rfl 2 rfl ?_
    refine V_ifN_lt (tgt := 20) ok dX2_node_12 (by decide) (by omega) ?_
    refine V_iload_n ok dX2_node_15 rfl 2 rfl ?_
    refine V_iconst (v := nI 5) ok dX2_node_16 rfl ?_
    refine V_icmpN_le (tgt := 25) ok dX2_node_17 (by decide) (by omega) (by omega) (fun h17 => ?_) (fun h17 => absurd (by decide) h17)
    refine V_iload_n ok dX2_node_25 rfl 2 rfl ?_
    refine V_tabIn (off := 82) (tgt := 108) ok dX2_node_26 (by decide) (by decide) rfl (by decide) ?_
    refine V_aload_n ok dX2_node_108 rfl 0 rfl ?_
    refine V_get (v := .ref (a 1)) ok 0 0 tw_X2 twf_X2_10 rfl rfl (by decide) dX2_node_109 sg_at0 rfl ?_
    refine V_get (v := .ref (a 4)) ok 1 2 tw_X0 twf_X2_97 rfl rfl (by decide) dX2_node_112 sg_at1 rfl ?_
    refine V_iload_n ok dX2_node_115 rfl 1 rfl ?_
    refine V_dald (f := now.2.2.1) (N := 11) ok 4 i dX2_node_116 sg_at4 rfl (by omega) (by decide) ?_
    refine V_cS (v2 := some (.long (tf (now.2.2.1 i)))) (wn := surgeW g a now spare K nw sts rf pg) (rest := []) ok (c_X2_thousandfold g (now.2.2.1 i) f2) 1 twm_X2_89 tws_yX2_thousandfold twin_X2 twc_yX2_thousandfold yok_X2_thousandfold (by decide) ⟨rfl, rfl⟩ dX2_node_117 rfl rfl (Nat.le_of_ble_eq_true rfl) ⟨Nat.zero_le _, Nat.zero_le _⟩ [] rfl rfl (Nat.le_of_ble_eq_true rfl) (rep_nil _) ?_
    exact V_lret ok dX2_node_120 (Nat.zero_le _) (Nat.zero_le _) ⟨rfl, rfl⟩
  · refine V_aload_n ok dX2_node_0 rfl 0 rfl ?_
    refine V_get (v := .ref (a 1)) ok 0 0 tw_X2 twf_X2_10 rfl rfl (by decide) dX2_node_1 sg_at0 rfl ?_
    refine V_iload_n ok dX2_node_4 rfl 1 rfl ?_
    refine V_cV (v2 := some (.int (bI (nodeB now.1 (nI i))))) (wn := surgeW g a now spare K nw sts rf pg) (rest := []) ok 1 0 (k_X0_hasNode g (fun i => a (1 + i)) now (nI i)) 1 twm_X2_78 twi_yX0_hasNode twv_yX0_hasNode twin_X0 twc_yX0_hasNode yok_X0_hasNode (by decide) ⟨rfl, rfl⟩ dX2_node_5 rfl sg_at1 rfl rfl (Nat.le_of_ble_eq_true rfl) ⟨Nat.zero_le _, Nat.zero_le _⟩ (slN 1) rfl sg_sub_1 (Nat.le_of_ble_eq_true rfl) sg_rep_1 ?_
    refine V_ifB_eq (tgt := 20) ok dX2_node_8 (by decide) (fun h8 => absurd hb h8) (fun h8 => ?_)
    refine V_iload_n ok dX2_node_11 rfl 2 rfl ?_
    refine V_ifN_lt (tgt := 20) ok dX2_node_12 (by decide) (by omega) ?_
    refine V_iload_n ok dX2_node_15 rfl 2 rfl ?_
    refine V_iconst (v := nI 5) ok dX2_node_16 rfl ?_
    refine V_icmpN_le (tgt := 25) ok dX2_node_17 (by decide) (by omega) (by omega) (fun h17 => ?_) (fun h17 => absurd (by decide) h17)
    refine V_iload_n ok dX2_node_25 rfl 2 rfl ?_
    refine V_tabIn (off := 95) (tgt := 121) ok dX2_node_26 (by decide) (by decide) rfl (by decide) ?_
    refine V_aload_n ok dX2_node_121 rfl 0 rfl ?_
    refine V_get (v := .ref (a 1)) ok 0 0 tw_X2 twf_X2_10 rfl rfl (by decide) dX2_node_122 sg_at0 rfl ?_
    refine V_get (v := .ref (a 5)) ok 1 3 tw_X0 twf_X2_100 rfl rfl (by decide) dX2_node_125 sg_at1 rfl ?_
    refine V_iload_n ok dX2_node_128 rfl 1 rfl ?_
    refine V_dald (f := now.2.2.2.1) (N := 11) ok 5 i dX2_node_129 sg_at5 rfl (by omega) (by decide) ?_
    refine V_cS (v2 := some (.long (tf (now.2.2.2.1 i)))) (wn := surgeW g a now spare K nw sts rf pg) (rest := []) ok (c_X2_thousandfold g (now.2.2.2.1 i) f3) 1 twm_X2_89 tws_yX2_thousandfold twin_X2 twc_yX2_thousandfold yok_X2_thousandfold (by decide) ⟨rfl, rfl⟩ dX2_node_130 rfl rfl (Nat.le_of_ble_eq_true rfl) ⟨Nat.zero_le _, Nat.zero_le _⟩ [] rfl rfl (Nat.le_of_ble_eq_true rfl) (rep_nil _) ?_
    exact V_lret ok dX2_node_133 (Nat.zero_le _) (Nat.zero_le _) ⟨rfl, rfl⟩
  · refine V_aload_n ok dX2_node_0 rfl 0 rfl ?_
    refine V_get (v := .ref (a 1)) ok 0 0 tw_X2 twf_X2_10 rfl rfl (by decide) dX2_node_1 sg_at0 rfl ?_
    refine V_iload_n ok dX2_node_4 rfl 1 rfl ?_
    refine V_cV (v2 := some (.int (bI (nodeB now.1 (nI i))))) (wn := surgeW g a now spare K nw sts rf pg) (rest := []) ok 1 0 (k_X0_hasNode g (fun i => a (1 + i)) now (nI i)) 1 twm_X2_78 twi_yX0_hasNode twv_yX0_hasNode twin_X0 twc_yX0_hasNode yok_X0_hasNode (by decide) ⟨rfl, rfl⟩ dX2_node_5 rfl sg_at1 rfl rfl (Nat.le_of_ble_eq_true rfl) ⟨Nat.zero_le _, Nat.zero_le _⟩ (slN 1) rfl sg_sub_1 (Nat.le_of_ble_eq_true rfl) sg_rep_1 ?_
    refine V_ifB_eq (tgt := 20) ok dX2_node_8 (by decide) (fun h8 => absurd hb h8) (fun h8 => ?_)
    refine V_iload_n ok dX2_node_11 rfl 2 rfl ?_
    refine V_ifN_lt (tgt := 20) ok dX2_node_12 (by decide) (by omega) ?_
    refine V_iload_n ok dX2_node_15 rfl 2 rfl ?_
    refine V_iconst (v := nI 5) ok dX2_node_16 rfl ?_
    refine V_icmpN_le (tgt := 25) ok dX2_node_17 (by decide) (by omega) (by omega) (fun h17 => ?_) (fun h17 => absurd (by decide) h17)
    refine V_iload_n ok dX2_node_25 rfl 2 rfl ?_
    refine V_tabOut (tgt := 134) ok dX2_node_26 (by decide) (by decide) ?_
    refine V_aload_n ok dX2_node_134 rfl 0 rfl ?_
    refine V_get (v := .ref (a 1)) ok 0 0 tw_X2 twf_X2_10 rfl rfl (by decide) dX2_node_135 sg_at0 rfl ?_
    refine V_get (v := .ref (a 6)) ok 1 4 tw_X0 twf_X2_103 rfl rfl (by decide) dX2_node_138 sg_at1 rfl ?_
    refine V_iload_n ok dX2_node_141 rfl 1 rfl ?_
    refine V_dald (f := now.2.2.2.2.1) (N := 11) ok 6 i dX2_node_142 sg_at6 rfl (by omega) (by decide) ?_
    refine V_cS (v2 := some (.long (tf (now.2.2.2.2.1 i)))) (wn := surgeW g a now spare K nw sts rf pg) (rest := []) ok (c_X2_thousandfold g (now.2.2.2.2.1 i) f4) 1 twm_X2_89 tws_yX2_thousandfold twin_X2 twc_yX2_thousandfold yok_X2_thousandfold (by decide) ⟨rfl, rfl⟩ dX2_node_143 rfl rfl (Nat.le_of_ble_eq_true rfl) ⟨Nat.zero_le _, Nat.zero_le _⟩ [] rfl rfl (Nat.le_of_ble_eq_true rfl) (rep_nil _) ?_
    exact V_lret ok dX2_node_146 (Nat.zero_le _) (Nat.zero_le _) ⟨rfl, rfl⟩
set_option maxHeartbeats 4000000 in
set_option maxRecDepth 100000 in
theorem c_X2_node_bad (g : Glob) (a : Nat → Nat) (now spare : LineSt) (K : Nat → LineSt) (nw sts : Nat) (rf : Nat → Int32) (pg : PageSt) (i q : Int32) (ho : ¬ nodeB now.1 i = true ∨ q < 0 ∨ nI 5 < q) : Con g yX2_node cX2_node 3 (some .long) ({ frames := 2, cells := 0, slots := 0, locals := 41 } : Room) [.ref (a 0), .int i, .int q] (surgeW g a now spare K nw sts rf pg) (Is (some (.long (-9000000000000000))) (surgeW g a now spare K nw sts (rfU rf (-2)) pg)) := by
  refine con_of_V ypl_X2_node (Nat.le_of_ble_eq_true rfl) [(0, .ref (a 0)), (1, .int i), (2, .int q)] rfl (fun Γ ok => ?_)
  refine V_aload_n ok dX2_node_0 rfl 0 rfl ?_
  refine V_get (v := .ref (a 1)) ok 0 0 tw_X2 twf_X2_10 rfl rfl (by decide) dX2_node_1 sg_at0 rfl ?_
  refine V_iload_n ok dX2_node_4 rfl 1 rfl ?_
  refine V_cV (v2 := some (.int (bI (nodeB now.1 i)))) (wn := surgeW g a now spare K nw sts rf pg) (rest := []) ok 1 0 (k_X0_hasNode g (fun i => a (1 + i)) now i) 1 twm_X2_78 twi_yX0_hasNode twv_yX0_hasNode twin_X0 twc_yX0_hasNode yok_X0_hasNode (by decide) ⟨rfl, rfl⟩ dX2_node_5 rfl sg_at1 rfl rfl (Nat.le_of_ble_eq_true rfl) ⟨Nat.zero_le _, Nat.zero_le _⟩ (slN 1) rfl sg_sub_1 (Nat.le_of_ble_eq_true rfl) sg_rep_1 ?_
  refine V_ifB_eq (tgt := 20) ok dX2_node_8 (by decide) (fun h8 => ?_) (fun h8 => ?_)
  · refine V_aload_n ok dX2_node_20 rfl 0 rfl ?_
    refine V_cW (v2 := some (.long (-9000000000000000))) (w2 := surgeW g a now spare K nw sts (rfU rf (-2)) pg) (rest := []) ok 0 2 (c_X2_refuseLong g a now spare K nw sts rf pg) 0 twm_X2_81 twi_yX2_refuseLong twv_yX2_refuseLong twin_X2 twc_yX2_refuseLong yok_X2_refuseLong (by decide) ⟨rfl, rfl⟩ dX2_node_21 rfl sg_at0 rfl rfl (Nat.le_of_ble_eq_true rfl) ⟨Nat.zero_le _, Nat.zero_le _⟩ ?_
    exact V_lret ok dX2_node_24 (Nat.zero_le _) (Nat.zero_le _) ⟨rfl, rfl⟩
  · refine V_iload_n ok dX2_node_11 rfl 2 rfl ?_
    refine V_if_lt (tgt := 20) ok dX2_node_12 (by decide) (fun h12 => ?_) (fun h12 => ?_)
    · refine V_aload_n ok dX2_node_20 rfl 0 rfl ?_
      refine V_cW (v2 := some (.long (-9000000000000000))) (w2 := surgeW g a now spare K nw sts (rfU rf (-2)) pg) (rest := []) ok 0 2 (c_X2_refuseLong g a now spare K nw sts rf pg) 0 twm_X2_81 twi_yX2_refuseLong twv_yX2_refuseLong twin_X2 twc_yX2_refuseLong yok_X2_refuseLong (by decide) ⟨rfl, rfl⟩ dX2_node_21 rfl sg_at0 rfl rfl (Nat.le_of_ble_eq_true rfl) ⟨Nat.zero_le _, Nat.zero_le _⟩ ?_
      exact V_lret ok dX2_node_24 (Nat.zero_le _) (Nat.zero_le _) ⟨rfl, rfl⟩
    · refine V_iload_n ok dX2_node_15 rfl 2 rfl ?_
      refine V_iconst (v := nI 5) ok dX2_node_16 rfl ?_
      refine V_icmp_le (tgt := 25) ok dX2_node_17 (by decide) (fun h17 => absurd h17 (Int32.not_le.mpr ((ho.resolve_left (fun z => z h8)).resolve_left h12))) (fun h17 => ?_)
      refine V_aload_n ok dX2_node_20 rfl 0 rfl ?_
      refine V_cW (v2 := some (.long (-9000000000000000))) (w2 := surgeW g a now spare K nw sts (rfU rf (-2)) pg) (rest := []) ok 0 2 (c_X2_refuseLong g a now spare K nw sts rf pg) 0 twm_X2_81 twi_yX2_refuseLong twv_yX2_refuseLong twin_X2 twc_yX2_refuseLong yok_X2_refuseLong (by decide) ⟨rfl, rfl⟩ dX2_node_21 rfl sg_at0 rfl rfl (Nat.le_of_ble_eq_true rfl) ⟨Nat.zero_le _, Nat.zero_le _⟩ ?_
      exact V_lret ok dX2_node_24 (Nat.zero_le _) (Nat.zero_le _) ⟨rfl, rfl⟩
set_option maxHeartbeats 4000000 in
set_option maxRecDepth 100000 in
theorem c_X2_all_ok (g : Glob) (a : Nat → Nat) (now spare : LineSt) (K : Nat → LineSt) (nw sts : Nat) (rf : Nat → Int32) (pg : PageSt) (w : Nat) (hx : LG now) (hw : w ≤ 3) : Con g yX2_all cX2_all 2 (some .long) ({ frames := 2, cells := 0, slots := 0, locals := 41 } : Room) [.ref (a 0), .int (nI w)] (surgeW g a now spare K nw sts rf pg) (Is (some (.long (tf (allV now w)))) (surgeW g a now spare K nw sts rf pg)) := by
  refine con_of_V ypl_X2_all (Nat.le_of_ble_eq_true rfl) [(0, .ref (a 0)), (1, .int (nI w))] rfl (fun Γ ok => ?_)
  rcases (show w = 0 ∨ w = 1 ∨ w = 2 ∨ w = 3 by omega) with rfl | rfl | rfl | rfl
  · refine V_iload_n ok dX2_all_0 rfl 1 rfl ?_
    refine V_tabIn (off := 31) (tgt := 32) ok dX2_all_1 (by decide) (by decide) rfl (by decide) ?_
    refine V_aload_n ok dX2_all_32 rfl 0 rfl ?_
    refine V_get (v := .ref (a 1)) ok 0 0 tw_X2 twf_X2_10 rfl rfl (by decide) dX2_all_33 sg_at0 rfl ?_
    refine V_cV (v2 := some (.double (kept0 now.2.1 now.2.2.1 (nv now.1 0 + 1)))) (wn := surgeW g a now spare K nw sts rf pg) (rest := []) ok 1 0 (k_X0_sumOfSquares g (fun i => a (1 + i)) now hx.1 (fun i hi => ⟨(kept_ok hx i hi).1, (kept_ok hx i hi).2.1, (kept_ok hx i hi).2.2.1, (kept_ok hx i hi).2.2.2.1⟩)) 0 twm_X2_106 twi_yX0_sumOfSquares twv_yX0_sumOfSquares twin_X0 twc_yX0_sumOfSquares yok_X0_sumOfSquares (by decide) ⟨rfl, rfl⟩ dX2_all_36 rfl sg_at1 rfl rfl (Nat.le_of_ble_eq_true rfl) ⟨Nat.zero_le _, Nat.zero_le _⟩ (slN 1) rfl sg_sub_1 (Nat.le_of_ble_eq_true rfl) sg_rep_1 ?_
    refine V_cS (v2 := some (.long (tf (kept0 now.2.1 now.2.2.1 (nv now.1 0 + 1))))) (wn := surgeW g a now spare K nw sts rf pg) (rest := []) ok (c_X2_thousandfold g (kept0 now.2.1 now.2.2.1 (nv now.1 0 + 1)) ((kept_ok hx _ (Nat.le_refl _)).2.2.2.2).fin) 1 twm_X2_89 tws_yX2_thousandfold twin_X2 twc_yX2_thousandfold yok_X2_thousandfold (by decide) ⟨rfl, rfl⟩ dX2_all_39 rfl rfl (Nat.le_of_ble_eq_true rfl) ⟨Nat.zero_le _, Nat.zero_le _⟩ [] rfl rfl (Nat.le_of_ble_eq_true rfl) (rep_nil _) ?_
    exact V_lret ok dX2_all_42 (Nat.zero_le _) (Nat.zero_le _) ⟨rfl, rfl⟩
  · refine V_iload_n ok dX2_all_0 rfl 1 rfl ?_
    refine V_tabIn (off := 42) (tgt := 43) ok dX2_all_1 (by decide) (by decide) rfl (by decide) ?_
    refine V_aload_n ok dX2_all_43 rfl 0 rfl ?_
    refine V_get (v := .ref (a 1)) ok 0 0 tw_X2 twf_X2_10 rfl rfl (by decide) dX2_all_44 sg_at0 rfl ?_
    refine V_get (v := .double now.2.2.2.2.2.1) ok 1 5 tw_X0 twf_X2_110 rfl rfl (by decide) dX2_all_47 sg_at1 rfl ?_
    refine V_cS (v2 := some (.long (tf now.2.2.2.2.2.1))) (wn := surgeW g a now spare K nw sts rf pg) (rest := []) ok (c_X2_thousandfold g now.2.2.2.2.2.1 hx.hiF) 1 twm_X2_89 tws_yX2_thousandfold twin_X2 twc_yX2_thousandfold yok_X2_thousandfold (by decide) ⟨rfl, rfl⟩ dX2_all_50 rfl rfl (Nat.le_of_ble_eq_true rfl) ⟨Nat.zero_le _, Nat.zero_le _⟩ [] rfl rfl (Nat.le_of_ble_eq_true rfl) (rep_nil _) ?_
    exact V_lret ok dX2_all_53 (Nat.zero_le _) (Nat.zero_le _) ⟨rfl, rfl⟩
  · refine V_iload_n ok dX2_all_0 rfl 1 rfl ?_
    refine V_tabIn (off := 53) (tgt := 54) ok dX2_all_1 (by decide) (by decide) rfl (by decide) ?_
    refine V_aload_n ok dX2_all_54 rfl 0 rfl ?_
    refine V_get (v := .ref (a 1)) ok 0 0 tw_X2 twf_X2_10 rfl rfl (by decide) dX2_all_55 sg_at0 rfl ?_
    refine V_get (v := .double now.2.2.2.2.2.2.1) ok 1 6 tw_X0 twf_X2_114 rfl rfl (by decide) dX2_all_58 sg_at1 rfl ?_
    refine V_cS (v2 := some (.long (tf now.2.2.2.2.2.2.1))) (wn := surgeW g a now spare K nw sts rf pg) (rest := []) ok (c_X2_thousandfold g now.2.2.2.2.2.2.1 hx.loF) 1 twm_X2_89 tws_yX2_thousandfold twin_X2 twc_yX2_thousandfold yok_X2_thousandfold (by decide) ⟨rfl, rfl⟩ dX2_all_61 rfl rfl (Nat.le_of_ble_eq_true rfl) ⟨Nat.zero_le _, Nat.zero_le _⟩ [] rfl rfl (Nat.le_of_ble_eq_true rfl) (rep_nil _) ?_
    exact V_lret ok dX2_all_64 (Nat.zero_le _) (Nat.zero_le _) ⟨rfl, rfl⟩
  · refine V_iload_n ok dX2_all_0 rfl 1 rfl ?_
    refine V_tabIn (off := 64) (tgt := 65) ok dX2_all_1 (by decide) (by decide) rfl (by decide) ?_
    refine V_aload_n ok dX2_all_65 rfl 0 rfl ?_
    refine V_get (v := .ref (a 1)) ok 0 0 tw_X2 twf_X2_10 rfl rfl (by decide) dX2_all_66 sg_at0 rfl ?_
    refine V_get (v := .double now.2.2.2.2.2.2.2) ok 1 7 tw_X0 twf_X2_117 rfl rfl (by decide) dX2_all_69 sg_at1 rfl ?_
    refine V_cS (v2 := some (.long (tf now.2.2.2.2.2.2.2))) (wn := surgeW g a now spare K nw sts rf pg) (rest := []) ok (c_X2_thousandfold g now.2.2.2.2.2.2.2 hx.2.2.2.1.1.fin) 1 twm_X2_89 tws_yX2_thousandfold twin_X2 twc_yX2_thousandfold yok_X2_thousandfold (by decide) ⟨rfl, rfl⟩ dX2_all_72 rfl rfl (Nat.le_of_ble_eq_true rfl) ⟨Nat.zero_le _, Nat.zero_le _⟩ [] rfl rfl (Nat.le_of_ble_eq_true rfl) (rep_nil _) ?_
    exact V_lret ok dX2_all_75 (Nat.zero_le _) (Nat.zero_le _) ⟨rfl, rfl⟩
set_option maxHeartbeats 4000000 in
set_option maxRecDepth 100000 in
theorem c_X2_all_bad (g : Glob) (a : Nat → Nat) (now spare : LineSt) (K : Nat → LineSt) (nw sts : Nat) (rf : Nat → Int32) (pg : PageSt) (q : Int32) (ho : q.toInt < 0 ∨ 3 < q.toInt) : Con g yX2_all cX2_all 2 (some .long) ({ frames := 2, cells := 0, slots := 0, locals := 41 } : Room) [.ref (a 0), .int q] (surgeW g a now spare K nw sts rf pg) (Is (some (.long (-9000000000000000))) (surgeW g a now spare K nw sts (rfU rf (-2)) pg)) := by
  refine con_of_V ypl_X2_all (Nat.le_of_ble_eq_true rfl) [(0, .ref (a 0)), (1, .int q)] rfl (fun Γ ok => ?_)
  refine V_iload_n ok dX2_all_0 rfl 1 rfl ?_
  refine V_tabOut (tgt := 76) ok dX2_all_1 (ho) (by decide) ?_
  refine V_aload_n ok dX2_all_76 rfl 0 rfl ?_
  refine V_cW (v2 := some (.long (-9000000000000000))) (w2 := surgeW g a now spare K nw sts (rfU rf (-2)) pg) (rest := []) ok 0 2 (c_X2_refuseLong g a now spare K nw sts rf pg) 0 twm_X2_81 twi_yX2_refuseLong twv_yX2_refuseLong twin_X2 twc_yX2_refuseLong yok_X2_refuseLong (by decide) ⟨rfl, rfl⟩ dX2_all_77 rfl sg_at0 rfl rfl (Nat.le_of_ble_eq_true rfl) ⟨Nat.zero_le _, Nat.zero_le _⟩ ?_
  exact V_lret ok dX2_all_80 (Nat.zero_le _) (Nat.zero_le _) ⟨rfl, rfl⟩
set_option maxHeartbeats 4000000 in
set_option maxRecDepth 100000 in
theorem c_X2_lets_ok (g : Glob) (a : Nat → Nat) (now spare : LineSt) (K : Nat → LineSt) (nw sts : Nat) (rf : Nat → Int32) (pg : PageSt) (k T t : Nat) (hl : isLawB (nI k) (nI T) = true) (hk : k ≤ 5) (hT1 : 1 ≤ T) (hT2 : T ≤ 60) (ht : t ≤ 9999) (hx : LG now) : Con g yX2_lets cX2_lets 4 (some .long) ({ frames := 2, cells := 0, slots := 0, locals := 42 } : Room) [.ref (a 0), .int (nI k), .int (nI T), .int (nI t)] (surgeW g a now spare K nw sts rf pg) (Is (some (.long (tf (letF k T t (now.1 2))))) (surgeW g a now spare K nw sts rf pg)) := by
  refine con_of_V ypl_X2_lets (Nat.le_of_ble_eq_true rfl) [(0, .ref (a 0)), (1, .int (nI k)), (2, .int (nI T)), (3, .int (nI t))] rfl (fun Γ ok => ?_)
  refine V_iload_n ok dX2_lets_0 rfl 1 rfl ?_
  refine V_iload_n ok dX2_lets_1 rfl 2 rfl ?_
  refine V_cS (v2 := some (.int (bI (isLawB (nI k) (nI T))))) (wn := surgeW g a now spare K nw sts rf pg) (rest := []) ok (c_X0_isLaw g (nI k) (nI T)) 2 twm_X2_49 tws_yX0_isLaw twin_X0 twc_yX0_isLaw yok_X0_isLaw (by decide) ⟨rfl, rfl⟩ dX2_lets_2 rfl rfl (Nat.le_of_ble_eq_true rfl) ⟨Nat.zero_le _, Nat.zero_le _⟩ [] rfl rfl (Nat.le_of_ble_eq_true rfl) (rep_nil _) ?_
  refine V_ifB_eq (tgt := 19) ok dX2_lets_5 (by decide) (fun h5 => absurd hl h5) (fun h5 => ?_)
  refine V_iload_n ok dX2_lets_8 rfl 3 rfl ?_
  refine V_ifN_lt (tgt := 19) ok dX2_lets_9 (by decide) (by omega) ?_
  refine V_iload_n ok dX2_lets_12 rfl 3 rfl ?_
  refine V_sipush (v := nI 9999) ok dX2_lets_13 rfl ?_
  refine V_icmpN_le (tgt := 24) ok dX2_lets_16 (by decide) (by omega) (by omega) (fun h16 => ?_) (fun h16 => absurd (by omega) h16)
  refine V_iload_n ok dX2_lets_24 rfl 1 rfl ?_
  refine V_aload_n ok dX2_lets_25 rfl 0 rfl ?_
  refine V_get (v := .ref (a 1)) ok 0 0 tw_X2 twf_X2_10 rfl rfl (by decide) dX2_lets_26 sg_at0 rfl ?_
  refine V_get (v := .ref (a 2)) ok 1 0 tw_X0 twf_X2_57 rfl rfl (by decide) dX2_lets_29 sg_at1 rfl ?_
  refine V_iconst (v := nI 2) ok dX2_lets_32 rfl ?_
  refine V_iald (f := now.1) (N := 9) ok 2 2 dX2_lets_33 sg_at2 rfl (by decide) (by decide) ?_
  refine V_iload_n ok dX2_lets_34 rfl 2 rfl ?_
  refine V_iload_n ok dX2_lets_35 rfl 3 rfl ?_
  refine V_cS (v2 := some (.double (letF k T t (now.1 2)))) (wn := surgeW g a now spare K nw sts rf pg) (rest := []) ok (c_X0_letBy g k (now.1 2) T t hk hx.1.bq hT1 hT2 ht) 4 twm_X2_123 tws_yX0_letBy twin_X0 twc_yX0_letBy yok_X0_letBy (by decide) ⟨rfl, rfl⟩ dX2_lets_36 rfl rfl (Nat.le_of_ble_eq_true rfl) ⟨Nat.zero_le _, Nat.zero_le _⟩ [] rfl rfl (Nat.le_of_ble_eq_true rfl) (rep_nil _) ?_
  refine V_cS (v2 := some (.long (tf (letF k T t (now.1 2))))) (wn := surgeW g a now spare K nw sts rf pg) (rest := []) ok (c_X2_thousandfold g (letF k T t (now.1 2)) (letF_bd hx.1.bq hT2).fin) 1 twm_X2_89 tws_yX2_thousandfold twin_X2 twc_yX2_thousandfold yok_X2_thousandfold (by decide) ⟨rfl, rfl⟩ dX2_lets_39 rfl rfl (Nat.le_of_ble_eq_true rfl) ⟨Nat.zero_le _, Nat.zero_le _⟩ [] rfl rfl (Nat.le_of_ble_eq_true rfl) (rep_nil _) ?_
  exact V_lret ok dX2_lets_42 (Nat.zero_le _) (Nat.zero_le _) ⟨rfl, rfl⟩
set_option maxHeartbeats 4000000 in
set_option maxRecDepth 100000 in
theorem c_X2_lets_bad (g : Glob) (a : Nat → Nat) (now spare : LineSt) (K : Nat → LineSt) (nw sts : Nat) (rf : Nat → Int32) (pg : PageSt) (k T t : Int32) (ho : ¬ isLawB k T = true ∨ t < 0 ∨ nI 9999 < t) : Con g yX2_lets cX2_lets 4 (some .long) ({ frames := 2, cells := 0, slots := 0, locals := 42 } : Room) [.ref (a 0), .int k, .int T, .int t] (surgeW g a now spare K nw sts rf pg) (Is (some (.long (-9000000000000000))) (surgeW g a now spare K nw sts (rfU rf (-2)) pg)) := by
  refine con_of_V ypl_X2_lets (Nat.le_of_ble_eq_true rfl) [(0, .ref (a 0)), (1, .int k), (2, .int T), (3, .int t)] rfl (fun Γ ok => ?_)
  refine V_iload_n ok dX2_lets_0 rfl 1 rfl ?_
  refine V_iload_n ok dX2_lets_1 rfl 2 rfl ?_
  refine V_cS (v2 := some (.int (bI (isLawB k T)))) (wn := surgeW g a now spare K nw sts rf pg) (rest := []) ok (c_X0_isLaw g k T) 2 twm_X2_49 tws_yX0_isLaw twin_X0 twc_yX0_isLaw yok_X0_isLaw (by decide) ⟨rfl, rfl⟩ dX2_lets_2 rfl rfl (Nat.le_of_ble_eq_true rfl) ⟨Nat.zero_le _, Nat.zero_le _⟩ [] rfl rfl (Nat.le_of_ble_eq_true rfl) (rep_nil _) ?_
  refine V_ifB_eq (tgt := 19) ok dX2_lets_5 (by decide) (fun h5 => ?_) (fun h5 => ?_)
  · refine V_aload_n ok dX2_lets_19 rfl 0 rfl ?_
    refine V_cW (v2 := some (.long (-9000000000000000))) (w2 := surgeW g a now spare K nw sts (rfU rf (-2)) pg) (rest := []) ok 0 2 (c_X2_refuseLong g a now spare K nw sts rf pg) 0 twm_X2_81 twi_yX2_refuseLong twv_yX2_refuseLong twin_X2 twc_yX2_refuseLong yok_X2_refuseLong (by decide) ⟨rfl, rfl⟩ dX2_lets_20 rfl sg_at0 rfl rfl (Nat.le_of_ble_eq_true rfl) ⟨Nat.zero_le _, Nat.zero_le _⟩ ?_
    exact V_lret ok dX2_lets_23 (Nat.zero_le _) (Nat.zero_le _) ⟨rfl, rfl⟩
  · refine V_iload_n ok dX2_lets_8 rfl 3 rfl ?_
    refine V_if_lt (tgt := 19) ok dX2_lets_9 (by decide) (fun h9 => ?_) (fun h9 => ?_)
    · refine V_aload_n ok dX2_lets_19 rfl 0 rfl ?_
      refine V_cW (v2 := some (.long (-9000000000000000))) (w2 := surgeW g a now spare K nw sts (rfU rf (-2)) pg) (rest := []) ok 0 2 (c_X2_refuseLong g a now spare K nw sts rf pg) 0 twm_X2_81 twi_yX2_refuseLong twv_yX2_refuseLong twin_X2 twc_yX2_refuseLong yok_X2_refuseLong (by decide) ⟨rfl, rfl⟩ dX2_lets_20 rfl sg_at0 rfl rfl (Nat.le_of_ble_eq_true rfl) ⟨Nat.zero_le _, Nat.zero_le _⟩ ?_
      exact V_lret ok dX2_lets_23 (Nat.zero_le _) (Nat.zero_le _) ⟨rfl, rfl⟩
    · refine V_iload_n ok dX2_lets_12 rfl 3 rfl ?_
      refine V_sipush (v := nI 9999) ok dX2_lets_13 rfl ?_
      refine V_icmp_le (tgt := 24) ok dX2_lets_16 (by decide) (fun h16 => absurd h16 (Int32.not_le.mpr ((ho.resolve_left (fun z => z h5)).resolve_left h9))) (fun h16 => ?_)
      refine V_aload_n ok dX2_lets_19 rfl 0 rfl ?_
      refine V_cW (v2 := some (.long (-9000000000000000))) (w2 := surgeW g a now spare K nw sts (rfU rf (-2)) pg) (rest := []) ok 0 2 (c_X2_refuseLong g a now spare K nw sts rf pg) 0 twm_X2_81 twi_yX2_refuseLong twv_yX2_refuseLong twin_X2 twc_yX2_refuseLong yok_X2_refuseLong (by decide) ⟨rfl, rfl⟩ dX2_lets_20 rfl sg_at0 rfl rfl (Nat.le_of_ble_eq_true rfl) ⟨Nat.zero_le _, Nat.zero_le _⟩ ?_
      exact V_lret ok dX2_lets_23 (Nat.zero_le _) (Nat.zero_le _) ⟨rfl, rfl⟩
set_option maxHeartbeats 4000000 in
set_option maxRecDepth 100000 in
theorem c_X2_trial_ok (g : Glob) (a : Nat → Nat) (now spare : LineSt) (K : Nat → LineSt) (nw sts : Nat) (rf : Nat → Int32) (pg : PageSt) (k t : Int32) (m : Nat) (hl : isLawB k t = true) (hm : m ≤ 100) (hx : LG now) : Con g yX2_trial cX2_trial 4 (some .long) ({ frames := 3, cells := 0, slots := 0, locals := 75 } : Room) [.ref (a 0), .int k, .int t, .int (nI m)] (surgeW g a now spare K nw sts rf pg) (Is (some (.long (tf (advL m (settleL (tryV now.1 k t, spare.2))).2.2.2.2.2.1))) (surgeW g a now (advL m (settleL (tryV now.1 k t, spare.2))) K nw sts rf pg)) := by
  refine con_of_V ypl_X2_trial (Nat.le_of_ble_eq_true rfl) [(0, .ref (a 0)), (1, .int k), (2, .int t), (3, .int (nI m))] rfl (fun Γ ok => ?_)
  have htr : trialB (nI m) = true := by unfold trialB; rw [if_neg (nI_pos (by omega)), if_neg (nI_nlt hm (by decide))]
  have hvt := hx.1.try (isLaw_ok hl).1 (isLaw_ok hl).2
  have hy : LG (settleL (tryV now.1 k t, spare.2)) := LG.settle hvt
  have h8 : nv (settleL (tryV now.1 k t, spare.2)).1 8 = 0 := hvt.steady.2.1
  refine V_iload_n ok dX2_trial_0 rfl 1 rfl ?_
  refine V_iload_n ok dX2_trial_1 rfl 2 rfl ?_
  refine V_cS (v2 := some (.int (bI (isLawB k t)))) (wn := surgeW g a now spare K nw sts rf pg) (rest := []) ok (c_X0_isLaw g k t) 2 twm_X2_49 tws_yX0_isLaw twin_X0 twc_yX0_isLaw yok_X0_isLaw (by decide) ⟨rfl, rfl⟩ dX2_trial_2 rfl rfl (Nat.le_of_ble_eq_true rfl) ⟨Nat.zero_le _, Nat.zero_le _⟩ [] rfl rfl (Nat.le_of_ble_eq_true rfl) (rep_nil _) ?_
  refine V_ifB_eq (tgt := 15) ok dX2_trial_5 (by decide) (fun h5 => absurd hl h5) (fun h5 => ?_)
  refine V_iload_n ok dX2_trial_8 rfl 3 rfl ?_
  refine V_cS (v2 := some (.int (bI (trialB (nI m))))) (wn := surgeW g a now spare K nw sts rf pg) (rest := []) ok (c_X2_isTrialLength g (nI m)) 1 twm_X2_127 tws_yX2_isTrialLength twin_X2 twc_yX2_isTrialLength yok_X2_isTrialLength (by decide) ⟨rfl, rfl⟩ dX2_trial_9 rfl rfl (Nat.le_of_ble_eq_true rfl) ⟨Nat.zero_le _, Nat.zero_le _⟩ [] rfl rfl (Nat.le_of_ble_eq_true rfl) (rep_nil _) ?_
  refine V_ifB_ne (tgt := 20) ok dX2_trial_12 (by decide) (fun h12 => ?_) (fun h12 => absurd htr h12)
  refine V_aload_n ok dX2_trial_20 rfl 0 rfl ?_
  refine V_get (v := .ref (a 7)) ok 0 1 tw_X2 twf_X2_16 rfl rfl (by decide) dX2_trial_21 sg_at0 rfl ?_
  refine V_aload_n ok dX2_trial_24 rfl 0 rfl ?_
  refine V_get (v := .ref (a 1)) ok 0 0 tw_X2 twf_X2_10 rfl rfl (by decide) dX2_trial_25 sg_at0 rfl ?_
  refine V_iload_n ok dX2_trial_28 rfl 1 rfl ?_
  refine V_iload_n ok dX2_trial_29 rfl 2 rfl ?_
  refine V_cV (v2 := none) (wn := surgeW g a now (settleL (tryV now.1 k t, spare.2)) K nw sts rf pg) (rest := []) ok 7 0 (c_X0_tryOut g (fun i => a (7 + i)) (fun i => a (1 + i)) spare now k t hvt) 3 twm_X2_130 twi_yX0_tryOut twv_yX0_tryOut twin_X0 twc_yX0_tryOut yok_X0_tryOut (by decide) ⟨rfl, rfl⟩ dX2_trial_30 rfl sg_at7 rfl rfl (Nat.le_of_ble_eq_true rfl) ⟨Nat.zero_le _, Nat.zero_le _⟩ (slN 7 ++ slN 1) rfl (sub_app sg_sub_7 sg_sub_1) (Nat.le_of_ble_eq_true rfl) (rep_app rfl rfl sg_rep_7 sg_rep_1) ?_
  refine V_aload_n ok dX2_trial_33 rfl 0 rfl ?_
  refine V_get (v := .ref (a 7)) ok 0 1 tw_X2 twf_X2_16 rfl rfl (by decide) dX2_trial_34 sg_at0 rfl ?_
  refine V_iload_n ok dX2_trial_37 rfl 3 rfl ?_
  refine V_cV (v2 := none) (wn := surgeW g a now (advL m (settleL (tryV now.1 k t, spare.2))) K nw sts rf pg) (rest := []) ok 7 0 (c_X0_advance g (fun i => a (7 + i)) (settleL (tryV now.1 k t, spare.2)) m hy (by omega)) 1 twm_X2_74 twi_yX0_advance twv_yX0_advance twin_X0 twc_yX0_advance yok_X0_advance (by decide) ⟨rfl, rfl⟩ dX2_trial_38 rfl sg_at7 rfl rfl (Nat.le_of_ble_eq_true rfl) ⟨Nat.zero_le _, Nat.zero_le _⟩ (slN 7) rfl sg_sub_7 (Nat.le_of_ble_eq_true rfl) sg_rep_7 ?_
  refine V_aload_n ok dX2_trial_41 rfl 0 rfl ?_
  refine V_get (v := .ref (a 7)) ok 0 1 tw_X2 twf_X2_16 rfl rfl (by decide) dX2_trial_42 sg_at0 rfl ?_
  refine V_get (v := .double ((advL m (settleL (tryV now.1 k t, spare.2))).2.2.2.2.2.1)) ok 7 5 tw_X0 twf_X2_110 rfl rfl (by decide) dX2_trial_45 sg_at7 rfl ?_
  refine V_cS (v2 := some (.long (tf ((advL m (settleL (tryV now.1 k t, spare.2))).2.2.2.2.2.1)))) (wn := surgeW g a now (advL m (settleL (tryV now.1 k t, spare.2))) K nw sts rf pg) (rest := []) ok (c_X2_thousandfold g ((advL m (settleL (tryV now.1 k t, spare.2))).2.2.2.2.2.1) (LG.adv hy m (by omega)).1.hiF) 1 twm_X2_89 tws_yX2_thousandfold twin_X2 twc_yX2_thousandfold yok_X2_thousandfold (by decide) ⟨rfl, rfl⟩ dX2_trial_48 rfl rfl (Nat.le_of_ble_eq_true rfl) ⟨Nat.zero_le _, Nat.zero_le _⟩ [] rfl rfl (Nat.le_of_ble_eq_true rfl) (rep_nil _) ?_
  exact V_lret ok dX2_trial_51 (Nat.zero_le _) (Nat.zero_le _) ⟨rfl, rfl⟩
set_option maxHeartbeats 4000000 in
set_option maxRecDepth 100000 in
theorem c_X2_trial_bad (g : Glob) (a : Nat → Nat) (now spare : LineSt) (K : Nat → LineSt) (nw sts : Nat) (rf : Nat → Int32) (pg : PageSt) (k t m : Int32) (ho : ¬ isLawB k t = true ∨ ¬ trialB m = true) : Con g yX2_trial cX2_trial 4 (some .long) ({ frames := 3, cells := 0, slots := 0, locals := 75 } : Room) [.ref (a 0), .int k, .int t, .int m] (surgeW g a now spare K nw sts rf pg) (Is (some (.long (-9000000000000000))) (surgeW g a now spare K nw sts (rfU rf (-2)) pg)) := by
  refine con_of_V ypl_X2_trial (Nat.le_of_ble_eq_true rfl) [(0, .ref (a 0)), (1, .int k), (2, .int t), (3, .int m)] rfl (fun Γ ok => ?_)
  refine V_iload_n ok dX2_trial_0 rfl 1 rfl ?_
  refine V_iload_n ok dX2_trial_1 rfl 2 rfl ?_
  refine V_cS (v2 := some (.int (bI (isLawB k t)))) (wn := surgeW g a now spare K nw sts rf pg) (rest := []) ok (c_X0_isLaw g k t) 2 twm_X2_49 tws_yX0_isLaw twin_X0 twc_yX0_isLaw yok_X0_isLaw (by decide) ⟨rfl, rfl⟩ dX2_trial_2 rfl rfl (Nat.le_of_ble_eq_true rfl) ⟨Nat.zero_le _, Nat.zero_le _⟩ [] rfl rfl (Nat.le_of_ble_eq_true rfl) (rep_nil _) ?_
  refine V_ifB_eq (tgt := 15) ok dX2_trial_5 (by decide) (fun h5 => ?_) (fun h5 => ?_)
  · refine V_aload_n ok dX2_trial_15 rfl 0 rfl ?_
    refine V_cW (v2 := some (.long (-9000000000000000))) (w2 := surgeW g a now spare K nw sts (rfU rf (-2)) pg) (rest := []) ok 0 2 (c_X2_refuseLong g a now spare K nw sts rf pg) 0 twm_X2_81 twi_yX2_refuseLong twv_yX2_refuseLong twin_X2 twc_yX2_refuseLong yok_X2_refuseLong (by decide) ⟨rfl, rfl⟩ dX2_trial_16 rfl sg_at0 rfl rfl (Nat.le_of_ble_eq_true rfl) ⟨Nat.zero_le _, Nat.zero_le _⟩ ?_
    exact V_lret ok dX2_trial_19 (Nat.zero_le _) (Nat.zero_le _) ⟨rfl, rfl⟩
  · refine V_iload_n ok dX2_trial_8 rfl 3 rfl ?_
    refine V_cS (v2 := some (.int (bI (trialB m)))) (wn := surgeW g a now spare K nw sts rf pg) (rest := []) ok (c_X2_isTrialLength g m) 1 twm_X2_127 tws_yX2_isTrialLength twin_X2 twc_yX2_isTrialLength yok_X2_isTrialLength (by decide) ⟨rfl, rfl⟩ dX2_trial_9 rfl rfl (Nat.le_of_ble_eq_true rfl) ⟨Nat.zero_le _, Nat.zero_le _⟩ [] rfl rfl (Nat.le_of_ble_eq_true rfl) (rep_nil _) ?_
    refine V_ifB_ne (tgt := 20) ok dX2_trial_12 (by decide) (fun h12 => absurd h12 (ho.resolve_left (fun z => z h5))) (fun h12 => ?_)
    refine V_aload_n ok dX2_trial_15 rfl 0 rfl ?_
    refine V_cW (v2 := some (.long (-9000000000000000))) (w2 := surgeW g a now spare K nw sts (rfU rf (-2)) pg) (rest := []) ok 0 2 (c_X2_refuseLong g a now spare K nw sts rf pg) 0 twm_X2_81 twi_yX2_refuseLong twv_yX2_refuseLong twin_X2 twc_yX2_refuseLong yok_X2_refuseLong (by decide) ⟨rfl, rfl⟩ dX2_trial_16 rfl sg_at0 rfl rfl (Nat.le_of_ble_eq_true rfl) ⟨Nat.zero_le _, Nat.zero_le _⟩ ?_
    exact V_lret ok dX2_trial_19 (Nat.zero_le _) (Nat.zero_le _) ⟨rfl, rfl⟩
set_option maxHeartbeats 4000000 in
set_option maxRecDepth 100000 in
theorem c_X2_type_bad (g : Glob) (a : Nat → Nat) (now spare : LineSt) (K : Nat → LineSt) (nw sts : Nat) (rf : Nat → Int32) (pg : PageSt) (c : Int32) (ho : c < 0 ∨ nI 127 < c) : Con g yX2_type cX2_type 2 (some .int) ({ frames := 1, cells := 0, slots := 0, locals := 21 } : Room) [.ref (a 0), .int c] (surgeW g a now spare K nw sts rf pg) (Is (some (.int (-2))) (surgeW g a now spare K nw sts (rfU rf (-2)) pg)) := by
  refine con_of_V ypl_X2_type (Nat.le_of_ble_eq_true rfl) [(0, .ref (a 0)), (1, .int c)] rfl (fun Γ ok => ?_)
  refine V_iload_n ok dX2_type_0 rfl 1 rfl ?_
  refine V_if_lt (tgt := 10) ok dX2_type_1 (by decide) (fun h1 => ?_) (fun h1 => ?_)
  · refine V_aload_n ok dX2_type_10 rfl 0 rfl ?_
    refine V_bipush (v := (-2)) ok dX2_type_11 rfl ?_
    refine V_cW (v2 := some (.int (-2))) (w2 := surgeW g a now spare K nw sts (rfU rf (-2)) pg) (rest := []) ok 0 2 (c_X2_refuse_m2 g a now spare K nw sts rf pg) 1 twm_X2_45 twi_yX2_refuse twv_yX2_refuse twin_X2 twc_yX2_refuse yok_X2_refuse (by decide) ⟨rfl, rfl⟩ dX2_type_13 rfl sg_at0 rfl rfl (Nat.le_of_ble_eq_true rfl) ⟨Nat.zero_le _, Nat.zero_le _⟩ ?_
    exact V_iret ok dX2_type_16 (Nat.zero_le _) (Nat.zero_le _) ⟨rfl, rfl⟩
  · refine V_iload_n ok dX2_type_4 rfl 1 rfl ?_
    refine V_bipush (v := nI 127) ok dX2_type_5 rfl ?_
    refine V_icmp_le (tgt := 17) ok dX2_type_7 (by decide) (fun h7 => absurd h7 (Int32.not_le.mpr (ho.resolve_left h1))) (fun h7 => ?_)
    refine V_aload_n ok dX2_type_10 rfl 0 rfl ?_
    refine V_bipush (v := (-2)) ok dX2_type_11 rfl ?_
    refine V_cW (v2 := some (.int (-2))) (w2 := surgeW g a now spare K nw sts (rfU rf (-2)) pg) (rest := []) ok 0 2 (c_X2_refuse_m2 g a now spare K nw sts rf pg) 1 twm_X2_45 twi_yX2_refuse twv_yX2_refuse twin_X2 twc_yX2_refuse yok_X2_refuse (by decide) ⟨rfl, rfl⟩ dX2_type_13 rfl sg_at0 rfl rfl (Nat.le_of_ble_eq_true rfl) ⟨Nat.zero_le _, Nat.zero_le _⟩ ?_
    exact V_iret ok dX2_type_16 (Nat.zero_le _) (Nat.zero_le _) ⟨rfl, rfl⟩
set_option maxHeartbeats 4000000 in
set_option maxRecDepth 100000 in
theorem c_X2_type_full (g : Glob) (a : Nat → Nat) (now spare : LineSt) (K : Nat → LineSt) (nw sts : Nat) (rf : Nat → Int32) (pg : PageSt) (c : Nat) (hc : c ≤ 127) (hp : pg.2.1 ≤ 100) (hl : ¬ pLen pg < 100) : Con g yX2_type cX2_type 2 (some .int) ({ frames := 1, cells := 0, slots := 0, locals := 21 } : Room) [.ref (a 0), .int (nI c)] (surgeW g a now spare K nw sts rf pg) (Is (some (.int (-4))) (surgeW g a now spare K nw sts (rfU rf (-4)) pg)) := by
  refine con_of_V ypl_X2_type (Nat.le_of_ble_eq_true rfl) [(0, .ref (a 0)), (1, .int (nI c))] rfl (fun Γ ok => ?_)
  refine V_iload_n ok dX2_type_0 rfl 1 rfl ?_
  refine V_ifN_lt (tgt := 10) ok dX2_type_1 (by decide) (by omega) ?_
  refine V_iload_n ok dX2_type_4 rfl 1 rfl ?_
  refine V_bipush (v := nI 127) ok dX2_type_5 rfl ?_
  refine V_icmpN_le (tgt := 17) ok dX2_type_7 (by decide) (by omega) (by omega) (fun h7 => ?_) (fun h7 => absurd (by omega) h7)
  refine V_aload_n ok dX2_type_17 rfl 0 rfl ?_
  refine V_get (v := .ref (a 39)) ok 0 6 tw_X2 twf_X2_37 rfl rfl (by decide) dX2_type_18 sg_at0 rfl ?_
  refine V_iload_n ok dX2_type_21 rfl 1 rfl ?_
  refine V_cV (v2 := some (.int (bI (decide (pLen pg < 100))))) (wn := surgeW g a now spare K nw sts rf (if pLen pg < 100 then appendF pg (nI c) else pg)) (rest := []) ok 39 1 (c_X1_append g (fun i => a (39 + i)) pg (nI c) hp) 1 twm_X2_144 twi_yX1_append twv_yX1_append twin_X1 twc_yX1_append yok_X1_append (by decide) ⟨rfl, rfl⟩ dX2_type_22 rfl sg_at39 rfl rfl (Nat.le_of_ble_eq_true rfl) ⟨Nat.zero_le _, Nat.zero_le _⟩ [39, 40] rfl sg_sub_39 (Nat.le_of_ble_eq_true rfl) sg_rep_39 ?_
  refine V_ifB_ne (tgt := 35) ok dX2_type_25 (by decide) (fun h25 => absurd (of_decide_eq_true h25) hl) (fun h25 => ?_)
  refine V_aload_n ok dX2_type_28 rfl 0 rfl ?_
  refine V_bipush (v := (-4)) ok dX2_type_29 rfl ?_
  refine V_cW (v2 := some (.int (-4))) (w2 := surgeW g a now spare K nw sts (rfU rf (-4)) (if pLen pg < 100 then appendF pg (nI c) else pg)) (rest := []) ok 0 2 (c_X2_refuse_m4 g a now spare K nw sts rf (if pLen pg < 100 then appendF pg (nI c) else pg)) 1 twm_X2_45 twi_yX2_refuse twv_yX2_refuse twin_X2 twc_yX2_refuse yok_X2_refuse (by decide) ⟨rfl, rfl⟩ dX2_type_31 rfl sg_at0 rfl rfl (Nat.le_of_ble_eq_true rfl) ⟨Nat.zero_le _, Nat.zero_le _⟩ ?_
  exact V_iret ok dX2_type_34 (Nat.zero_le _) (Nat.zero_le _) ⟨rfl, by rw [if_neg hl]⟩
set_option maxHeartbeats 4000000 in
set_option maxRecDepth 100000 in
theorem c_X2_type_ok (g : Glob) (a : Nat → Nat) (now spare : LineSt) (K : Nat → LineSt) (nw sts : Nat) (rf : Nat → Int32) (pg : PageSt) (c : Nat) (hc : c ≤ 127) (hp : pg.2.1 ≤ 100) (hl : pLen pg < 100) : Con g yX2_type cX2_type 2 (some .int) ({ frames := 1, cells := 0, slots := 0, locals := 21 } : Room) [.ref (a 0), .int (nI c)] (surgeW g a now spare K nw sts rf pg) (Is (some (.int (nI (pLen pg + 1)))) (surgeW g a now spare K nw sts rf (appendF pg (nI c)))) := by
  refine con_of_V ypl_X2_type (Nat.le_of_ble_eq_true rfl) [(0, .ref (a 0)), (1, .int (nI c))] rfl (fun Γ ok => ?_)
  refine V_iload_n ok dX2_type_0 rfl 1 rfl ?_
  refine V_ifN_lt (tgt := 10) ok dX2_type_1 (by decide) (by omega) ?_
  refine V_iload_n ok dX2_type_4 rfl 1 rfl ?_
  refine V_bipush (v := nI 127) ok dX2_type_5 rfl ?_
  refine V_icmpN_le (tgt := 17) ok dX2_type_7 (by decide) (by omega) (by omega) (fun h7 => ?_) (fun h7 => absurd (by omega) h7)
  refine V_aload_n ok dX2_type_17 rfl 0 rfl ?_
  refine V_get (v := .ref (a 39)) ok 0 6 tw_X2 twf_X2_37 rfl rfl (by decide) dX2_type_18 sg_at0 rfl ?_
  refine V_iload_n ok dX2_type_21 rfl 1 rfl ?_
  refine V_cV (v2 := some (.int (bI (decide (pLen pg < 100))))) (wn := surgeW g a now spare K nw sts rf (if pLen pg < 100 then appendF pg (nI c) else pg)) (rest := []) ok 39 1 (c_X1_append g (fun i => a (39 + i)) pg (nI c) hp) 1 twm_X2_144 twi_yX1_append twv_yX1_append twin_X1 twc_yX1_append yok_X1_append (by decide) ⟨rfl, rfl⟩ dX2_type_22 rfl sg_at39 rfl rfl (Nat.le_of_ble_eq_true rfl) ⟨Nat.zero_le _, Nat.zero_le _⟩ [39, 40] rfl sg_sub_39 (Nat.le_of_ble_eq_true rfl) sg_rep_39 ?_
  refine V_ifB_ne (tgt := 35) ok dX2_type_25 (by decide) (fun h25 => ?_) (fun h25 => absurd (decide_eq_true hl) h25)
  refine V_aload_n ok dX2_type_35 rfl 0 rfl ?_
  refine V_get (v := .ref (a 39)) ok 0 6 tw_X2 twf_X2_37 rfl rfl (by decide) dX2_type_36 sg_at0 rfl ?_
  refine V_get (v := .int (nI (if pLen pg < 100 then appendF pg (nI c) else pg).2.1)) ok 39 1 tw_X1 twf_X2_147 rfl rfl (by decide) dX2_type_39 sg_at39 rfl ?_
  exact V_iret ok dX2_type_42 (Nat.zero_le _) (Nat.zero_le _) ⟨by rw [if_pos hl]; rfl, by rw [if_pos hl]⟩
set_option maxHeartbeats 4000000 in
set_option maxRecDepth 100000 in
theorem c_X2_clear (g : Glob) (a : Nat → Nat) (now spare : LineSt) (K : Nat → LineSt) (nw sts : Nat) (rf : Nat → Int32) (pg : PageSt)  : Con g yX2_clear cX2_clear 2 (some .int) ({ frames := 0, cells := 0, slots := 0, locals := 0 } : Room) [.ref (a 0)] (surgeW g a now spare K nw sts rf pg) (Is (some (.int (nI (pLen pg)))) (surgeW g a now spare K nw sts rf (pg.1, 0, pg.2.2))) := by
  refine con_of_V ypl_X2_clear (Nat.le_of_ble_eq_true rfl) [(0, .ref (a 0))] rfl (fun Γ ok => ?_)
  refine V_aload_n ok dX2_clear_0 rfl 0 rfl ?_
  refine V_get (v := .ref (a 39)) ok 0 6 tw_X2 twf_X2_37 rfl rfl (by decide) dX2_clear_1 sg_at0 rfl ?_
  refine V_get (v := .int (nI pg.2.1)) ok 39 1 tw_X1 twf_X2_147 rfl rfl (by decide) dX2_clear_4 sg_at39 rfl ?_
  refine V_istore_n (lv2 := [(1, .int (nI pg.2.1)), (0, .ref (a 0))]) ok dX2_clear_7 rfl (by decide) rfl ?_
  refine V_aload_n ok dX2_clear_8 rfl 1 rfl ?_
  refine V_get (v := .ref (a 39)) ok 0 6 tw_X2 twf_X2_37 rfl rfl (by decide) dX2_clear_9 sg_at0 rfl ?_
  refine V_iconst (v := nI 0) ok dX2_clear_12 rfl ?_
  refine V_put (w2 := surgeW g a now spare K nw sts rf (pg.1, 0, pg.2.2)) ok 39 1 tw_X1 tyX1 tyX1_ok nmX1 twf_X2_147 rfl rfl (by decide) rfl rfl dX2_clear_13 sg_at39 rfl rfl (Nat.lt_of_lt_of_eq (m := 8) (by decide) rfl) sg_set_len ?_
  refine V_iload_n ok dX2_clear_16 rfl 0 rfl ?_
  exact V_iret ok dX2_clear_17 (Nat.zero_le _) (Nat.zero_le _) ⟨rfl, rfl⟩
set_option maxHeartbeats 4000000 in
set_option maxRecDepth 100000 in
theorem c_X2_back_none (g : Glob) (a : Nat → Nat) (now spare : LineSt) (K : Nat → LineSt) (nw : Nat) (rf : Nat → Int32) (pg : PageSt) : Con g yX2_back cX2_back 1 (some .int) ({ frames := 2, cells := 0, slots := 0, locals := 51 } : Room) [.ref (a 0)] (surgeW g a now spare K nw 0 rf pg) (Is (some (.int (-3))) (surgeW g a now spare K nw 0 (rfU rf (-3)) pg)) := by
  refine con_of_V ypl_X2_back (Nat.le_of_ble_eq_true rfl) [(0, .ref (a 0))] rfl (fun Γ ok => ?_)
  refine V_aload_n ok dX2_back_0 rfl 0 rfl ?_
  refine V_get (v := .int (nI 0)) ok 0 4 tw_X2 twf_X2_27 rfl rfl (by decide) dX2_back_1 sg_at0 rfl ?_
  refine V_ifN_ne (tgt := 14) ok dX2_back_4 (by decide) (by omega) (fun h4 => absurd rfl h4) (fun h4 => ?_)
  refine V_aload_n ok dX2_back_7 rfl 0 rfl ?_
  refine V_bipush (v := (-3)) ok dX2_back_8 rfl ?_
  refine V_cW (v2 := some (.int (-3))) (w2 := surgeW g a now spare K nw 0 (rfU rf (-3)) pg) (rest := []) ok 0 2 (c_X2_refuse_m3 g a now spare K nw 0 rf pg) 1 twm_X2_45 twi_yX2_refuse twv_yX2_refuse twin_X2 twc_yX2_refuse yok_X2_refuse (by decide) ⟨rfl, rfl⟩ dX2_back_10 rfl sg_at0 rfl rfl (Nat.le_of_ble_eq_true rfl) ⟨Nat.zero_le _, Nat.zero_le _⟩ ?_
  exact V_iret ok dX2_back_13 (Nat.zero_le _) (Nat.zero_le _) ⟨rfl, rfl⟩
set_option maxHeartbeats 4000000 in
set_option maxRecDepth 100000 in
theorem c_X2_back_ok (g : Glob) (a : Nat → Nat) (now spare : LineSt) (K : Nat → LineSt) (nw s : Nat) (rf : Nat → Int32) (pg : PageSt) (hnw : nw < 4) (hs : s < 4) : Con g yX2_back cX2_back 1 (some .int) ({ frames := 2, cells := 0, slots := 0, locals := 51 } : Room) [.ref (a 0)] (surgeW g a now spare K nw (s + 1) rf pg) (Is (some (.int (nI s))) (surgeW g a (K nw) spare K ((nw + 3) % 4) s rf pg)) := by
  refine con_of_V ypl_X2_back (Nat.le_of_ble_eq_true rfl) [(0, .ref (a 0))] rfl (fun Γ ok => ?_)
  rcases (show nw = 0 ∨ nw = 1 ∨ nw = 2 ∨ nw = 3 by omega) with rfl | rfl | rfl | rfl
  · refine V_aload_n ok dX2_back_0 rfl 0 rfl ?_
    refine V_get (v := .int (nI (s + 1))) ok 0 4 tw_X2 twf_X2_27 rfl rfl (by decide) dX2_back_1 sg_at0 rfl ?_
    refine V_ifN_ne (tgt := 14) ok dX2_back_4 (by decide) (by omega) (fun h4 => ?_) (fun h4 => absurd h4 (by omega))
    refine V_aload_n ok dX2_back_14 rfl 0 rfl ?_
    refine V_get (v := .ref (a 1)) ok 0 0 tw_X2 twf_X2_10 rfl rfl (by decide) dX2_back_15 sg_at0 rfl ?_
    refine V_aload_n ok dX2_back_18 rfl 0 rfl ?_
    refine V_get (v := .ref (a 13)) ok 0 2 tw_X2 twf_X2_19 rfl rfl (by decide) dX2_back_19 sg_at0 rfl ?_
    refine V_aload_n ok dX2_back_22 rfl 0 rfl ?_
    refine V_get (v := .int (nI 0)) ok 0 3 tw_X2 twf_X2_23 rfl rfl (by decide) dX2_back_23 sg_at0 rfl ?_
    refine V_aald (f := (fun j => some (a (14 + 6 * j)))) (N := 4) (z := a 14) ok 13 0 dX2_back_26 sg_at13 rfl (by decide) (by decide) rfl ?_
    refine V_cV (v2 := none) (wn := surgeW g a (K 0) spare K 0 (s + 1) rf pg) (rest := []) ok 1 0 (c_X0_copyFrom g (fun i => a (1 + i)) (fun i => a (14 + i)) now (K 0)) 1 twm_X2_154 twi_yX0_copyFrom twv_yX0_copyFrom twin_X0 twc_yX0_copyFrom yok_X0_copyFrom (by decide) ⟨rfl, rfl⟩ dX2_back_27 rfl sg_at1 rfl rfl (Nat.le_of_ble_eq_true rfl) ⟨Nat.zero_le _, Nat.zero_le _⟩ (slN 1 ++ slN 14) rfl (sub_app sg_sub_1 sg_sub_14) (Nat.le_of_ble_eq_true rfl) (rep_app rfl rfl sg_rep_1 sg_rep_14_id) ?_
    refine V_aload_n ok dX2_back_30 rfl 0 rfl ?_
    refine V_aload_n ok dX2_back_31 rfl 0 rfl ?_
    refine V_get (v := .int (nI 0)) ok 0 3 tw_X2 twf_X2_23 rfl rfl (by decide) dX2_back_32 sg_at0 rfl ?_
    refine V_iconst (v := nI 4) ok dX2_back_35 rfl ?_
    refine V_iaddN (a := 0) (b := 4) (c := 4) ok dX2_back_36 (by first | rfl | omega) ?_
    refine V_iconst (v := nI 1) ok dX2_back_37 rfl ?_
    refine V_isubN (a := 4) (b := 1) (c := 3) ok dX2_back_38 (by omega) (by omega) ?_
    refine V_iconst (v := nI 4) ok dX2_back_39 rfl ?_
    refine V_irem ok dX2_back_40 (by decide) ?_
    refine V_top_int (b := nI 3) (rfl) ?_
    refine V_put (w2 := surgeW g a (K 0) spare K 3 (s + 1) rf pg) ok 0 3 tw_X2 tyX2 tyX2_ok nmX2 twf_X2_23 rfl rfl (by decide) rfl rfl dX2_back_41 sg_at0 rfl rfl (Nat.lt_of_lt_of_eq (m := 7) (by decide) rfl) sg_set_nw ?_
    refine V_aload_n ok dX2_back_44 rfl 0 rfl ?_
    refine V_dup ok dX2_back_45 rfl ?_
    refine V_get (v := .int (nI (s + 1))) ok 0 4 tw_X2 twf_X2_27 rfl rfl (by decide) dX2_back_46 sg_at0 rfl ?_
    refine V_iconst (v := nI 1) ok dX2_back_49 rfl ?_
    refine V_isubN (a := s + 1) (b := 1) (c := s) ok dX2_back_50 (by omega) (by omega) ?_
    refine V_put (w2 := surgeW g a (K 0) spare K 3 s rf pg) ok 0 4 tw_X2 tyX2 tyX2_ok nmX2 twf_X2_27 rfl rfl (by decide) rfl rfl dX2_back_51 sg_at0 rfl rfl (Nat.lt_of_lt_of_eq (m := 7) (by decide) rfl) sg_set_sts ?_
    refine V_aload_n ok dX2_back_54 rfl 0 rfl ?_
    refine V_get (v := .int (nI s)) ok 0 4 tw_X2 twf_X2_27 rfl rfl (by decide) dX2_back_55 sg_at0 rfl ?_
    exact V_iret ok dX2_back_58 (Nat.zero_le _) (Nat.zero_le _) ⟨rfl, rfl⟩
  · refine V_aload_n ok dX2_back_0 rfl 0 rfl ?_
    refine V_get (v := .int (nI (s + 1))) ok 0 4 tw_X2 twf_X2_27 rfl rfl (by decide) dX2_back_1 sg_at0 rfl ?_
    refine V_ifN_ne (tgt := 14) ok dX2_back_4 (by decide) (by omega) (fun h4 => ?_) (fun h4 => absurd h4 (by omega))
    refine V_aload_n ok dX2_back_14 rfl 0 rfl ?_
    refine V_get (v := .ref (a 1)) ok 0 0 tw_X2 twf_X2_10 rfl rfl (by decide) dX2_back_15 sg_at0 rfl ?_
    refine V_aload_n ok dX2_back_18 rfl 0 rfl ?_
    refine V_get (v := .ref (a 13)) ok 0 2 tw_X2 twf_X2_19 rfl rfl (by decide) dX2_back_19 sg_at0 rfl ?_
    refine V_aload_n ok dX2_back_22 rfl 0 rfl ?_
    refine V_get (v := .int (nI 1)) ok 0 3 tw_X2 twf_X2_23 rfl rfl (by decide) dX2_back_23 sg_at0 rfl ?_
    refine V_aald (f := (fun j => some (a (14 + 6 * j)))) (N := 4) (z := a 20) ok 13 1 dX2_back_26 sg_at13 rfl (by decide) (by decide) rfl ?_
    refine V_cV (v2 := none) (wn := surgeW g a (K 1) spare K 1 (s + 1) rf pg) (rest := []) ok 1 0 (c_X0_copyFrom g (fun i => a (1 + i)) (fun i => a (20 + i)) now (K 1)) 1 twm_X2_154 twi_yX0_copyFrom twv_yX0_copyFrom twin_X0 twc_yX0_copyFrom yok_X0_copyFrom (by decide) ⟨rfl, rfl⟩ dX2_back_27 rfl sg_at1 rfl rfl (Nat.le_of_ble_eq_true rfl) ⟨Nat.zero_le _, Nat.zero_le _⟩ (slN 1 ++ slN 20) rfl (sub_app sg_sub_1 sg_sub_20) (Nat.le_of_ble_eq_true rfl) (rep_app rfl rfl sg_rep_1 sg_rep_20_id) ?_
    refine V_aload_n ok dX2_back_30 rfl 0 rfl ?_
    refine V_aload_n ok dX2_back_31 rfl 0 rfl ?_
    refine V_get (v := .int (nI 1)) ok 0 3 tw_X2 twf_X2_23 rfl rfl (by decide) dX2_back_32 sg_at0 rfl ?_
    refine V_iconst (v := nI 4) ok dX2_back_35 rfl ?_
    refine V_iaddN (a := 1) (b := 4) (c := 5) ok dX2_back_36 (by first | rfl | omega) ?_
    refine V_iconst (v := nI 1) ok dX2_back_37 rfl ?_
    refine V_isubN (a := 5) (b := 1) (c := 4) ok dX2_back_38 (by omega) (by omega) ?_
    refine V_iconst (v := nI 4) ok dX2_back_39 rfl ?_
    refine V_irem ok dX2_back_40 (by decide) ?_
    refine V_top_int (b := nI 0) (rfl) ?_
    refine V_put (w2 := surgeW g a (K 1) spare K 0 (s + 1) rf pg) ok 0 3 tw_X2 tyX2 tyX2_ok nmX2 twf_X2_23 rfl rfl (by decide) rfl rfl dX2_back_41 sg_at0 rfl rfl (Nat.lt_of_lt_of_eq (m := 7) (by decide) rfl) sg_set_nw ?_
    refine V_aload_n ok dX2_back_44 rfl 0 rfl ?_
    refine V_dup ok dX2_back_45 rfl ?_
    refine V_get (v := .int (nI (s + 1))) ok 0 4 tw_X2 twf_X2_27 rfl rfl (by decide) dX2_back_46 sg_at0 rfl ?_
    refine V_iconst (v := nI 1) ok dX2_back_49 rfl ?_
    refine V_isubN (a := s + 1) (b := 1) (c := s) ok dX2_back_50 (by omega) (by omega) ?_
    refine V_put (w2 := surgeW g a (K 1) spare K 0 s rf pg) ok 0 4 tw_X2 tyX2 tyX2_ok nmX2 twf_X2_27 rfl rfl (by decide) rfl rfl dX2_back_51 sg_at0 rfl rfl (Nat.lt_of_lt_of_eq (m := 7) (by decide) rfl) sg_set_sts ?_
    refine V_aload_n ok dX2_back_54 rfl 0 rfl ?_
    refine V_get (v := .int (nI s)) ok 0 4 tw_X2 twf_X2_27 rfl rfl (by decide) dX2_back_55 sg_at0 rfl ?_
    exact V_iret ok dX2_back_58 (Nat.zero_le _) (Nat.zero_le _) ⟨rfl, rfl⟩
  · refine V_aload_n ok dX2_back_0 rfl 0 rfl ?_
    refine V_get (v := .int (nI (s + 1))) ok 0 4 tw_X2 twf_X2_27 rfl rfl (by decide) dX2_back_1 sg_at0 rfl ?_
    refine V_ifN_ne (tgt := 14) ok dX2_back_4 (by decide) (by omega) (fun h4 => ?_) (fun h4 => absurd h4 (by omega))
    refine V_aload_n ok dX2_back_14 rfl 0 rfl ?_
    refine V_get (v := .ref (a 1)) ok 0 0 tw_X2 twf_X2_10 rfl rfl (by decide) dX2_back_15 sg_at0 rfl ?_
    refine V_aload_n ok dX2_back_18 rfl 0 rfl ?_
    refine V_get (v := .ref (a 13)) ok 0 2 tw_X2 twf_X2_19 rfl rfl (by decide) dX2_back_19 sg_at0 rfl ?_
    refine V_aload_n ok dX2_back_22 rfl 0 rfl ?_
    refine V_get (v := .int (nI 2)) ok 0 3 tw_X2 twf_X2_23 rfl rfl (by decide) dX2_back_23 sg_at0 rfl ?_
    refine V_aald (f := (fun j => some (a (14 + 6 * j)))) (N := 4) (z := a 26) ok 13 2 dX2_back_26 sg_at13 rfl (by decide) (by decide) rfl ?_
    refine V_cV (v2 := none) (wn := surgeW g a (K 2) spare K 2 (s + 1) rf pg) (rest := []) ok 1 0 (c_X0_copyFrom g (fun i => a (1 + i)) (fun i => a (26 + i)) now (K 2)) 1 twm_X2_154 twi_yX0_copyFrom twv_yX0_copyFrom twin_X0 twc_yX0_copyFrom yok_X0_copyFrom (by decide) ⟨rfl, rfl⟩ dX2_back_27 rfl sg_at1 rfl rfl (Nat.le_of_ble_eq_true rfl) ⟨Nat.zero_le _, Nat.zero_le _⟩ (slN 1 ++ slN 26) rfl (sub_app sg_sub_1 sg_sub_26) (Nat.le_of_ble_eq_true rfl) (rep_app rfl rfl sg_rep_1 sg_rep_26_id) ?_
    refine V_aload_n ok dX2_back_30 rfl 0 rfl ?_
    refine V_aload_n ok dX2_back_31 rfl 0 rfl ?_
    refine V_get (v := .int (nI 2)) ok 0 3 tw_X2 twf_X2_23 rfl rfl (by decide) dX2_back_32 sg_at0 rfl ?_
    refine V_iconst (v := nI 4) ok dX2_back_35 rfl ?_
    refine V_iaddN (a := 2) (b := 4) (c := 6) ok dX2_back_36 (by first | rfl | omega) ?_
    refine V_iconst (v := nI 1) ok dX2_back_37 rfl ?_
    refine V_isubN (a := 6) (b := 1) (c := 5) ok dX2_back_38 (by omega) (by omega) ?_
    refine V_iconst (v := nI 4) ok dX2_back_39 rfl ?_
    refine V_irem ok dX2_back_40 (by decide) ?_
    refine V_top_int (b := nI 1) (rfl) ?_
    refine V_put (w2 := surgeW g a (K 2) spare K 1 (s + 1) rf pg) ok 0 3 tw_X2 tyX2 tyX2_ok nmX2 twf_X2_23 rfl rfl (by decide) rfl rfl dX2_back_41 sg_at0 rfl rfl (Nat.lt_of_lt_of_eq (m := 7) (by decide) rfl) sg_set_nw ?_
    refine V_aload_n ok dX2_back_44 rfl 0 rfl ?_
    refine V_dup ok dX2_back_45 rfl ?_
    refine V_get (v := .int (nI (s + 1))) ok 0 4 tw_X2 twf_X2_27 rfl rfl (by decide) dX2_back_46 sg_at0 rfl ?_
    refine V_iconst (v := nI 1) ok dX2_back_49 rfl ?_
    refine V_isubN (a := s + 1) (b := 1) (c := s) ok dX2_back_50 (by omega) (by omega) ?_
    refine V_put (w2 := surgeW g a (K 2) spare K 1 s rf pg) ok 0 4 tw_X2 tyX2 tyX2_ok nmX2 twf_X2_27 rfl rfl (by decide) rfl rfl dX2_back_51 sg_at0 rfl rfl (Nat.lt_of_lt_of_eq (m := 7) (by decide) rfl) sg_set_sts ?_
    refine V_aload_n ok dX2_back_54 rfl 0 rfl ?_
    refine V_get (v := .int (nI s)) ok 0 4 tw_X2 twf_X2_27 rfl rfl (by decide) dX2_back_55 sg_at0 rfl ?_
    exact V_iret ok dX2_back_58 (Nat.zero_le _) (Nat.zero_le _) ⟨rfl, rfl⟩
  · refine V_aload_n ok dX2_back_0 rfl 0 rfl ?_
    refine V_get (v := .int (nI (s + 1))) ok 0 4 tw_X2 twf_X2_27 rfl rfl (by decide) dX2_back_1 sg_at0 rfl ?_
    refine V_ifN_ne (tgt := 14) ok dX2_back_4 (by decide) (by omega) (fun h4 => ?_) (fun h4 => absurd h4 (by omega))
    refine V_aload_n ok dX2_back_14 rfl 0 rfl ?_
    refine V_get (v := .ref (a 1)) ok 0 0 tw_X2 twf_X2_10 rfl rfl (by decide) dX2_back_15 sg_at0 rfl ?_
    refine V_aload_n ok dX2_back_18 rfl 0 rfl ?_
    refine V_get (v := .ref (a 13)) ok 0 2 tw_X2 twf_X2_19 rfl rfl (by decide) dX2_back_19 sg_at0 rfl ?_
    refine V_aload_n ok dX2_back_22 rfl 0 rfl ?_
    refine V_get (v := .int (nI 3)) ok 0 3 tw_X2 twf_X2_23 rfl rfl (by decide) dX2_back_23 sg_at0 rfl ?_
    refine V_aald (f := (fun j => some (a (14 + 6 * j)))) (N := 4) (z := a 32) ok 13 3 dX2_back_26 sg_at13 rfl (by decide) (by decide) rfl ?_
    refine V_cV (v2 := none) (wn := surgeW g a (K 3) spare K 3 (s + 1) rf pg) (rest := []) ok 1 0 (c_X0_copyFrom g (fun i => a (1 + i)) (fun i => a (32 + i)) now (K 3)) 1 twm_X2_154 twi_yX0_copyFrom twv_yX0_copyFrom twin_X0 twc_yX0_copyFrom yok_X0_copyFrom (by decide) ⟨rfl, rfl⟩ dX2_back_27 rfl sg_at1 rfl rfl (Nat.le_of_ble_eq_true rfl) ⟨Nat.zero_le _, Nat.zero_le _⟩ (slN 1 ++ slN 32) rfl (sub_app sg_sub_1 sg_sub_32) (Nat.le_of_ble_eq_true rfl) (rep_app rfl rfl sg_rep_1 sg_rep_32_id) ?_
    refine V_aload_n ok dX2_back_30 rfl 0 rfl ?_
    refine V_aload_n ok dX2_back_31 rfl 0 rfl ?_
    refine V_get (v := .int (nI 3)) ok 0 3 tw_X2 twf_X2_23 rfl rfl (by decide) dX2_back_32 sg_at0 rfl ?_
    refine V_iconst (v := nI 4) ok dX2_back_35 rfl ?_
    refine V_iaddN (a := 3) (b := 4) (c := 7) ok dX2_back_36 (by first | rfl | omega) ?_
    refine V_iconst (v := nI 1) ok dX2_back_37 rfl ?_
    refine V_isubN (a := 7) (b := 1) (c := 6) ok dX2_back_38 (by omega) (by omega) ?_
    refine V_iconst (v := nI 4) ok dX2_back_39 rfl ?_
    refine V_irem ok dX2_back_40 (by decide) ?_
    refine V_top_int (b := nI 2) (rfl) ?_
    refine V_put (w2 := surgeW g a (K 3) spare K 2 (s + 1) rf pg) ok 0 3 tw_X2 tyX2 tyX2_ok nmX2 twf_X2_23 rfl rfl (by decide) rfl rfl dX2_back_41 sg_at0 rfl rfl (Nat.lt_of_lt_of_eq (m := 7) (by decide) rfl) sg_set_nw ?_
    refine V_aload_n ok dX2_back_44 rfl 0 rfl ?_
    refine V_dup ok dX2_back_45 rfl ?_
    refine V_get (v := .int (nI (s + 1))) ok 0 4 tw_X2 twf_X2_27 rfl rfl (by decide) dX2_back_46 sg_at0 rfl ?_
    refine V_iconst (v := nI 1) ok dX2_back_49 rfl ?_
    refine V_isubN (a := s + 1) (b := 1) (c := s) ok dX2_back_50 (by omega) (by omega) ?_
    refine V_put (w2 := surgeW g a (K 3) spare K 2 s rf pg) ok 0 4 tw_X2 tyX2 tyX2_ok nmX2 twf_X2_27 rfl rfl (by decide) rfl rfl dX2_back_51 sg_at0 rfl rfl (Nat.lt_of_lt_of_eq (m := 7) (by decide) rfl) sg_set_sts ?_
    refine V_aload_n ok dX2_back_54 rfl 0 rfl ?_
    refine V_get (v := .int (nI s)) ok 0 4 tw_X2 twf_X2_27 rfl rfl (by decide) dX2_back_55 sg_at0 rfl ?_
    exact V_iret ok dX2_back_58 (Nat.zero_le _) (Nat.zero_le _) ⟨rfl, rfl⟩
set_option maxHeartbeats 4000000 in
set_option maxRecDepth 100000 in
theorem c_X2_told_bad (g : Glob) (a : Nat → Nat) (now spare : LineSt) (K : Nat → LineSt) (nw sts : Nat) (rf : Nat → Int32) (pg : PageSt) (q : Int32) (ho : q < 0 ∨ nI 13 < q) : Con g yX2_told cX2_told 2 (some .int) ({ frames := 1, cells := 0, slots := 0, locals := 21 } : Room) [.ref (a 0), .int q] (surgeW g a now spare K nw sts rf pg) (Is (some (.int (-2))) (surgeW g a now spare K nw sts (rfU rf (-2)) pg)) := by
  refine con_of_V ypl_X2_told (Nat.le_of_ble_eq_true rfl) [(0, .ref (a 0)), (1, .int q)] rfl (fun Γ ok => ?_)
  refine V_iload_n ok dX2_told_0 rfl 1 rfl ?_
  refine V_if_lt (tgt := 10) ok dX2_told_1 (by decide) (fun h1 => ?_) (fun h1 => ?_)
  · refine V_aload_n ok dX2_told_10 rfl 0 rfl ?_
    refine V_bipush (v := (-2)) ok dX2_told_11 rfl ?_
    refine V_cW (v2 := some (.int (-2))) (w2 := surgeW g a now spare K nw sts (rfU rf (-2)) pg) (rest := []) ok 0 2 (c_X2_refuse_m2 g a now spare K nw sts rf pg) 1 twm_X2_45 twi_yX2_refuse twv_yX2_refuse twin_X2 twc_yX2_refuse yok_X2_refuse (by decide) ⟨rfl, rfl⟩ dX2_told_13 rfl sg_at0 rfl rfl (Nat.le_of_ble_eq_true rfl) ⟨Nat.zero_le _, Nat.zero_le _⟩ ?_
    exact V_iret ok dX2_told_16 (Nat.zero_le _) (Nat.zero_le _) ⟨rfl, rfl⟩
  · refine V_iload_n ok dX2_told_4 rfl 1 rfl ?_
    refine V_bipush (v := nI 13) ok dX2_told_5 rfl ?_
    refine V_icmp_le (tgt := 17) ok dX2_told_7 (by decide) (fun h7 => absurd h7 (Int32.not_le.mpr (ho.resolve_left h1))) (fun h7 => ?_)
    refine V_aload_n ok dX2_told_10 rfl 0 rfl ?_
    refine V_bipush (v := (-2)) ok dX2_told_11 rfl ?_
    refine V_cW (v2 := some (.int (-2))) (w2 := surgeW g a now spare K nw sts (rfU rf (-2)) pg) (rest := []) ok 0 2 (c_X2_refuse_m2 g a now spare K nw sts rf pg) 1 twm_X2_45 twi_yX2_refuse twv_yX2_refuse twin_X2 twc_yX2_refuse yok_X2_refuse (by decide) ⟨rfl, rfl⟩ dX2_told_13 rfl sg_at0 rfl rfl (Nat.le_of_ble_eq_true rfl) ⟨Nat.zero_le _, Nat.zero_le _⟩ ?_
    exact V_iret ok dX2_told_16 (Nat.zero_le _) (Nat.zero_le _) ⟨rfl, rfl⟩
set_option maxHeartbeats 4000000 in
set_option maxRecDepth 100000 in
theorem c_X2_told_ok (g : Glob) (a : Nat → Nat) (now spare : LineSt) (K : Nat → LineSt) (nw sts : Nat) (rf : Nat → Int32) (pg : PageSt) (w : Nat) (hw : w ≤ 13) : Con g yX2_told cX2_told 2 (some .int) ({ frames := 1, cells := 0, slots := 0, locals := 21 } : Room) [.ref (a 0), .int (nI w)] (surgeW g a now spare K nw sts rf pg) (Is (some (.int (toldV now.1 rf pg.2.1 sts w))) (surgeW g a now spare K nw sts rf pg)) := by
  refine con_of_V ypl_X2_told (Nat.le_of_ble_eq_true rfl) [(0, .ref (a 0)), (1, .int (nI w))] rfl (fun Γ ok => ?_)
  refine V_iload_n ok dX2_told_0 rfl 1 rfl ?_
  refine V_ifN_lt (tgt := 10) ok dX2_told_1 (by decide) (by omega) ?_
  refine V_iload_n ok dX2_told_4 rfl 1 rfl ?_
  refine V_bipush (v := nI 13) ok dX2_told_5 rfl ?_
  refine V_icmpN_le (tgt := 17) ok dX2_told_7 (by decide) (by omega) (by omega) (fun h7 => ?_) (fun h7 => absurd (by omega) h7)
  refine V_iload_n ok dX2_told_17 rfl 1 rfl ?_
  refine V_iconst (v := nI 3) ok dX2_told_18 rfl ?_
  refine V_icmpN_ge (tgt := 29) ok dX2_told_19 (by decide) (by omega) (by omega) (fun h19 => ?_) (fun h19 => ?_)
  · refine V_iload_n ok dX2_told_29 rfl 1 rfl ?_
    refine V_iconst (v := nI 3) ok dX2_told_30 rfl ?_
    refine V_icmpN_ne (tgt := 42) ok dX2_told_31 (by decide) (by omega) (by omega) (fun h31 => ?_) (fun h31 => ?_)
    · refine V_iload_n ok dX2_told_42 rfl 1 rfl ?_
      refine V_bipush (v := nI 13) ok dX2_told_43 rfl ?_
      refine V_icmpN_ne (tgt := 55) ok dX2_told_45 (by decide) (by omega) (by omega) (fun h45 => ?_) (fun h45 => ?_)
      · refine V_aload_n ok dX2_told_55 rfl 0 rfl ?_
        refine V_get (v := .ref (a 1)) ok 0 0 tw_X2 twf_X2_10 rfl rfl (by decide) dX2_told_56 sg_at0 rfl ?_
        refine V_get (v := .ref (a 2)) ok 1 0 tw_X0 twf_X2_57 rfl rfl (by decide) dX2_told_59 sg_at1 rfl ?_
        refine V_iload_n ok dX2_told_62 rfl 1 rfl ?_
        refine V_iconst (v := nI 4) ok dX2_told_63 rfl ?_
        refine V_isubN (a := w) (b := 4) (c := w - 4) ok dX2_told_64 (by omega) (by omega) ?_
        refine V_iald (f := now.1) (N := 9) ok 2 (w - 4) dX2_told_65 sg_at2 rfl (by omega) (by decide) ?_
        exact V_iret ok dX2_told_66 (Nat.zero_le _) (Nat.zero_le _) ⟨by unfold toldV; rw [if_neg (by omega), if_neg (by omega), if_neg (by omega)], rfl⟩
      · refine V_aload_n ok dX2_told_48 rfl 0 rfl ?_
        refine V_get (v := .int (nI sts)) ok 0 4 tw_X2 twf_X2_27 rfl rfl (by decide) dX2_told_49 sg_at0 rfl ?_
        refine V_goto (tgt := 66) ok dX2_told_52 (by decide) ?_
        exact V_iret ok dX2_told_66 (Nat.zero_le _) (Nat.zero_le _) ⟨by unfold toldV; rw [if_neg (by omega), if_neg (by omega), if_pos (by omega)], rfl⟩
    · refine V_aload_n ok dX2_told_34 rfl 0 rfl ?_
      refine V_get (v := .ref (a 39)) ok 0 6 tw_X2 twf_X2_37 rfl rfl (by decide) dX2_told_35 sg_at0 rfl ?_
      refine V_get (v := .int (nI pg.2.1)) ok 39 1 tw_X1 twf_X2_147 rfl rfl (by decide) dX2_told_38 sg_at39 rfl ?_
      exact V_iret ok dX2_told_41 (Nat.zero_le _) (Nat.zero_le _) ⟨by unfold toldV; rw [if_neg (by omega), if_pos (by omega)], rfl⟩
  · refine V_aload_n ok dX2_told_22 rfl 0 rfl ?_
    refine V_get (v := .ref (a 38)) ok 0 5 tw_X2 twf_X2_30 rfl rfl (by decide) dX2_told_23 sg_at0 rfl ?_
    refine V_iload_n ok dX2_told_26 rfl 1 rfl ?_
    refine V_iald (f := rf) (N := 3) ok 38 w dX2_told_27 sg_at38 rfl (by omega) (by decide) ?_
    exact V_iret ok dX2_told_28 (Nat.zero_le _) (Nat.zero_le _) ⟨by unfold toldV; rw [if_pos (by omega)], rfl⟩
