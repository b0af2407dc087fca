set_option maxHeartbeats 4000000 in
set_option maxRecDepth 100000 in
/-- the envelopes -/
theorem c_X0_widenEnvelopes (g : Glob) (a : Nat → Nat) (v : Nat → Int32) (F B G L : Nat → UInt64) (hi lo lev : UInt64) (hv : VG v) (hq : (∀ j, j ≤ nv v 0 → nn (FP.dadd (F j) (B j)) ∧ nn (G j) ∧ nn (L j)) ∧ nn hi ∧ nn lo) : Con g yX0_widenEnvelopes cX0_widenEnvelopes 4 none ({ frames := 1, cells := 0, slots := 0, locals := 21 } : Room) [.ref (a 0)] (lineW g a (v, F, B, G, L, hi, lo, lev)) (Is none (lineW g a (v, F, B, (widE (v, F, B, G, L, hi, lo, lev)).1, (widE (v, F, B, G, L, hi, lo, lev)).2.1, (widE (v, F, B, G, L, hi, lo, lev)).2.2.1, (widE (v, F, B, G, L, hi, lo, lev)).2.2.2, lev))) := by
  refine con_of_V ypl_X0_widenEnvelopes (Nat.le_of_ble_eq_true rfl) [(0, .ref (a 0))] rfl (fun Γ ok => ?_)
  have hN := hv.n
  have HL : ∀ (n i : Nat), i ≤ nv v 0 + 1 → n = nv v 0 + 1 - i → V g Γ 4 0 0 2 (lineW g a (v, F, B, (widN (fun j => FP.dadd (F j) (B j)) i (G, L, hi, lo)).1, (widN (fun j => FP.dadd (F j) (B j)) i (G, L, hi, lo)).2.1, (widN (fun j => FP.dadd (F j) (B j)) i (G, L, hi, lo)).2.2.1, (widN (fun j => FP.dadd (F j) (B j)) i (G, L, hi, lo)).2.2.2, lev)) [(1, .int (nI i)), (0, .ref (a 0))] [] := by
    intro n
    induction n using Nat.strongRecOn with
    | ind n ih =>
    intro i hi1 hn
    subst hn
    refine V_iload_n ok dX0_widenEnvelopes_2 rfl 0 rfl ?_
    refine V_aload_n ok dX0_widenEnvelopes_3 rfl 1 rfl ?_
    refine V_get (v := .ref (a 1)) ok 0 0 tw_X0 twf_X0_7 rfl rfl (by decide) dX0_widenEnvelopes_4 rfl rfl ?_
    refine V_iconst (v := nI 0) ok dX0_widenEnvelopes_7 rfl ?_
    refine V_iald (f := v) (N := 9) ok 1 0 dX0_widenEnvelopes_8 rfl rfl (by decide) (by decide) ?_
    refine V_top_int (b := nI (nv v 0)) (hv.n.1) ?_
    refine V_icmpN_gt (tgt := 102) ok dX0_widenEnvelopes_9 (by decide) (by omega) (by omega) (fun h9 => ?_) (fun h9 => ?_)
    · exact V_vret ok dX0_widenEnvelopes_102 (Nat.zero_le _) (Nat.zero_le _) ⟨rfl, by rw [show i = nv v 0 + 1 by omega]; rfl⟩
    · refine V_aload_n ok dX0_widenEnvelopes_12 rfl 1 rfl ?_
      refine V_iload_n ok dX0_widenEnvelopes_13 rfl 0 rfl ?_
      refine V_cV (v2 := some (.double (FP.dadd (F i) (B i)))) (wn := lineW g a (v, F, B, (widN (fun j => FP.dadd (F j) (B j)) i (G, L, hi, lo)).1, (widN (fun j => FP.dadd (F j) (B j)) i (G, L, hi, lo)).2.1, (widN (fun j => FP.dadd (F j) (B j)) i (G, L, hi, lo)).2.2.1, (widN (fun j => FP.dadd (F j) (B j)) i (G, L, hi, lo)).2.2.2, lev)) (rest := []) ok 0 0 (c_X0_pressure g a v F B ((widN (fun j => FP.dadd (F j) (B j)) i (G, L, hi, lo)).1) ((widN (fun j => FP.dadd (F j) (B j)) i (G, L, hi, lo)).2.1) ((widN (fun j => FP.dadd (F j) (B j)) i (G, L, hi, lo)).2.2.1) ((widN (fun j => FP.dadd (F j) (B j)) i (G, L, hi, lo)).2.2.2) lev i (by omega) (n64_of (hq.1 i (by omega)).1)) 1 twm_X0_61 twi_yX0_pressure twv_yX0_pressure twin_X0 twc_yX0_pressure yok_X0_pressure (by decide) ⟨rfl, rfl⟩ dX0_widenEnvelopes_14 rfl rfl rfl rfl (Nat.le_of_ble_eq_true rfl) ⟨Nat.zero_le _, Nat.zero_le _⟩ [0, 1, 2, 3, 4, 5] rfl rfl (Nat.le_of_ble_eq_true rfl) rfl ?_
      obtain ⟨w1, w2, w3, w4⟩ := widN_all nn (P := fun j => FP.dadd (F j) (B j)) (N := nv v 0) (e := (G, L, hi, lo)) (fun j hj => (hq.1 j hj).1) (fun j hj => (hq.1 j hj).2.1) (fun j hj => (hq.1 j hj).2.2) hq.2.1 hq.2.2 i (by omega)
      refine V_dstore_n (lv2 := [(2, .double (FP.dadd (F i) (B i))), (1, .int (nI i)), (0, .ref (a 0))]) ok dX0_widenEnvelopes_17 rfl (by decide) rfl ?_
      refine V_dload_n ok dX0_widenEnvelopes_18 rfl 0 rfl ?_
      refine V_aload_n ok dX0_widenEnvelopes_19 rfl 2 rfl ?_
      refine V_get (v := .ref (a 4)) ok 0 3 tw_X0 twf_X0_20 rfl rfl (by decide) dX0_widenEnvelopes_20 rfl rfl ?_
      refine V_iload_n ok dX0_widenEnvelopes_23 rfl 1 rfl ?_
      refine V_dald (f := (widN (fun j => FP.dadd (F j) (B j)) i (G, L, hi, lo)).1) (N := 11) ok 4 i dX0_widenEnvelopes_24 rfl rfl (by omega) (by decide) ?_
      have J25 : V g Γ 4 0 0 57 (lineW g a (v, F, B, (if zv (((widN (fun j => FP.dadd (F j) (B j)) i (G, L, hi, lo)).1) i) < zv (FP.dadd (F i) (B i)) then vf_upd ((widN (fun j => FP.dadd (F j) (B j)) i (G, L, hi, lo)).1) i (FP.dadd (F i) (B i)) else (widN (fun j => FP.dadd (F j) (B j)) i (G, L, hi, lo)).1), (widN (fun j => FP.dadd (F j) (B j)) i (G, L, hi, lo)).2.1, (if zv (((widN (fun j => FP.dadd (F j) (B j)) i (G, L, hi, lo)).1) i) < zv (FP.dadd (F i) (B i)) then (if zv ((widN (fun j => FP.dadd (F j) (B j)) i (G, L, hi, lo)).2.2.1) < zv (FP.dadd (F i) (B i)) then FP.dadd (F i) (B i) else (widN (fun j => FP.dadd (F j) (B j)) i (G, L, hi, lo)).2.2.1) else (widN (fun j => FP.dadd (F j) (B j)) i (G, L, hi, lo)).2.2.1), (widN (fun j => FP.dadd (F j) (B j)) i (G, L, hi, lo)).2.2.2, lev)) [(2, .double (FP.dadd (F i) (B i))), (1, .int (nI i)), (0, .ref (a 0))] [] := by
        refine V_dload_n ok dX0_widenEnvelopes_57 rfl 0 rfl ?_
        refine V_aload_n ok dX0_widenEnvelopes_58 rfl 2 rfl ?_
        refine V_get (v := .ref (a 5)) ok 0 4 tw_X0 twf_X0_23 rfl rfl (by decide) dX0_widenEnvelopes_59 rfl rfl ?_
        refine V_iload_n ok dX0_widenEnvelopes_62 rfl 1 rfl ?_
        refine V_dald (f := (widN (fun j => FP.dadd (F j) (B j)) i (G, L, hi, lo)).2.1) (N := 11) ok 5 i dX0_widenEnvelopes_63 rfl rfl (by omega) (by decide) ?_
        have J64 : V g Γ 4 0 0 96 (lineW g a (v, F, B, (if zv (((widN (fun j => FP.dadd (F j) (B j)) i (G, L, hi, lo)).1) i) < zv (FP.dadd (F i) (B i)) then vf_upd ((widN (fun j => FP.dadd (F j) (B j)) i (G, L, hi, lo)).1) i (FP.dadd (F i) (B i)) else (widN (fun j => FP.dadd (F j) (B j)) i (G, L, hi, lo)).1), (if zv (FP.dadd (F i) (B i)) < zv (((widN (fun j => FP.dadd (F j) (B j)) i (G, L, hi, lo)).2.1) i) then vf_upd ((widN (fun j => FP.dadd (F j) (B j)) i (G, L, hi, lo)).2.1) i (FP.dadd (F i) (B i)) else (widN (fun j => FP.dadd (F j) (B j)) i (G, L, hi, lo)).2.1), (if zv (((widN (fun j => FP.dadd (F j) (B j)) i (G, L, hi, lo)).1) i) < zv (FP.dadd (F i) (B i)) then (if zv ((widN (fun j => FP.dadd (F j) (B j)) i (G, L, hi, lo)).2.2.1) < zv (FP.dadd (F i) (B i)) then FP.dadd (F i) (B i) else (widN (fun j => FP.dadd (F j) (B j)) i (G, L, hi, lo)).2.2.1) else (widN (fun j => FP.dadd (F j) (B j)) i (G, L, hi, lo)).2.2.1), (if zv (FP.dadd (F i) (B i)) < zv (((widN (fun j => FP.dadd (F j) (B j)) i (G, L, hi, lo)).2.1) i) then (if zv (FP.dadd (F i) (B i)) < zv ((widN (fun j => FP.dadd (F j) (B j)) i (G, L, hi, lo)).2.2.2) then FP.dadd (F i) (B i) else (widN (fun j => FP.dadd (F j) (B j)) i (G, L, hi, lo)).2.2.2) else (widN (fun j => FP.dadd (F j) (B j)) i (G, L, hi, lo)).2.2.2), lev)) [(2, .double (FP.dadd (F i) (B i))), (1, .int (nI i)), (0, .ref (a 0))] [] := by
          refine V_iinc (q := 1) (v := nI (i + 1)) (lv2 := [(1, .int (nI (i + 1))), (2, .double (FP.dadd (F i) (B i))), (0, .ref (a 0))]) ok dX0_widenEnvelopes_96 rfl (nI_inc i 1) (by decide) rfl ?_
          refine V_goto (tgt := 2) ok dX0_widenEnvelopes_99 (by decide) ?_
          refine V_lv [0, 2] rfl ?_
          exact ih (nv v 0 + 1 - (i + 1)) (by omega) (i + 1) (by omega) rfl
        refine V_dge (tgt := 96) ok dX0_widenEnvelopes_64 dX0_widenEnvelopes_65 (by decide) ((hq.1 i (by omega)).1) (w2 i (by omega)) (fun h64 => ?_) (fun h64 => ?_)
        · simp only [if_neg h64] at J64
          exact J64
        · refine V_aload_n ok dX0_widenEnvelopes_68 rfl 2 rfl ?_
          refine V_get (v := .ref (a 5)) ok 0 4 tw_X0 twf_X0_23 rfl rfl (by decide) dX0_widenEnvelopes_69 rfl rfl ?_
          refine V_iload_n ok dX0_widenEnvelopes_72 rfl 1 rfl ?_
          refine V_dload_n ok dX0_widenEnvelopes_73 rfl 0 rfl ?_
          refine V_dast (f := (widN (fun j => FP.dadd (F j) (B j)) i (G, L, hi, lo)).2.1) (N := 11) (w2 := lineW g a (v, F, B, (if zv (((widN (fun j => FP.dadd (F j) (B j)) i (G, L, hi, lo)).1) i) < zv (FP.dadd (F i) (B i)) then vf_upd ((widN (fun j => FP.dadd (F j) (B j)) i (G, L, hi, lo)).1) i (FP.dadd (F i) (B i)) else (widN (fun j => FP.dadd (F j) (B j)) i (G, L, hi, lo)).1), vf_upd ((widN (fun j => FP.dadd (F j) (B j)) i (G, L, hi, lo)).2.1) i (FP.dadd (F i) (B i)), (if zv (((widN (fun j => FP.dadd (F j) (B j)) i (G, L, hi, lo)).1) i) < zv (FP.dadd (F i) (B i)) then (if zv ((widN (fun j => FP.dadd (F j) (B j)) i (G, L, hi, lo)).2.2.1) < zv (FP.dadd (F i) (B i)) then FP.dadd (F i) (B i) else (widN (fun j => FP.dadd (F j) (B j)) i (G, L, hi, lo)).2.2.1) else (widN (fun j => FP.dadd (F j) (B j)) i (G, L, hi, lo)).2.2.1), (widN (fun j => FP.dadd (F j) (B j)) i (G, L, hi, lo)).2.2.2, lev)) ok 5 i dX0_widenEnvelopes_74 rfl rfl (by omega) (by decide) rfl ?_
          refine V_aload_n ok dX0_widenEnvelopes_75 rfl 2 rfl ?_
          refine V_dload_n ok dX0_widenEnvelopes_76 rfl 0 rfl ?_
          refine V_aload_n ok dX0_widenEnvelopes_77 rfl 2 rfl ?_
          refine V_get (v := .double ((widN (fun j => FP.dadd (F j) (B j)) i (G, L, hi, lo)).2.2.2)) ok 0 6 tw_X0 twf_X0_55 rfl rfl (by decide) dX0_widenEnvelopes_78 rfl rfl ?_
          have J81 : V g Γ 4 0 0 93 (lineW g a (v, F, B, (if zv (((widN (fun j => FP.dadd (F j) (B j)) i (G, L, hi, lo)).1) i) < zv (FP.dadd (F i) (B i)) then vf_upd ((widN (fun j => FP.dadd (F j) (B j)) i (G, L, hi, lo)).1) i (FP.dadd (F i) (B i)) else (widN (fun j => FP.dadd (F j) (B j)) i (G, L, hi, lo)).1), vf_upd ((widN (fun j => FP.dadd (F j) (B j)) i (G, L, hi, lo)).2.1) i (FP.dadd (F i) (B i)), (if zv (((widN (fun j => FP.dadd (F j) (B j)) i (G, L, hi, lo)).1) i) < zv (FP.dadd (F i) (B i)) then (if zv ((widN (fun j => FP.dadd (F j) (B j)) i (G, L, hi, lo)).2.2.1) < zv (FP.dadd (F i) (B i)) then FP.dadd (F i) (B i) else (widN (fun j => FP.dadd (F j) (B j)) i (G, L, hi, lo)).2.2.1) else (widN (fun j => FP.dadd (F j) (B j)) i (G, L, hi, lo)).2.2.1), (widN (fun j => FP.dadd (F j) (B j)) i (G, L, hi, lo)).2.2.2, lev)) [(2, .double (FP.dadd (F i) (B i))), (1, .int (nI i)), (0, .ref (a 0))] [.double (if zv (FP.dadd (F i) (B i)) < zv ((widN (fun j => FP.dadd (F j) (B j)) i (G, L, hi, lo)).2.2.2) then FP.dadd (F i) (B i) else (widN (fun j => FP.dadd (F j) (B j)) i (G, L, hi, lo)).2.2.2), .ref (a 0)] := by
            refine V_put (w2 := lineW g a (v, F, B, (if zv (((widN (fun j => FP.dadd (F j) (B j)) i (G, L, hi, lo)).1) i) < zv (FP.dadd (F i) (B i)) then vf_upd ((widN (fun j => FP.dadd (F j) (B j)) i (G, L, hi, lo)).1) i (FP.dadd (F i) (B i)) else (widN (fun j => FP.dadd (F j) (B j)) i (G, L, hi, lo)).1), vf_upd ((widN (fun j => FP.dadd (F j) (B j)) i (G, L, hi, lo)).2.1) i (FP.dadd (F i) (B i)), (if zv (((widN (fun j => FP.dadd (F j) (B j)) i (G, L, hi, lo)).1) i) < zv (FP.dadd (F i) (B i)) then (if zv ((widN (fun j => FP.dadd (F j) (B j)) i (G, L, hi, lo)).2.2.1) < zv (FP.dadd (F i) (B i)) then FP.dadd (F i) (B i) else (widN (fun j => FP.dadd (F j) (B j)) i (G, L, hi, lo)).2.2.1) else (widN (fun j => FP.dadd (F j) (B j)) i (G, L, hi, lo)).2.2.1), (if zv (FP.dadd (F i) (B i)) < zv ((widN (fun j => FP.dadd (F j) (B j)) i (G, L, hi, lo)).2.2.2) then FP.dadd (F i) (B i) else (widN (fun j => FP.dadd (F j) (B j)) i (G, L, hi, lo)).2.2.2), lev)) ok 0 6 tw_X0 tyX0 tyX0_ok nmX0 twf_X0_55 rfl rfl (by decide) rfl rfl dX0_widenEnvelopes_93 rfl rfl rfl (Nat.lt_of_lt_of_eq (m := 8) (by decide) rfl) rfl ?_
            simp only [if_pos h64] at J64
            exact J64
          refine V_dge (tgt := 89) ok dX0_widenEnvelopes_81 dX0_widenEnvelopes_82 (by decide) ((hq.1 i (by omega)).1) w4 (fun h81 => ?_) (fun h81 => ?_)
          · refine V_aload_n ok dX0_widenEnvelopes_89 rfl 2 rfl ?_
            refine V_get (v := .double ((widN (fun j => FP.dadd (F j) (B j)) i (G, L, hi, lo)).2.2.2)) ok 0 6 tw_X0 twf_X0_55 rfl rfl (by decide) dX0_widenEnvelopes_90 rfl rfl ?_
            simp only [if_neg h81] at J81
            exact J81
          · refine V_dload_n ok dX0_widenEnvelopes_85 rfl 0 rfl ?_
            refine V_goto (tgt := 93) ok dX0_widenEnvelopes_86 (by decide) ?_
            simp only [if_pos h81] at J81
            exact J81
      refine V_dle (tgt := 57) ok dX0_widenEnvelopes_25 dX0_widenEnvelopes_26 (by decide) ((hq.1 i (by omega)).1) (w1 i (by omega)) (fun h25 => ?_) (fun h25 => ?_)
      · simp only [if_neg h25] at J25
        exact J25
      · refine V_aload_n ok dX0_widenEnvelopes_29 rfl 2 rfl ?_
        refine V_get (v := .ref (a 4)) ok 0 3 tw_X0 twf_X0_20 rfl rfl (by decide) dX0_widenEnvelopes_30 rfl rfl ?_
        refine V_iload_n ok dX0_widenEnvelopes_33 rfl 1 rfl ?_
        refine V_dload_n ok dX0_widenEnvelopes_34 rfl 0 rfl ?_
        refine V_dast (f := (widN (fun j => FP.dadd (F j) (B j)) i (G, L, hi, lo)).1) (N := 11) (w2 := lineW g a (v, F, B, vf_upd ((widN (fun j => FP.dadd (F j) (B j)) i (G, L, hi, lo)).1) i (FP.dadd (F i) (B i)), (widN (fun j => FP.dadd (F j) (B j)) i (G, L, hi, lo)).2.1, (widN (fun j => FP.dadd (F j) (B j)) i (G, L, hi, lo)).2.2.1, (widN (fun j => FP.dadd (F j) (B j)) i (G, L, hi, lo)).2.2.2, lev)) ok 4 i dX0_widenEnvelopes_35 rfl rfl (by omega) (by decide) rfl ?_
        refine V_aload_n ok dX0_widenEnvelopes_36 rfl 2 rfl ?_
        refine V_dload_n ok dX0_widenEnvelopes_37 rfl 0 rfl ?_
        refine V_aload_n ok dX0_widenEnvelopes_38 rfl 2 rfl ?_
        refine V_get (v := .double ((widN (fun j => FP.dadd (F j) (B j)) i (G, L, hi, lo)).2.2.1)) ok 0 5 tw_X0 twf_X0_51 rfl rfl (by decide) dX0_widenEnvelopes_39 rfl rfl ?_
        have J42 : V g Γ 4 0 0 54 (lineW g a (v, F, B, vf_upd ((widN (fun j => FP.dadd (F j) (B j)) i (G, L, hi, lo)).1) i (FP.dadd (F i) (B i)), (widN (fun j => FP.dadd (F j) (B j)) i (G, L, hi, lo)).2.1, (widN (fun j => FP.dadd (F j) (B j)) i (G, L, hi, lo)).2.2.1, (widN (fun j => FP.dadd (F j) (B j)) i (G, L, hi, lo)).2.2.2, lev)) [(2, .double (FP.dadd (F i) (B i))), (1, .int (nI i)), (0, .ref (a 0))] [.double (if zv ((widN (fun j => FP.dadd (F j) (B j)) i (G, L, hi, lo)).2.2.1) < zv (FP.dadd (F i) (B i)) then FP.dadd (F i) (B i) else (widN (fun j => FP.dadd (F j) (B j)) i (G, L, hi, lo)).2.2.1), .ref (a 0)] := by
          refine V_put (w2 := lineW g a (v, F, B, vf_upd ((widN (fun j => FP.dadd (F j) (B j)) i (G, L, hi, lo)).1) i (FP.dadd (F i) (B i)), (widN (fun j => FP.dadd (F j) (B j)) i (G, L, hi, lo)).2.1, (if zv ((widN (fun j => FP.dadd (F j) (B j)) i (G, L, hi, lo)).2.2.1) < zv (FP.dadd (F i) (B i)) then FP.dadd (F i) (B i) else (widN (fun j => FP.dadd (F j) (B j)) i (G, L, hi, lo)).2.2.1), (widN (fun j => FP.dadd (F j) (B j)) i (G, L, hi, lo)).2.2.2, lev)) ok 0 5 tw_X0 tyX0 tyX0_ok nmX0 twf_X0_51 rfl rfl (by decide) rfl rfl dX0_widenEnvelopes_54 rfl rfl rfl (Nat.lt_of_lt_of_eq (m := 8) (by decide) rfl) rfl ?_
          simp only [if_pos h25] at J25
          exact J25
        refine V_dle (tgt := 50) ok dX0_widenEnvelopes_42 dX0_widenEnvelopes_43 (by decide) ((hq.1 i (by omega)).1) w3 (fun h42 => ?_) (fun h42 => ?_)
        · refine V_aload_n ok dX0_widenEnvelopes_50 rfl 2 rfl ?_
          refine V_get (v := .double ((widN (fun j => FP.dadd (F j) (B j)) i (G, L, hi, lo)).2.2.1)) ok 0 5 tw_X0 twf_X0_51 rfl rfl (by decide) dX0_widenEnvelopes_51 rfl rfl ?_
          simp only [if_neg h42] at J42
          exact J42
        · refine V_dload_n ok dX0_widenEnvelopes_46 rfl 0 rfl ?_
          refine V_goto (tgt := 54) ok dX0_widenEnvelopes_47 (by decide) ?_
          simp only [if_pos h42] at J42
          exact J42
  refine V_iconst (v := nI 0) ok dX0_widenEnvelopes_0 rfl ?_
  refine V_istore_n (lv2 := [(1, .int (nI 0)), (0, .ref (a 0))]) ok dX0_widenEnvelopes_1 rfl (by decide) rfl ?_
  refine V_lv [0, 1] rfl ?_
  exact HL (nv v 0 + 1) 0 (Nat.zero_le _) rfl
/-- what a step's methods ask for -/
theorem LG.asks {y : LineSt} (h : LG y) (ht : nv y.1 8 + 1 ≤ 999) : VG (tickL y).1 ∧ vf_n64 (FP.dsub (FP.i2d ((tickL y).1 1)) ((shiftL (tickL y)).2.2.1 0)) := by
  obtain ⟨hv, hw, -⟩ := h
  obtain ⟨hv2, h8⟩ := hv.tick ht
  have hN : nv (tickL y).1 0 = nv y.1 0 := nv_upd_ne (by decide)
  have hb := wb_le (t := nv y.1 8) (by omega)
  refine ⟨hv2, ?_⟩
  have hs := (hw.shift 0 (Nat.zero_le _)).2
  show vf_n64 (FP.dsub (FP.i2d ((tickL y).1 1)) (shB (nv (tickL y).1 0) y.2.2.1 0))
  rw [hN]
  exact (bdS (n := 1000000000 + 1000) hv2.bh (hs.1.mono hb) (by decide) (by decide)).n64
theorem LG.asksR {y : LineSt} (h : LG y) (ht : nv y.1 8 + 1 ≤ 999) {z : LineSt} (hz : turnLeftL (shiftL (tickL y)) = z) :
    vf_n64 (FP.dsub (z.2.1 (nv z.1 0)) (letF (nv z.1 6) (nv z.1 7) (nv z.1 8) (z.1 2))) ∧ vf_n64 (FP.dsub (FP.i2d (z.1 1)) (z.2.1 (nv z.1 0))) ∧ vf_n64 (FP.dsub z.2.2.2.2.2.2.2 (z.2.1 (nv z.1 0))) ∧ vf_n64 (FP.dsub (z.2.1 (nv z.1 0)) (FP.dsub z.2.2.2.2.2.2.2 (z.2.1 (nv z.1 0)))) ∧ vf_n64 (FP.ddiv (FP.dsub (z.2.1 (nv z.1 0)) (FP.dsub z.2.2.2.2.2.2.2 (z.2.1 (nv z.1 0)))) (FP.i2d (z.1 3))) ∧
    vf_n64 (FP.dadd z.2.2.2.2.2.2.2 (FP.ddiv (FP.dsub (z.2.1 (nv z.1 0)) (FP.dsub z.2.2.2.2.2.2.2 (z.2.1 (nv z.1 0)))) (FP.i2d (z.1 3)))) ∧ nn (FP.dadd z.2.2.2.2.2.2.2 (FP.ddiv (FP.dsub (z.2.1 (nv z.1 0)) (FP.dsub z.2.2.2.2.2.2.2 (z.2.1 (nv z.1 0)))) (FP.i2d (z.1 3)))) := by
  obtain ⟨hv, hw, hN, h8⟩ := h.mid ht
  have hb := wb_le (t := nv y.1 8) (by omega)
  have hl : bz 10000 (turnLeftL (shiftL (tickL y))).2.2.2.2.2.2.2 := h.2.2.2.1
  rw [hz] at hv hw hN h8 hl
  have hf := (hw (nv y.1 0) (Nat.le_refl _)).1
  rw [← hN] at hf
  have hf2 : Bd 1000001000 (z.2.1 (nv z.1 0)) := hf.1.mono (by omega)
  have r := risen_bz hv hf2 hl (by decide)
  refine ⟨(bdS (n := 1000721000) hf2 (letF_bd hv.bq hv.t.2.2) (by decide) (by decide)).n64, (bdS (n := 1000002000) hv.bh hf2 (by decide) (by decide)).n64, (bdS (n := 1000011000) hl.1 hf2 (by decide) (by decide)).n64, ?_, r.1.n64, r.2.1.n64, r.2.1.nn⟩
  exact (bdS (n := 2000012000) hf2 (bdS (n := 1000011000) hl.1 hf2 (by decide) (by decide)) (by decide) (by decide)).n64
theorem LG.asksW {y : LineSt} (h : LG y) (ht : nv y.1 8 + 1 ≤ 999) {z : LineSt} (hz : turnRightL (turnLeftL (shiftL (tickL y))) = z) : (∀ j, j ≤ nv z.1 0 → nn (FP.dadd (z.2.1 j) (z.2.2.1 j)) ∧ nn (z.2.2.2.1 j) ∧ nn (z.2.2.2.2.1 j)) ∧ nn z.2.2.2.2.2.1 ∧ nn z.2.2.2.2.2.2.1 := by
  obtain ⟨hv, -, hN, h8⟩ := h.mid ht
  obtain ⟨hw, -⟩ := h.ends ht
  have hb := wb_le (t := nv y.1 8 + 1) ht
  have hE := h.2.2.1
  have hx := h.2.2.2.2.2.1
  have hm := h.2.2.2.2.2.2
  have eN : nv z.1 0 = nv y.1 0 := by rw [← hz]; exact hN
  have eG : z.2.2.2.1 = y.2.2.2.1 := by rw [← hz]; rfl
  have eL : z.2.2.2.2.1 = y.2.2.2.2.1 := by rw [← hz]; rfl
  have eh : z.2.2.2.2.2.1 = y.2.2.2.2.2.1 := by rw [← hz]; rfl
  have el : z.2.2.2.2.2.2.1 = y.2.2.2.2.2.2.1 := by rw [← hz]; rfl
  rw [hz] at hw
  have hp := hw.press (by omega)
  rw [eN, eG, eL, eh, el, hx, hm]
  refine ⟨fun j hj => ⟨(hp j hj).1.nn, (hE j hj).1.1.nn, (hE j hj).2.1.nn⟩, ?_, ?_⟩
  · obtain ⟨j, a, b⟩ := maxU_mem y.2.2.2.1 (nv y.1 0); rw [b]; exact (hE j a).1.1.nn
  · obtain ⟨j, a, b⟩ := minU_mem y.2.2.2.2.1 (nv y.1 0); rw [b]; exact (hE j a).2.1.nn
set_option maxHeartbeats 4000000 in
set_option maxRecDepth 100000 in
/-- steps -/
theorem c_X0_advance (g : Glob) (a : Nat → Nat) (x : LineSt) (c : Nat) (hx : LG x) (hc : nv x.1 8 + c ≤ 999) : Con g yX0_advance cX0_advance 3 none ({ frames := 2, cells := 0, slots := 0, locals := 53 } : Room) [.ref (a 0), .int (nI c)] (lineW g a x) (Is none (lineW g a (advL c x))) := by
  refine con_of_V ypl_X0_advance (Nat.le_of_ble_eq_true rfl) [(0, .ref (a 0)), (1, .int (nI c))] rfl (fun Γ ok => ?_)
  have HL : ∀ (n i : Nat), i ≤ c → n = c - i → V g Γ 3 0 0 2 (lineW g a (advL i x)) [(2, .int (nI i)), (1, .int (nI c)), (0, .ref (a 0))] [] := by
    intro n
    induction n using Nat.strongRecOn with
    | ind n ih =>
    intro i hi1 hn
    subst hn
    obtain ⟨hg, hg8, hg0⟩ := LG.adv hx i (by omega)
    obtain ⟨y, hy⟩ : ∃ y, y = advL i x := ⟨_, rfl⟩
    rw [← hy] at hg hg8 hg0
    rw [← hy]
    refine V_iload_n ok dX0_advance_2 rfl 0 rfl ?_
    refine V_iload_n ok dX0_advance_3 rfl 1 rfl ?_
    refine V_icmpN_ge (tgt := 40) ok dX0_advance_4 (by decide) (by omega) (by omega) (fun h4 => ?_) (fun h4 => ?_)
    · exact V_vret ok dX0_advance_40 (Nat.zero_le _) (Nat.zero_le _) ⟨rfl, by rw [show c = i by omega]; exact hy.symm ▸ rfl⟩
    · refine V_aload_n ok dX0_advance_7 rfl 2 rfl ?_
      obtain ⟨hv1, hnL⟩ := hg.asks (by omega)
      obtain ⟨hr0, hr1, hr2, hr3, hr4, hr5, hr6⟩ := hg.asksR (by omega) rfl
      have hwq := hg.asksW (by omega) rfl
      refine V_get (v := .ref (a 1)) ok 0 0 tw_X0 twf_X0_7 rfl rfl (by decide) dX0_advance_8 rfl rfl ?_
      refine V_bipush (v := nI 8) ok dX0_advance_11 rfl ?_
      refine V_dup2_11 ok dX0_advance_13 rfl rfl ?_
      refine V_iald (f := y.1) (N := 9) ok 1 8 dX0_advance_14 rfl rfl (by decide) (by decide) ?_
      refine V_iconst (v := nI 1) ok dX0_advance_15 rfl ?_
      refine V_iadd ok dX0_advance_16 ?_
      refine V_iast (f := y.1) (N := 9) (w2 := lineW g a (upd y.1 8 ((y.1 8) + (nI 1)), y.2.1, y.2.2.1, y.2.2.2.1, y.2.2.2.2.1, y.2.2.2.2.2.1, y.2.2.2.2.2.2.1, y.2.2.2.2.2.2.2)) ok 1 8 dX0_advance_17 rfl rfl (by decide) (by decide) rfl ?_
      refine V_aload_n ok dX0_advance_18 rfl 2 rfl ?_
      refine V_cV (v2 := none) (wn := lineW g a (upd y.1 8 ((y.1 8) + (nI 1)), shF (nv (upd y.1 8 ((y.1 8) + (nI 1))) 0) 0 y.2.1, shB (nv (upd y.1 8 ((y.1 8) + (nI 1))) 0) y.2.2.1, y.2.2.2.1, y.2.2.2.2.1, y.2.2.2.2.2.1, y.2.2.2.2.2.2.1, y.2.2.2.2.2.2.2)) (rest := []) ok 0 0 (c_X0_shift g a (upd y.1 8 ((y.1 8) + (nI 1))) y.2.1 y.2.2.1 y.2.2.2.1 y.2.2.2.2.1 y.2.2.2.2.2.1 y.2.2.2.2.2.2.1 y.2.2.2.2.2.2.2 hv1) 0 twm_X0_65 twi_yX0_shift twv_yX0_shift twin_X0 twc_yX0_shift yok_X0_shift (by decide) ⟨rfl, rfl⟩ dX0_advance_19 rfl rfl rfl rfl (Nat.le_of_ble_eq_true rfl) ⟨Nat.zero_le _, Nat.zero_le _⟩ [0, 1, 2, 3, 4, 5] rfl rfl (Nat.le_of_ble_eq_true rfl) rfl ?_
      refine V_aload_n ok dX0_advance_22 rfl 2 rfl ?_
      refine V_cV (v2 := none) (wn := lineW g a (upd y.1 8 ((y.1 8) + (nI 1)), vf_upd (shF (nv (upd y.1 8 ((y.1 8) + (nI 1))) 0) 0 y.2.1) 0 (leftF (upd y.1 8 ((y.1 8) + (nI 1))) ((shB (nv (upd y.1 8 ((y.1 8) + (nI 1))) 0) y.2.2.1) 0)), shB (nv (upd y.1 8 ((y.1 8) + (nI 1))) 0) y.2.2.1, y.2.2.2.1, y.2.2.2.2.1, y.2.2.2.2.2.1, y.2.2.2.2.2.2.1, y.2.2.2.2.2.2.2)) (rest := []) ok 0 0 (c_X0_turnLeft g a (upd y.1 8 ((y.1 8) + (nI 1))) (shF (nv (upd y.1 8 ((y.1 8) + (nI 1))) 0) 0 y.2.1) (shB (nv (upd y.1 8 ((y.1 8) + (nI 1))) 0) y.2.2.1) y.2.2.2.1 y.2.2.2.2.1 y.2.2.2.2.2.1 y.2.2.2.2.2.2.1 y.2.2.2.2.2.2.2 hnL) 0 twm_X0_68 twi_yX0_turnLeft twv_yX0_turnLeft twin_X0 twc_yX0_turnLeft yok_X0_turnLeft (by decide) ⟨rfl, rfl⟩ dX0_advance_23 rfl rfl rfl rfl (Nat.le_of_ble_eq_true rfl) ⟨Nat.zero_le _, Nat.zero_le _⟩ [0, 1, 2, 3, 4, 5] rfl rfl (Nat.le_of_ble_eq_true rfl) rfl ?_
      refine V_aload_n ok dX0_advance_26 rfl 2 rfl ?_
      refine V_cV (v2 := none) (wn := lineW g a (upd y.1 8 ((y.1 8) + (nI 1)), vf_upd (shF (nv (upd y.1 8 ((y.1 8) + (nI 1))) 0) 0 y.2.1) 0 (leftF (upd y.1 8 ((y.1 8) + (nI 1))) ((shB (nv (upd y.1 8 ((y.1 8) + (nI 1))) 0) y.2.2.1) 0)), vf_upd (shB (nv (upd y.1 8 ((y.1 8) + (nI 1))) 0) y.2.2.1) (nv (upd y.1 8 ((y.1 8) + (nI 1))) 0) (rightB (upd y.1 8 ((y.1 8) + (nI 1))) ((vf_upd (shF (nv (upd y.1 8 ((y.1 8) + (nI 1))) 0) 0 y.2.1) 0 (leftF (upd y.1 8 ((y.1 8) + (nI 1))) ((shB (nv (upd y.1 8 ((y.1 8) + (nI 1))) 0) y.2.2.1) 0))) (nv (upd y.1 8 ((y.1 8) + (nI 1))) 0)) y.2.2.2.2.2.2.2), y.2.2.2.1, y.2.2.2.2.1, y.2.2.2.2.2.1, y.2.2.2.2.2.2.1, rightLev (upd y.1 8 ((y.1 8) + (nI 1))) ((vf_upd (shF (nv (upd y.1 8 ((y.1 8) + (nI 1))) 0) 0 y.2.1) 0 (leftF (upd y.1 8 ((y.1 8) + (nI 1))) ((shB (nv (upd y.1 8 ((y.1 8) + (nI 1))) 0) y.2.2.1) 0))) (nv (upd y.1 8 ((y.1 8) + (nI 1))) 0)) y.2.2.2.2.2.2.2)) (rest := []) ok 0 0 (c_X0_turnRight g a (upd y.1 8 ((y.1 8) + (nI 1))) (vf_upd (shF (nv (upd y.1 8 ((y.1 8) + (nI 1))) 0) 0 y.2.1) 0 (leftF (upd y.1 8 ((y.1 8) + (nI 1))) ((shB (nv (upd y.1 8 ((y.1 8) + (nI 1))) 0) y.2.2.1) 0))) (shB (nv (upd y.1 8 ((y.1 8) + (nI 1))) 0) y.2.2.1) y.2.2.2.1 y.2.2.2.2.1 y.2.2.2.2.2.1 y.2.2.2.2.2.2.1 y.2.2.2.2.2.2.2 hv1 hr0 hr1 hr2 hr3 hr4 hr5 hr6) 0 twm_X0_71 twi_yX0_turnRight twv_yX0_turnRight twin_X0 twc_yX0_turnRight yok_X0_turnRight (by decide) ⟨rfl, rfl⟩ dX0_advance_27 rfl rfl rfl rfl (Nat.le_of_ble_eq_true rfl) ⟨Nat.zero_le _, Nat.zero_le _⟩ [0, 1, 2, 3, 4, 5] rfl rfl (Nat.le_of_ble_eq_true rfl) rfl ?_
      refine V_aload_n ok dX0_advance_30 rfl 2 rfl ?_
      refine V_cV (v2 := none) (wn := lineW g a (upd y.1 8 ((y.1 8) + (nI 1)), vf_upd (shF (nv (upd y.1 8 ((y.1 8) + (nI 1))) 0) 0 y.2.1) 0 (leftF (upd y.1 8 ((y.1 8) + (nI 1))) ((shB (nv (upd y.1 8 ((y.1 8) + (nI 1))) 0) y.2.2.1) 0)), vf_upd (shB (nv (upd y.1 8 ((y.1 8) + (nI 1))) 0) y.2.2.1) (nv (upd y.1 8 ((y.1 8) + (nI 1))) 0) (rightB (upd y.1 8 ((y.1 8) + (nI 1))) ((vf_upd (shF (nv (upd y.1 8 ((y.1 8) + (nI 1))) 0) 0 y.2.1) 0 (leftF (upd y.1 8 ((y.1 8) + (nI 1))) ((shB (nv (upd y.1 8 ((y.1 8) + (nI 1))) 0) y.2.2.1) 0))) (nv (upd y.1 8 ((y.1 8) + (nI 1))) 0)) y.2.2.2.2.2.2.2), (widE (upd y.1 8 ((y.1 8) + (nI 1)), vf_upd (shF (nv (upd y.1 8 ((y.1 8) + (nI 1))) 0) 0 y.2.1) 0 (leftF (upd y.1 8 ((y.1 8) + (nI 1))) ((shB (nv (upd y.1 8 ((y.1 8) + (nI 1))) 0) y.2.2.1) 0)), vf_upd (shB (nv (upd y.1 8 ((y.1 8) + (nI 1))) 0) y.2.2.1) (nv (upd y.1 8 ((y.1 8) + (nI 1))) 0) (rightB (upd y.1 8 ((y.1 8) + (nI 1))) ((vf_upd (shF (nv (upd y.1 8 ((y.1 8) + (nI 1))) 0) 0 y.2.1) 0 (leftF (upd y.1 8 ((y.1 8) + (nI 1))) ((shB (nv (upd y.1 8 ((y.1 8) + (nI 1))) 0) y.2.2.1) 0))) (nv (upd y.1 8 ((y.1 8) + (nI 1))) 0)) y.2.2.2.2.2.2.2), y.2.2.2.1, y.2.2.2.2.1, y.2.2.2.2.2.1, y.2.2.2.2.2.2.1, rightLev (upd y.1 8 ((y.1 8) + (nI 1))) ((vf_upd (shF (nv (upd y.1 8 ((y.1 8) + (nI 1))) 0) 0 y.2.1) 0 (leftF (upd y.1 8 ((y.1 8) + (nI 1))) ((shB (nv (upd y.1 8 ((y.1 8) + (nI 1))) 0) y.2.2.1) 0))) (nv (upd y.1 8 ((y.1 8) + (nI 1))) 0)) y.2.2.2.2.2.2.2)).1, (widE (upd y.1 8 ((y.1 8) + (nI 1)), vf_upd (shF (nv (upd y.1 8 ((y.1 8) + (nI 1))) 0) 0 y.2.1) 0 (leftF (upd y.1 8 ((y.1 8) + (nI 1))) ((shB (nv (upd y.1 8 ((y.1 8) + (nI 1))) 0) y.2.2.1) 0)), vf_upd (shB (nv (upd y.1 8 ((y.1 8) + (nI 1))) 0) y.2.2.1) (nv (upd y.1 8 ((y.1 8) + (nI 1))) 0) (rightB (upd y.1 8 ((y.1 8) + (nI 1))) ((vf_upd (shF (nv (upd y.1 8 ((y.1 8) + (nI 1))) 0) 0 y.2.1) 0 (leftF (upd y.1 8 ((y.1 8) + (nI 1))) ((shB (nv (upd y.1 8 ((y.1 8) + (nI 1))) 0) y.2.2.1) 0))) (nv (upd y.1 8 ((y.1 8) + (nI 1))) 0)) y.2.2.2.2.2.2.2), y.2.2.2.1, y.2.2.2.2.1, y.2.2.2.2.2.1, y.2.2.2.2.2.2.1, rightLev (upd y.1 8 ((y.1 8) + (nI 1))) ((vf_upd (shF (nv (upd y.1 8 ((y.1 8) + (nI 1))) 0) 0 y.2.1) 0 (leftF (upd y.1 8 ((y.1 8) + (nI 1))) ((shB (nv (upd y.1 8 ((y.1 8) + (nI 1))) 0) y.2.2.1) 0))) (nv (upd y.1 8 ((y.1 8) + (nI 1))) 0)) y.2.2.2.2.2.2.2)).2.1, (widE (upd y.1 8 ((y.1 8) + (nI 1)), vf_upd (shF (nv (upd y.1 8 ((y.1 8) + (nI 1))) 0) 0 y.2.1) 0 (leftF (upd y.1 8 ((y.1 8) + (nI 1))) ((shB (nv (upd y.1 8 ((y.1 8) + (nI 1))) 0) y.2.2.1) 0)), vf_upd (shB (nv (upd y.1 8 ((y.1 8) + (nI 1))) 0) y.2.2.1) (nv (upd y.1 8 ((y.1 8) + (nI 1))) 0) (rightB (upd y.1 8 ((y.1 8) + (nI 1))) ((vf_upd (shF (nv (upd y.1 8 ((y.1 8) + (nI 1))) 0) 0 y.2.1) 0 (leftF (upd y.1 8 ((y.1 8) + (nI 1))) ((shB (nv (upd y.1 8 ((y.1 8) + (nI 1))) 0) y.2.2.1) 0))) (nv (upd y.1 8 ((y.1 8) + (nI 1))) 0)) y.2.2.2.2.2.2.2), y.2.2.2.1, y.2.2.2.2.1, y.2.2.2.2.2.1, y.2.2.2.2.2.2.1, rightLev (upd y.1 8 ((y.1 8) + (nI 1))) ((vf_upd (shF (nv (upd y.1 8 ((y.1 8) + (nI 1))) 0) 0 y.2.1) 0 (leftF (upd y.1 8 ((y.1 8) + (nI 1))) ((shB (nv (upd y.1 8 ((y.1 8) + (nI 1))) 0) y.2.2.1) 0))) (nv (upd y.1 8 ((y.1 8) + (nI 1))) 0)) y.2.2.2.2.2.2.2)).2.2.1, (widE (upd y.1 8 ((y.1 8) + (nI 1)), vf_upd (shF (nv (upd y.1 8 ((y.1 8) + (nI 1))) 0) 0 y.2.1) 0 (leftF (upd y.1 8 ((y.1 8) + (nI 1))) ((shB (nv (upd y.1 8 ((y.1 8) + (nI 1))) 0) y.2.2.1) 0)), vf_upd (shB (nv (upd y.1 8 ((y.1 8) + (nI 1))) 0) y.2.2.1) (nv (upd y.1 8 ((y.1 8) + (nI 1))) 0) (rightB (upd y.1 8 ((y.1 8) + (nI 1))) ((vf_upd (shF (nv (upd y.1 8 ((y.1 8) + (nI 1))) 0) 0 y.2.1) 0 (leftF (upd y.1 8 ((y.1 8) + (nI 1))) ((shB (nv (upd y.1 8 ((y.1 8) + (nI 1))) 0) y.2.2.1) 0))) (nv (upd y.1 8 ((y.1 8) + (nI 1))) 0)) y.2.2.2.2.2.2.2), y.2.2.2.1, y.2.2.2.2.1, y.2.2.2.2.2.1, y.2.2.2.2.2.2.1, rightLev (upd y.1 8 ((y.1 8) + (nI 1))) ((vf_upd (shF (nv (upd y.1 8 ((y.1 8) + (nI 1))) 0) 0 y.2.1) 0 (leftF (upd y.1 8 ((y.1 8) + (nI 1))) ((shB (nv (upd y.1 8 ((y.1 8) + (nI 1))) 0) y.2.2.1) 0))) (nv (upd y.1 8 ((y.1 8) + (nI 1))) 0)) y.2.2.2.2.2.2.2)).2.2.2, rightLev (upd y.1 8 ((y.1 8) + (nI 1))) ((vf_upd (shF (nv (upd y.1 8 ((y.1 8) + (nI 1))) 0) 0 y.2.1) 0 (leftF (upd y.1 8 ((y.1 8) + (nI 1))) ((shB (nv (upd y.1 8 ((y.1 8) + (nI 1))) 0) y.2.2.1) 0))) (nv (upd y.1 8 ((y.1 8) + (nI 1))) 0)) y.2.2.2.2.2.2.2)) (rest := []) ok 0 0 (c_X0_widenEnvelopes g a (upd y.1 8 ((y.1 8) + (nI 1))) (vf_upd (shF (nv (upd y.1 8 ((y.1 8) + (nI 1))) 0) 0 y.2.1) 0 (leftF (upd y.1 8 ((y.1 8) + (nI 1))) ((shB (nv (upd y.1 8 ((y.1 8) + (nI 1))) 0) y.2.2.1) 0))) (vf_upd (shB (nv (upd y.1 8 ((y.1 8) + (nI 1))) 0) y.2.2.1) (nv (upd y.1 8 ((y.1 8) + (nI 1))) 0) (rightB (upd y.1 8 ((y.1 8) + (nI 1))) ((vf_upd (shF (nv (upd y.1 8 ((y.1 8) + (nI 1))) 0) 0 y.2.1) 0 (leftF (upd y.1 8 ((y.1 8) + (nI 1))) ((shB (nv (upd y.1 8 ((y.1 8) + (nI 1))) 0) y.2.2.1) 0))) (nv (upd y.1 8 ((y.1 8) + (nI 1))) 0)) y.2.2.2.2.2.2.2)) y.2.2.2.1 y.2.2.2.2.1 y.2.2.2.2.2.1 y.2.2.2.2.2.2.1 (rightLev (upd y.1 8 ((y.1 8) + (nI 1))) ((vf_upd (shF (nv (upd y.1 8 ((y.1 8) + (nI 1))) 0) 0 y.2.1) 0 (leftF (upd y.1 8 ((y.1 8) + (nI 1))) ((shB (nv (upd y.1 8 ((y.1 8) + (nI 1))) 0) y.2.2.1) 0))) (nv (upd y.1 8 ((y.1 8) + (nI 1))) 0)) y.2.2.2.2.2.2.2) hv1 hwq) 0 twm_X0_74 twi_yX0_widenEnvelopes twv_yX0_widenEnvelopes twin_X0 twc_yX0_widenEnvelopes yok_X0_widenEnvelopes (by decide) ⟨rfl, rfl⟩ dX0_advance_31 rfl rfl rfl rfl (Nat.le_of_ble_eq_true rfl) ⟨Nat.zero_le _, Nat.zero_le _⟩ [0, 1, 2, 3, 4, 5] rfl rfl (Nat.le_of_ble_eq_true rfl) rfl ?_
      refine V_iinc (q := 0) (v := nI (i + 1)) (lv2 := [(2, .int (nI (i + 1))), (1, .int (nI c)), (0, .ref (a 0))]) ok dX0_advance_34 rfl (nI_inc i 1) (by decide) rfl ?_
      refine V_goto (tgt := 2) ok dX0_advance_37 (by decide) ?_
      refine V_lv [0, 1, 2] rfl ?_
      have hz := ih (c - (i + 1)) (by omega) (i + 1) (by omega) rfl
      rw [show advL (i + 1) x = stepL y by rw [hy]; rfl] at hz
      exact hz
  refine V_iconst (v := nI 0) ok dX0_advance_0 rfl ?_
  refine V_istore_n (lv2 := [(2, .int (nI 0)), (0, .ref (a 0)), (1, .int (nI c))]) ok dX0_advance_1 rfl (by decide) rfl ?_
  refine V_lv [0, 2, 1] rfl ?_
  exact HL c 0 (Nat.zero_le _) rfl
