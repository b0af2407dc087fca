theorem widX_all {z : LineSt} {w : Nat → UInt64} {i : Nat} (h : WR (widX z i) w) (hi : i = nv z.1 0 + 1) : WR (widenL z) w := by
  subst hi
  exact h
def setB (w v : Int32) : Bool := if w = 0 then wiB v (nI 0) (nI 1000) else if w = nI 1 then wiB v (-100) (nI 100) else if w = nI 2 then wiB v (nI 1) (nI 99) else false
def endB (w v : Int32) : Bool := if w = 0 then wiB v (nI 0) (nI 1) else if w = nI 1 then wiB v (nI 0) (nI 3) else false
def lawB (k t : Int32) : Bool := if wiB k (nI 0) (nI 5) = true then wiB t (nI 1) (nI 60) else false
def pipB (n : Int32) : Bool := wiB n (nI 1) (nI 10)
set_option maxHeartbeats 4000000 in
set_option maxRecDepth 100000 in
theorem c_X3_whole (g : Glob) (x : UInt64) (hx : FP.Core.DFin x) : Con g yX3_whole cX3_whole 2 (some .long) ({ frames := 0, cells := 0, slots := 0, locals := 0 } : Room) [.double x] ([]) (Is (some (.long (tf x))) []) := by
  refine con_of_V ypl_X3_whole (Nat.le_of_ble_eq_true rfl) [(0, .double x)] rfl (fun Γ ok => ?_)
  refine V_ldc2d ok twd_X3_108 dX3_whole_0 ?_
  refine V_dload_n ok dX3_whole_3 rfl 0 rfl ?_
  refine V_dmul ok dX3_whole_4 (tf_n64 hx) ?_
  refine V_d2l ok dX3_whole_5 ?_
  exact V_lret ok dX3_whole_6 (Nat.zero_le _) (Nat.zero_le _) ⟨rfl, rfl⟩
set_option maxHeartbeats 4000000 in
set_option maxRecDepth 100000 in
theorem c_X3_goesOn (g : Glob) (b : Nat → Nat) (x : LineSt) (wv : Nat → UInt64) (ah : Nat → UInt64) (pa : Nat → Int32) (pw : Nat → UInt64) (ai : Nat → Int32) (aw : Nat → UInt64) (sts : Nat) (rf : Nat → Int32) (tx : Nat → Int32) (len : Nat) (pl : Nat) (ord : Nat) (lr : Nat → Int32) (nu : Nat → Int32) (hsh : Int64) (hx : LG x) (ht : nv x.1 8 + 1 ≤ 999) (hw : WR x wv) : Con g yX3_goesOn cX3_goesOn 5 none ({ frames := 2, cells := 0, slots := 0, locals := 54 } : Room) [.ref (b 0)] (modelW g b x.1 wv ah pa pw ai aw sts rf tx len pl ord lr nu hsh) (fun r_ w_ => r_ = none ∧ ∃ wv2 : Nat → UInt64, ∃ ah2 : Nat → UInt64, (WR (stepL x) wv2) ∧  w_ = modelW g b ((stepL x).1) wv2 ah2 pa pw ai aw sts rf tx len pl ord lr nu hsh) := by
  refine con_of_V ypl_X3_goesOn (Nat.le_of_ble_eq_true rfl) [(0, .ref (b 0))] rfl (fun Γ ok => ?_)
  have hv := hx.1
  have hN := hv.n
  have e0 : nv (tickL x).1 0 = nv x.1 0 := nv_upd_ne (by decide)
  obtain ⟨hv1, hL, hn0, hn1, hn2, hn3, hf1, hf2, hf3⟩ := hx.asksM ht rfl
  have hwq := hx.asksW ht rfl
  have H3 : ∀ (n i : Nat) (wv1 : Nat → UInt64), i ≤ nv x.1 0 + 1 → n = nv x.1 0 + 1 - i → (WR (widX (turnRightL (turnLeftL (shiftL (tickL x)))) i) wv1) → V g Γ 5 0 0 97 (modelW g b ((tickL x).1) wv1 wv pa pw ai aw sts rf tx len pl ord lr nu hsh) [(2, .int (nI i)), (1, .int (nI (nv x.1 0))), (0, .ref (b 0))] [] := by
    intro n
    induction n using Nat.strongRecOn with
    | ind n ih =>
    intro i wv1 hi hn hI
    subst hn
    refine V_iload_n ok dX3_goesOn_97 rfl 0 rfl ?_
    refine V_iload_n ok dX3_goesOn_98 rfl 1 rfl ?_
    refine V_icmpN_gt (tgt := 197) ok dX3_goesOn_99 (by decide) (by omega) (by omega) (fun h99 => ?_) (fun h99 => ?_)
    · exact V_vret ok dX3_goesOn_197 (Nat.zero_le _) (Nat.zero_le _) ⟨rfl, _, _, widX_all hI (show i = nv (tickL x).1 0 + 1 by omega), rfl⟩
    · obtain ⟨w1, w2, -, -⟩ := widN_all nn (P := fun j => FP.dadd ((turnRightL (turnLeftL (shiftL (tickL x)))).2.1 j) ((turnRightL (turnLeftL (shiftL (tickL x)))).2.2.1 j)) (N := nv (tickL x).1 0) (e := ((turnRightL (turnLeftL (shiftL (tickL x)))).2.2.2.1, (turnRightL (turnLeftL (shiftL (tickL x)))).2.2.2.2.1, (turnRightL (turnLeftL (shiftL (tickL x)))).2.2.2.2.2.1, (turnRightL (turnLeftL (shiftL (tickL x)))).2.2.2.2.2.2.1)) (fun j hj => (hwq.1 j hj).1) (fun j hj => (hwq.1 j hj).2.1) (fun j hj => (hwq.1 j hj).2.2) hwq.2.1 hwq.2.2 i (by omega)
      refine V_aload_n ok dX3_goesOn_102 rfl 2 rfl ?_
      refine V_get (v := .ref (b 2)) ok 0 1 tw_X3 twf_X3_13 rfl rfl (by decide) dX3_goesOn_103 rfl rfl ?_
      refine V_iload_n ok dX3_goesOn_106 rfl 0 rfl ?_
      refine V_dald (f := wv1) (N := 45) ok 2 i dX3_goesOn_107 rfl rfl (by omega) (by decide) ?_
      refine V_top_double (b := (turnRightL (turnLeftL (shiftL (tickL x)))).2.1 i) ((hI.1 i (show i ≤ nv (tickL x).1 0 by omega)).1) ?_
      refine V_aload_n ok dX3_goesOn_108 rfl 2 rfl ?_
      refine V_get (v := .ref (b 2)) ok 0 1 tw_X3 twf_X3_13 rfl rfl (by decide) dX3_goesOn_109 rfl rfl ?_
      refine V_bipush (v := nI 11) ok dX3_goesOn_112 rfl ?_
      refine V_iload_n ok dX3_goesOn_114 rfl 0 rfl ?_
      refine V_iaddN (a := 11) (b := i) (c := 11 + i) ok dX3_goesOn_115 (by first | rfl | omega) ?_
      refine V_dald (f := wv1) (N := 45) ok 2 (11 + i) dX3_goesOn_116 rfl rfl (by omega) (by decide) ?_
      refine V_top_double (b := (turnRightL (turnLeftL (shiftL (tickL x)))).2.2.1 i) ((hI.1 i (show i ≤ nv (tickL x).1 0 by omega)).2.1) ?_
      refine V_dadd ok dX3_goesOn_117 (n64_of (hwq.1 i (show i ≤ nv (tickL x).1 0 by omega)).1) ?_
      refine V_dstore_n (lv2 := [(3, .double (FP.dadd ((turnRightL (turnLeftL (shiftL (tickL x)))).2.1 i) ((turnRightL (turnLeftL (shiftL (tickL x)))).2.2.1 i))), (2, .int (nI i)), (1, .int (nI (nv x.1 0))), (0, .ref (b 0))]) ok dX3_goesOn_118 rfl (by decide) rfl ?_
      refine V_aload_n ok dX3_goesOn_119 rfl 3 rfl ?_
      refine V_get (v := .ref (b 2)) ok 0 1 tw_X3 twf_X3_13 rfl rfl (by decide) dX3_goesOn_120 rfl rfl ?_
      refine V_bipush (v := nI 22) ok dX3_goesOn_123 rfl ?_
      refine V_iload_n ok dX3_goesOn_125 rfl 1 rfl ?_
      refine V_iaddN (a := 22) (b := i) (c := 22 + i) ok dX3_goesOn_126 (by first | rfl | omega) ?_
      refine V_dload_n ok dX3_goesOn_127 rfl 0 rfl ?_
      refine V_aload_n ok dX3_goesOn_128 rfl 3 rfl ?_
      refine V_get (v := .ref (b 2)) ok 0 1 tw_X3 twf_X3_13 rfl rfl (by decide) dX3_goesOn_129 rfl rfl ?_
      refine V_bipush (v := nI 22) ok dX3_goesOn_132 rfl ?_
      refine V_iload_n ok dX3_goesOn_134 rfl 1 rfl ?_
      refine V_iaddN (a := 22) (b := i) (c := 22 + i) ok dX3_goesOn_135 (by first | rfl | omega) ?_
      refine V_dald (f := wv1) (N := 45) ok 2 (22 + i) dX3_goesOn_136 rfl rfl (by omega) (by decide) ?_
      have J137 : V g Γ 5 0 0 154 (modelW g b ((tickL x).1) wv1 wv pa pw ai aw sts rf tx len pl ord lr nu hsh) [(3, .double (FP.dadd ((turnRightL (turnLeftL (shiftL (tickL x)))).2.1 i) ((turnRightL (turnLeftL (shiftL (tickL x)))).2.2.1 i))), (2, .int (nI i)), (1, .int (nI (nv x.1 0))), (0, .ref (b 0))] [.double (if zv (wv1 (22 + i)) < zv (FP.dadd ((turnRightL (turnLeftL (shiftL (tickL x)))).2.1 i) ((turnRightL (turnLeftL (shiftL (tickL x)))).2.2.1 i)) then FP.dadd ((turnRightL (turnLeftL (shiftL (tickL x)))).2.1 i) ((turnRightL (turnLeftL (shiftL (tickL x)))).2.2.1 i) else wv1 (22 + i)), .int (nI (22 + i)), .ref (b 2)] := by
        refine V_dast (f := wv1) (N := 45) (w2 := modelW g b ((tickL x).1) (vf_upd wv1 (22 + i) (if zv (wv1 (22 + i)) < zv (FP.dadd ((turnRightL (turnLeftL (shiftL (tickL x)))).2.1 i) ((turnRightL (turnLeftL (shiftL (tickL x)))).2.2.1 i)) then FP.dadd ((turnRightL (turnLeftL (shiftL (tickL x)))).2.1 i) ((turnRightL (turnLeftL (shiftL (tickL x)))).2.2.1 i) else wv1 (22 + i))) wv pa pw ai aw sts rf tx len pl ord lr nu hsh) ok 2 (22 + i) dX3_goesOn_154 rfl rfl (by omega) (by decide) rfl ?_
        refine V_aload_n ok dX3_goesOn_155 rfl 3 rfl ?_
        refine V_get (v := .ref (b 2)) ok 0 1 tw_X3 twf_X3_13 rfl rfl (by decide) dX3_goesOn_156 rfl rfl ?_
        refine V_bipush (v := nI 33) ok dX3_goesOn_159 rfl ?_
        refine V_iload_n ok dX3_goesOn_161 rfl 1 rfl ?_
        refine V_iaddN (a := 33) (b := i) (c := 33 + i) ok dX3_goesOn_162 (by first | rfl | omega) ?_
        refine V_dload_n ok dX3_goesOn_163 rfl 0 rfl ?_
        refine V_aload_n ok dX3_goesOn_164 rfl 3 rfl ?_
        refine V_get (v := .ref (b 2)) ok 0 1 tw_X3 twf_X3_13 rfl rfl (by decide) dX3_goesOn_165 rfl rfl ?_
        refine V_bipush (v := nI 33) ok dX3_goesOn_168 rfl ?_
        refine V_iload_n ok dX3_goesOn_170 rfl 1 rfl ?_
        refine V_iaddN (a := 33) (b := i) (c := 33 + i) ok dX3_goesOn_171 (by first | rfl | omega) ?_
        refine V_dald (f := vf_upd wv1 (22 + i) (if zv (wv1 (22 + i)) < zv (FP.dadd ((turnRightL (turnLeftL (shiftL (tickL x)))).2.1 i) ((turnRightL (turnLeftL (shiftL (tickL x)))).2.2.1 i)) then FP.dadd ((turnRightL (turnLeftL (shiftL (tickL x)))).2.1 i) ((turnRightL (turnLeftL (shiftL (tickL x)))).2.2.1 i) else wv1 (22 + i))) (N := 45) ok 2 (33 + i) dX3_goesOn_172 rfl rfl (by omega) (by decide) ?_
        refine V_top_double (b := wv1 (33 + i)) (vu_ne _ _ (by omega)) ?_
        have J173 : V g Γ 5 0 0 190 (modelW g b ((tickL x).1) (vf_upd wv1 (22 + i) (if zv (wv1 (22 + i)) < zv (FP.dadd ((turnRightL (turnLeftL (shiftL (tickL x)))).2.1 i) ((turnRightL (turnLeftL (shiftL (tickL x)))).2.2.1 i)) then FP.dadd ((turnRightL (turnLeftL (shiftL (tickL x)))).2.1 i) ((turnRightL (turnLeftL (shiftL (tickL x)))).2.2.1 i) else wv1 (22 + i))) wv pa pw ai aw sts rf tx len pl ord lr nu hsh) [(3, .double (FP.dadd ((turnRightL (turnLeftL (shiftL (tickL x)))).2.1 i) ((turnRightL (turnLeftL (shiftL (tickL x)))).2.2.1 i))), (2, .int (nI i)), (1, .int (nI (nv x.1 0))), (0, .ref (b 0))] [.double (if zv (FP.dadd ((turnRightL (turnLeftL (shiftL (tickL x)))).2.1 i) ((turnRightL (turnLeftL (shiftL (tickL x)))).2.2.1 i)) < zv (wv1 (33 + i)) then FP.dadd ((turnRightL (turnLeftL (shiftL (tickL x)))).2.1 i) ((turnRightL (turnLeftL (shiftL (tickL x)))).2.2.1 i) else wv1 (33 + i)), .int (nI (33 + i)), .ref (b 2)] := by
          refine V_dast (f := vf_upd wv1 (22 + i) (if zv (wv1 (22 + i)) < zv (FP.dadd ((turnRightL (turnLeftL (shiftL (tickL x)))).2.1 i) ((turnRightL (turnLeftL (shiftL (tickL x)))).2.2.1 i)) then FP.dadd ((turnRightL (turnLeftL (shiftL (tickL x)))).2.1 i) ((turnRightL (turnLeftL (shiftL (tickL x)))).2.2.1 i) else wv1 (22 + i))) (N := 45) (w2 := modelW g b ((tickL x).1) (vf_upd (vf_upd wv1 (22 + i) (if zv (wv1 (22 + i)) < zv (FP.dadd ((turnRightL (turnLeftL (shiftL (tickL x)))).2.1 i) ((turnRightL (turnLeftL (shiftL (tickL x)))).2.2.1 i)) then FP.dadd ((turnRightL (turnLeftL (shiftL (tickL x)))).2.1 i) ((turnRightL (turnLeftL (shiftL (tickL x)))).2.2.1 i) else wv1 (22 + i))) (33 + i) (if zv (FP.dadd ((turnRightL (turnLeftL (shiftL (tickL x)))).2.1 i) ((turnRightL (turnLeftL (shiftL (tickL x)))).2.2.1 i)) < zv (wv1 (33 + i)) then FP.dadd ((turnRightL (turnLeftL (shiftL (tickL x)))).2.1 i) ((turnRightL (turnLeftL (shiftL (tickL x)))).2.2.1 i) else wv1 (33 + i))) wv pa pw ai aw sts rf tx len pl ord lr nu hsh) ok 2 (33 + i) dX3_goesOn_190 rfl rfl (by omega) (by decide) rfl ?_
          refine V_iinc (q := 1) (v := nI (i + 1)) (lv2 := [(2, .int (nI (i + 1))), (3, .double (FP.dadd ((turnRightL (turnLeftL (shiftL (tickL x)))).2.1 i) ((turnRightL (turnLeftL (shiftL (tickL x)))).2.2.1 i))), (1, .int (nI (nv x.1 0))), (0, .ref (b 0))]) ok dX3_goesOn_191 rfl (nI_inc i 1) (by decide) rfl ?_
          refine V_goto (tgt := 97) ok dX3_goesOn_194 (by decide) ?_
          refine V_lv [0, 2, 3] rfl ?_
          exact ih (nv x.1 0 + 1 - (i + 1)) (by omega) (i + 1) _ (by omega) rfl (hI.widS (show i ≤ nv (tickL x).1 0 by omega) (show nv (tickL x).1 0 ≤ 10 by omega) rfl)
        refine V_dge (tgt := 181) ok dX3_goesOn_173 dX3_goesOn_174 (by decide) (hwq.1 i (show i ≤ nv (tickL x).1 0 by omega)).1 (by rw [(hI.1 i (show i ≤ nv (tickL x).1 0 by omega)).2.2.2]; exact w2 i (show i ≤ nv (tickL x).1 0 by omega)) (fun h173 => ?_) (fun h173 => ?_)
        · refine V_aload_n ok dX3_goesOn_181 rfl 3 rfl ?_
          refine V_get (v := .ref (b 2)) ok 0 1 tw_X3 twf_X3_13 rfl rfl (by decide) dX3_goesOn_182 rfl rfl ?_
          refine V_bipush (v := nI 33) ok dX3_goesOn_185 rfl ?_
          refine V_iload_n ok dX3_goesOn_187 rfl 1 rfl ?_
          refine V_iaddN (a := 33) (b := i) (c := 33 + i) ok dX3_goesOn_188 (by first | rfl | omega) ?_
          refine V_dald (f := vf_upd wv1 (22 + i) (if zv (wv1 (22 + i)) < zv (FP.dadd ((turnRightL (turnLeftL (shiftL (tickL x)))).2.1 i) ((turnRightL (turnLeftL (shiftL (tickL x)))).2.2.1 i)) then FP.dadd ((turnRightL (turnLeftL (shiftL (tickL x)))).2.1 i) ((turnRightL (turnLeftL (shiftL (tickL x)))).2.2.1 i) else wv1 (22 + i))) (N := 45) ok 2 (33 + i) dX3_goesOn_189 rfl rfl (by omega) (by decide) ?_
          refine V_top_double (b := wv1 (33 + i)) (vu_ne _ _ (by omega)) ?_
          simp only [if_neg h173] at J173
          exact J173
        · refine V_dload_n ok dX3_goesOn_177 rfl 0 rfl ?_
          refine V_goto (tgt := 190) ok dX3_goesOn_178 (by decide) ?_
          simp only [if_pos h173] at J173
          exact J173
      refine V_dle (tgt := 145) ok dX3_goesOn_137 dX3_goesOn_138 (by decide) (hwq.1 i (show i ≤ nv (tickL x).1 0 by omega)).1 (by rw [(hI.1 i (show i ≤ nv (tickL x).1 0 by omega)).2.2.1]; exact w1 i (show i ≤ nv (tickL x).1 0 by omega)) (fun h137 => ?_) (fun h137 => ?_)
      · refine V_aload_n ok dX3_goesOn_145 rfl 3 rfl ?_
        refine V_get (v := .ref (b 2)) ok 0 1 tw_X3 twf_X3_13 rfl rfl (by decide) dX3_goesOn_146 rfl rfl ?_
        refine V_bipush (v := nI 22) ok dX3_goesOn_149 rfl ?_
        refine V_iload_n ok dX3_goesOn_151 rfl 1 rfl ?_
        refine V_iaddN (a := 22) (b := i) (c := 22 + i) ok dX3_goesOn_152 (by first | rfl | omega) ?_
        refine V_dald (f := wv1) (N := 45) ok 2 (22 + i) dX3_goesOn_153 rfl rfl (by omega) (by decide) ?_
        simp only [if_neg h137] at J137
        exact J137
      · refine V_dload_n ok dX3_goesOn_141 rfl 0 rfl ?_
        refine V_goto (tgt := 154) ok dX3_goesOn_142 (by decide) ?_
        simp only [if_pos h137] at J137
        exact J137
  have H2 : ∀ (n i : Nat), i ≤ nv x.1 0 → n = nv x.1 0 - i → V g Γ 5 0 0 46 (modelW g b ((tickL x).1) (shW wv i) wv pa pw ai aw sts rf tx len pl ord lr nu hsh) [(2, .int (nI i)), (1, .int (nI (nv x.1 0))), (0, .ref (b 0))] [] := by
    intro n
    induction n using Nat.strongRecOn with
    | ind n ih =>
    intro i hi hn
    subst hn
    refine V_iload_n ok dX3_goesOn_46 rfl 0 rfl ?_
    refine V_iload_n ok dX3_goesOn_47 rfl 1 rfl ?_
    refine V_icmpN_ge (tgt := 91) ok dX3_goesOn_48 (by decide) (by omega) (by omega) (fun h48 => ?_) (fun h48 => ?_)
    · refine V_ws (w2 := modelW g b ((shiftL (tickL x)).1) (shW wv (nv x.1 0)) wv pa pw ai aw sts rf tx len pl ord lr nu hsh) (by rw [show i = nv x.1 0 by omega]; rfl) ?_
      refine V_aload_n ok dX3_goesOn_91 rfl 2 rfl ?_
      refine V_cX (rest := []) ok 0 3 (c_X3_laysEnds g b (shiftL (tickL x)) (shW wv (nv x.1 0)) wv pa pw ai aw sts rf tx len pl ord lr nu hsh hv1 hL hn0 hn1 hn2 hn3 hf1 hf2 hf3 (hw.shift (by omega))) 0 twm_X3_71 twi_yX3_laysEnds twv_yX3_laysEnds twin_X3 twc_yX3_laysEnds yok_X3_laysEnds (by decide) ⟨rfl, rfl⟩ dX3_goesOn_92 rfl rfl rfl rfl (Nat.le_of_ble_eq_true rfl) ⟨Nat.zero_le _, Nat.zero_le _⟩ (fun v_ w_ hh => ?_)
      obtain ⟨rfl, wv92, hw92, rfl⟩ := hh
      refine V_iconst (v := nI 0) ok dX3_goesOn_95 rfl ?_
      refine V_istore_n (lv2 := [(2, .int (nI 0)), (1, .int (nI (nv x.1 0))), (0, .ref (b 0))]) ok dX3_goesOn_96 rfl (by decide) rfl ?_
      refine V_lv [0, 1, 2] rfl ?_
      exact H3 (nv x.1 0 + 1) 0 _ (Nat.zero_le _) rfl hw92
    · refine V_aload_n ok dX3_goesOn_51 rfl 2 rfl ?_
      refine V_get (v := .ref (b 2)) ok 0 1 tw_X3 twf_X3_13 rfl rfl (by decide) dX3_goesOn_52 rfl rfl ?_
      refine V_iload_n ok dX3_goesOn_55 rfl 0 rfl ?_
      refine V_iconst (v := nI 1) ok dX3_goesOn_56 rfl ?_
      refine V_iaddN (a := i) (b := 1) (c := i + 1) ok dX3_goesOn_57 (by first | rfl | omega) ?_
      refine V_aload_n ok dX3_goesOn_58 rfl 2 rfl ?_
      refine V_get (v := .ref (b 3)) ok 0 2 tw_X3 twf_X3_17 rfl rfl (by decide) dX3_goesOn_59 rfl rfl ?_
      refine V_iload_n ok dX3_goesOn_62 rfl 0 rfl ?_
      refine V_dald (f := wv) (N := 22) ok 3 i dX3_goesOn_63 rfl rfl (by omega) (by decide) ?_
      refine V_dast (f := shW wv i) (N := 45) (w2 := modelW g b ((tickL x).1) (vf_upd (shW wv i) (i + 1) (wv i)) wv pa pw ai aw sts rf tx len pl ord lr nu hsh) ok 2 (i + 1) dX3_goesOn_64 rfl rfl (by omega) (by decide) rfl ?_
      refine V_aload_n ok dX3_goesOn_65 rfl 2 rfl ?_
      refine V_get (v := .ref (b 2)) ok 0 1 tw_X3 twf_X3_13 rfl rfl (by decide) dX3_goesOn_66 rfl rfl ?_
      refine V_bipush (v := nI 11) ok dX3_goesOn_69 rfl ?_
      refine V_iload_n ok dX3_goesOn_71 rfl 0 rfl ?_
      refine V_iaddN (a := 11) (b := i) (c := 11 + i) ok dX3_goesOn_72 (by first | rfl | omega) ?_
      refine V_aload_n ok dX3_goesOn_73 rfl 2 rfl ?_
      refine V_get (v := .ref (b 3)) ok 0 2 tw_X3 twf_X3_17 rfl rfl (by decide) dX3_goesOn_74 rfl rfl ?_
      refine V_bipush (v := nI 11) ok dX3_goesOn_77 rfl ?_
      refine V_iload_n ok dX3_goesOn_79 rfl 0 rfl ?_
      refine V_iaddN (a := 11) (b := i) (c := 11 + i) ok dX3_goesOn_80 (by first | rfl | omega) ?_
      refine V_iconst (v := nI 1) ok dX3_goesOn_81 rfl ?_
      refine V_iaddN (a := 11 + i) (b := 1) (c := 11 + i + 1) ok dX3_goesOn_82 (by first | rfl | omega) ?_
      refine V_dald (f := wv) (N := 22) ok 3 (11 + i + 1) dX3_goesOn_83 rfl rfl (by omega) (by decide) ?_
      refine V_dast (f := vf_upd (shW wv i) (i + 1) (wv i)) (N := 45) (w2 := modelW g b ((tickL x).1) (shW wv (i + 1)) wv pa pw ai aw sts rf tx len pl ord lr nu hsh) ok 2 (11 + i) dX3_goesOn_84 rfl rfl (by omega) (by decide) (congrArg (fun zz => modelW g b ((tickL x).1) zz wv pa pw ai aw sts rf tx len pl ord lr nu hsh) (shW_s wv (by omega))) ?_
      refine V_iinc (q := 0) (v := nI (i + 1)) (lv2 := [(2, .int (nI (i + 1))), (1, .int (nI (nv x.1 0))), (0, .ref (b 0))]) ok dX3_goesOn_85 rfl (nI_inc i 1) (by decide) rfl ?_
      refine V_goto (tgt := 46) ok dX3_goesOn_88 (by decide) ?_
      refine V_lv [0, 1, 2] rfl ?_
      exact ih (nv x.1 0 - (i + 1)) (by omega) (i + 1) (by omega) rfl
  have H1 : ∀ (n i : Nat), i ≤ 22 → n = 22 - i → V g Γ 5 0 0 20 (modelW g b ((tickL x).1) wv (pfx ah wv i) pa pw ai aw sts rf tx len pl ord lr nu hsh) [(2, .int (nI i)), (1, .int (nI (nv x.1 0))), (0, .ref (b 0))] [] := by
    intro n
    induction n using Nat.strongRecOn with
    | ind n ih =>
    intro i hi hn
    subst hn
    refine V_iload_n ok dX3_goesOn_20 rfl 0 rfl ?_
    refine V_bipush (v := nI 22) ok dX3_goesOn_21 rfl ?_
    refine V_icmpN_ge (tgt := 44) ok dX3_goesOn_23 (by decide) (by omega) (by omega) (fun h23 => ?_) (fun h23 => ?_)
    · refine V_cd (f := pfx ah wv i) (f2 := wv) (N := 22) (w2 := modelW g b ((tickL x).1) wv wv pa pw ai aw sts rf tx len pl ord lr nu hsh) 3 rfl (fun j hj => pfx_lo _ _ (by omega)) rfl ?_
      refine V_iconst (v := nI 0) ok dX3_goesOn_44 rfl ?_
      refine V_istore_n (lv2 := [(2, .int (nI 0)), (1, .int (nI (nv x.1 0))), (0, .ref (b 0))]) ok dX3_goesOn_45 rfl (by decide) rfl ?_
      refine V_lv [0, 1, 2] rfl ?_
      refine V_ws (w2 := modelW g b ((tickL x).1) (shW wv 0) wv pa pw ai aw sts rf tx len pl ord lr nu hsh) (by rw [shW_0]) ?_
      exact H2 (nv x.1 0) 0 (Nat.zero_le _) rfl
    · refine V_aload_n ok dX3_goesOn_26 rfl 2 rfl ?_
      refine V_get (v := .ref (b 3)) ok 0 2 tw_X3 twf_X3_17 rfl rfl (by decide) dX3_goesOn_27 rfl rfl ?_
      refine V_iload_n ok dX3_goesOn_30 rfl 0 rfl ?_
      refine V_aload_n ok dX3_goesOn_31 rfl 2 rfl ?_
      refine V_get (v := .ref (b 2)) ok 0 1 tw_X3 twf_X3_13 rfl rfl (by decide) dX3_goesOn_32 rfl rfl ?_
      refine V_iload_n ok dX3_goesOn_35 rfl 0 rfl ?_
      refine V_dald (f := wv) (N := 45) ok 2 i dX3_goesOn_36 rfl rfl (by omega) (by decide) ?_
      refine V_dast (f := pfx ah wv i) (N := 22) (w2 := modelW g b ((tickL x).1) wv (pfx ah wv (i + 1)) pa pw ai aw sts rf tx len pl ord lr nu hsh) ok 3 i dX3_goesOn_37 rfl rfl (by omega) (by decide) (congrArg (fun zz => modelW g b ((tickL x).1) wv zz pa pw ai aw sts rf tx len pl ord lr nu hsh) (pfx_sD ah wv i)) ?_
      refine V_iinc (q := 0) (v := nI (i + 1)) (lv2 := [(2, .int (nI (i + 1))), (1, .int (nI (nv x.1 0))), (0, .ref (b 0))]) ok dX3_goesOn_38 rfl (nI_inc i 1) (by decide) rfl ?_
      refine V_goto (tgt := 20) ok dX3_goesOn_41 (by decide) ?_
      refine V_lv [0, 1, 2] rfl ?_
      exact ih (22 - (i + 1)) (by omega) (i + 1) (by omega) rfl
  refine V_aload_n ok dX3_goesOn_0 rfl 0 rfl ?_
  refine V_get (v := .ref (b 1)) ok 0 0 tw_X3 twf_X3_7 rfl rfl (by decide) dX3_goesOn_1 rfl rfl ?_
  refine V_iconst (v := nI 0) ok dX3_goesOn_4 rfl ?_
  refine V_iald (f := x.1) (N := 9) ok 1 0 dX3_goesOn_5 rfl rfl (by decide) (by decide) ?_
  refine V_top_int (b := nI (nv x.1 0)) (hv.n.1) ?_
  refine V_istore_n (lv2 := [(1, .int (nI (nv x.1 0))), (0, .ref (b 0))]) ok dX3_goesOn_6 rfl (by decide) rfl ?_
  refine V_aload_n ok dX3_goesOn_7 rfl 1 rfl ?_
  refine V_get (v := .ref (b 1)) ok 0 0 tw_X3 twf_X3_7 rfl rfl (by decide) dX3_goesOn_8 rfl rfl ?_
  refine V_bipush (v := nI 8) ok dX3_goesOn_11 rfl ?_
  refine V_dup2_11 ok dX3_goesOn_13 rfl rfl ?_
  refine V_iald (f := x.1) (N := 9) ok 1 8 dX3_goesOn_14 rfl rfl (by decide) (by decide) ?_
  refine V_iconst (v := nI 1) ok dX3_goesOn_15 rfl ?_
  refine V_iadd ok dX3_goesOn_16 ?_
  refine V_iast (f := x.1) (N := 9) (w2 := modelW g b (upd x.1 8 ((x.1 8) + (nI 1))) wv ah pa pw ai aw sts rf tx len pl ord lr nu hsh) ok 1 8 dX3_goesOn_17 rfl rfl (by decide) (by decide) rfl ?_
  refine V_iconst (v := nI 0) ok dX3_goesOn_18 rfl ?_
  refine V_istore_n (lv2 := [(2, .int (nI 0)), (1, .int (nI (nv x.1 0))), (0, .ref (b 0))]) ok dX3_goesOn_19 rfl (by decide) rfl ?_
  refine V_lv [0, 1, 2] rfl ?_
  refine V_ws (w2 := modelW g b ((tickL x).1) wv (pfx ah wv 0) pa pw ai aw sts rf tx len pl ord lr nu hsh) (by rw [pfx_0]; rfl) ?_
  exact H1 22 0 (by decide) rfl
set_option maxHeartbeats 4000000 in
set_option maxRecDepth 100000 in
theorem c_X3_goesOnFor (g : Glob) (b : Nat → Nat) (x : LineSt) (wv : Nat → UInt64) (ah : Nat → UInt64) (pa : Nat → Int32) (pw : Nat → UInt64) (ai : Nat → Int32) (aw : Nat → UInt64) (sts : Nat) (rf : Nat → Int32) (tx : Nat → Int32) (len : Nat) (pl : Nat) (ord : Nat) (lr : Nat → Int32) (nu : Nat → Int32) (hsh : Int64) (c : Nat) (hx : LG x) (hc : nv x.1 8 + c ≤ 999) (hw : WR x wv) : Con g yX3_goesOnFor cX3_goesOnFor 3 (some .int) ({ frames := 3, cells := 0, slots := 0, locals := 78 } : Room) [.ref (b 0), .int (nI c)] (modelW g b x.1 wv ah pa pw ai aw sts rf tx len pl ord lr nu hsh) (fun r_ w_ => r_ = (some (.int ((advL c x).1 8))) ∧ ∃ wv2 : Nat → UInt64, ∃ ah2 : Nat → UInt64, (WR (advL c x) wv2) ∧  w_ = modelW g b ((advL c x).1) wv2 ah2 pa pw ai aw sts rf tx len pl ord lr nu hsh) := by
  refine con_of_V ypl_X3_goesOnFor (Nat.le_of_ble_eq_true rfl) [(0, .ref (b 0)), (1, .int (nI c))] rfl (fun Γ ok => ?_)
  have HL : ∀ (n i : Nat) (wv1 : Nat → UInt64) (ah1 : Nat → UInt64), i ≤ c → n = c - i → (WR (advL i x) wv1) → V g Γ 3 0 0 2 (modelW g b ((advL i x).1) wv1 ah1 pa pw ai aw sts rf tx len pl ord lr nu hsh) [(2, .int (nI i)), (1, .int (nI c)), (0, .ref (b 0))] [] := by
    intro n
    induction n using Nat.strongRecOn with
    | ind n ih =>
    intro i wv1 ah1 hi hn hI
    subst hn
    refine V_iload_n ok dX3_goesOnFor_2 rfl 0 rfl ?_
    refine V_iload_n ok dX3_goesOnFor_3 rfl 1 rfl ?_
    refine V_icmpN_ge (tgt := 17) ok dX3_goesOnFor_4 (by decide) (by omega) (by omega) (fun h4 => ?_) (fun h4 => ?_)
    · refine V_aload_n ok dX3_goesOnFor_17 rfl 2 rfl ?_
      refine V_get (v := .ref (b 1)) ok 0 0 tw_X3 twf_X3_7 rfl rfl (by decide) dX3_goesOnFor_18 rfl rfl ?_
      refine V_bipush (v := nI 8) ok dX3_goesOnFor_21 rfl ?_
      refine V_iald (f := (advL i x).1) (N := 9) ok 1 8 dX3_goesOnFor_23 rfl rfl (by decide) (by decide) ?_
      exact V_iret ok dX3_goesOnFor_24 (Nat.zero_le _) (Nat.zero_le _) ⟨by rw [show i = c by omega], _, _, (show c = i by omega) ▸ hI, by rw [show i = c by omega]⟩
    · have ha := hx.adv i (by omega)
      refine V_aload_n ok dX3_goesOnFor_7 rfl 2 rfl ?_
      refine V_cX (rest := []) ok 0 3 (c_X3_goesOn g b (advL i x) wv1 ah1 pa pw ai aw sts rf tx len pl ord lr nu hsh ha.1 (by rw [ha.2.1]; omega) hI) 0 twm_X3_78 twi_yX3_goesOn twv_yX3_goesOn twin_X3 twc_yX3_goesOn yok_X3_goesOn (by decide) ⟨rfl, rfl⟩ dX3_goesOnFor_8 rfl rfl rfl rfl (Nat.le_of_ble_eq_true rfl) ⟨Nat.zero_le _, Nat.zero_le _⟩ (fun v_ w_ hh => ?_)
      obtain ⟨rfl, wv8, ah8, hw8, rfl⟩ := hh
      refine V_iinc (q := 0) (v := nI (i + 1)) (lv2 := [(2, .int (nI (i + 1))), (1, .int (nI c)), (0, .ref (b 0))]) ok dX3_goesOnFor_11 rfl (nI_inc i 1) (by decide) rfl ?_
      refine V_goto (tgt := 2) ok dX3_goesOnFor_14 (by decide) ?_
      refine V_lv [0, 1, 2] rfl ?_
      exact ih (c - (i + 1)) (by omega) (i + 1) _ _ (by omega) rfl hw8
  refine V_iconst (v := nI 0) ok dX3_goesOnFor_0 rfl ?_
  refine V_istore_n (lv2 := [(2, .int (nI 0)), (0, .ref (b 0)), (1, .int (nI c))]) ok dX3_goesOnFor_1 rfl (by decide) rfl ?_
  refine V_lv [0, 2, 1] rfl ?_
  exact HL c 0 wv ah (Nat.zero_le _) rfl hw
set_option maxHeartbeats 4000000 in
set_option maxRecDepth 100000 in
theorem c_X3_becomes (g : Glob) (b : Nat → Nat) (x : LineSt) (wv : Nat → UInt64) (ah : Nat → UInt64) (pa : Nat → Int32) (pw : Nat → UInt64) (ai : Nat → Int32) (aw : Nat → UInt64) (sts : Nat) (rf : Nat → Int32) (tx : Nat → Int32) (len : Nat) (pl : Nat) (ord : Nat) (lr : Nat → Int32) (nu : Nat → Int32) (hsh : Int64) (w : Nat) (u : Int32) (hw9 : w < 9) (hv : VG (upd x.1 w u)) : Con g yX3_becomes cX3_becomes 4 (some .int) ({ frames := 1, cells := 0, slots := 0, locals := 25 } : Room) [.ref (b 0), .int (nI w), .int u] (modelW g b x.1 wv ah pa pw ai aw sts rf tx len pl ord lr nu hsh) (fun r_ w_ => r_ = (some (.int (x.1 w))) ∧ ∃ wv2 : Nat → UInt64, (WR (settleL (upd x.1 w u, x.2)) wv2) ∧  w_ = modelW g b ((settleL (upd x.1 w u, x.2)).1) wv2 ah pa pw ai aw sts rf tx len pl ord lr nu hsh) := by
  refine con_of_V ypl_X3_becomes (Nat.le_of_ble_eq_true rfl) [(0, .ref (b 0)), (1, .int (nI w)), (2, .int u)] rfl (fun Γ ok => ?_)
  refine V_aload_n ok dX3_becomes_0 rfl 0 rfl ?_
  refine V_get (v := .ref (b 1)) ok 0 0 tw_X3 twf_X3_7 rfl rfl (by decide) dX3_becomes_1 rfl rfl ?_
  refine V_iload_n ok dX3_becomes_4 rfl 1 rfl ?_
  refine V_iald (f := x.1) (N := 9) ok 1 w dX3_becomes_5 rfl rfl (by omega) (by decide) ?_
  refine V_istore_n (lv2 := [(3, .int (x.1 w)), (0, .ref (b 0)), (1, .int (nI w)), (2, .int u)]) ok dX3_becomes_6 rfl (by decide) rfl ?_
  refine V_aload_n ok dX3_becomes_7 rfl 1 rfl ?_
  refine V_get (v := .ref (b 1)) ok 0 0 tw_X3 twf_X3_7 rfl rfl (by decide) dX3_becomes_8 rfl rfl ?_
  refine V_iload_n ok dX3_becomes_11 rfl 2 rfl ?_
  refine V_iload_n ok dX3_becomes_12 rfl 3 rfl ?_
  refine V_iast (f := x.1) (N := 9) (w2 := modelW g b (upd x.1 w u) wv ah pa pw ai aw sts rf tx len pl ord lr nu hsh) ok 1 w dX3_becomes_13 rfl rfl (by omega) (by decide) rfl ?_
  refine V_aload_n ok dX3_becomes_14 rfl 1 rfl ?_
  refine V_cX (rest := []) ok 0 3 (c_X3_laysSteady g b (upd x.1 w u, x.2) wv ah pa pw ai aw sts rf tx len pl ord lr nu hsh hv) 0 twm_X3_44 twi_yX3_laysSteady twv_yX3_laysSteady twin_X3 twc_yX3_laysSteady yok_X3_laysSteady (by decide) ⟨rfl, rfl⟩ dX3_becomes_15 rfl rfl rfl rfl (Nat.le_of_ble_eq_true rfl) ⟨Nat.zero_le _, Nat.zero_le _⟩ (fun v_ w_ hh => ?_)
  obtain ⟨rfl, wv15, hw15, rfl⟩ := hh
  refine V_iload_n ok dX3_becomes_18 rfl 0 rfl ?_
  exact V_iret ok dX3_becomes_19 (Nat.zero_le _) (Nat.zero_le _) ⟨rfl, _, hw15, rfl⟩
set_option maxHeartbeats 4000000 in
set_option maxRecDepth 100000 in
theorem c_X3_becomesLaw (g : Glob) (b : Nat → Nat) (nw : Nat → Int32) (wv : Nat → UInt64) (ah : Nat → UInt64) (pa : Nat → Int32) (pw : Nat → UInt64) (ai : Nat → Int32) (aw : Nat → UInt64) (sts : Nat) (rf : Nat → Int32) (tx : Nat → Int32) (len : Nat) (pl : Nat) (ord : Nat) (lr : Nat → Int32) (nu : Nat → Int32) (hsh : Int64) (k t : Int32) : Con g yX3_becomesLaw cX3_becomesLaw 4 (some .int) ({ frames := 0, cells := 0, slots := 0, locals := 0 } : Room) [.ref (b 0), .int k, .int t] (modelW g b nw wv ah pa pw ai aw sts rf tx len pl ord lr nu hsh) (Is (some (.int (nw 6))) (modelW g b (upd (upd nw 6 k) 7 t) wv ah pa pw ai aw sts rf tx len pl ord lr nu hsh)) := by
  refine con_of_V ypl_X3_becomesLaw (Nat.le_of_ble_eq_true rfl) [(0, .ref (b 0)), (1, .int k), (2, .int t)] rfl (fun Γ ok => ?_)
  refine V_aload_n ok dX3_becomesLaw_0 rfl 0 rfl ?_
  refine V_get (v := .ref (b 1)) ok 0 0 tw_X3 twf_X3_7 rfl rfl (by decide) dX3_becomesLaw_1 rfl rfl ?_
  refine V_bipush (v := nI 6) ok dX3_becomesLaw_4 rfl ?_
  refine V_iald (f := nw) (N := 9) ok 1 6 dX3_becomesLaw_6 rfl rfl (by decide) (by decide) ?_
  refine V_istore_n (lv2 := [(3, .int (nw 6)), (0, .ref (b 0)), (1, .int k), (2, .int t)]) ok dX3_becomesLaw_7 rfl (by decide) rfl ?_
  refine V_aload_n ok dX3_becomesLaw_8 rfl 1 rfl ?_
  refine V_get (v := .ref (b 1)) ok 0 0 tw_X3 twf_X3_7 rfl rfl (by decide) dX3_becomesLaw_9 rfl rfl ?_
  refine V_bipush (v := nI 6) ok dX3_becomesLaw_12 rfl ?_
  refine V_iload_n ok dX3_becomesLaw_14 rfl 2 rfl ?_
  refine V_iast (f := nw) (N := 9) (w2 := modelW g b (upd nw 6 k) wv ah pa pw ai aw sts rf tx len pl ord lr nu hsh) ok 1 6 dX3_becomesLaw_15 rfl rfl (by decide) (by decide) rfl ?_
  refine V_aload_n ok dX3_becomesLaw_16 rfl 1 rfl ?_
  refine V_get (v := .ref (b 1)) ok 0 0 tw_X3 twf_X3_7 rfl rfl (by decide) dX3_becomesLaw_17 rfl rfl ?_
  refine V_bipush (v := nI 7) ok dX3_becomesLaw_20 rfl ?_
  refine V_iload_n ok dX3_becomesLaw_22 rfl 3 rfl ?_
  refine V_iast (f := upd nw 6 k) (N := 9) (w2 := modelW g b (upd (upd nw 6 k) 7 t) wv ah pa pw ai aw sts rf tx len pl ord lr nu hsh) ok 1 7 dX3_becomesLaw_23 rfl rfl (by decide) (by decide) rfl ?_
  refine V_iload_n ok dX3_becomesLaw_24 rfl 0 rfl ?_
  exact V_iret ok dX3_becomesLaw_25 (Nat.zero_le _) (Nat.zero_le _) ⟨rfl, rfl⟩
set_option maxHeartbeats 4000000 in
set_option maxRecDepth 100000 in
theorem c_X3_mayPipe (g : Glob) (b : Nat → Nat) (nw : Nat → Int32) (wv : Nat → UInt64) (ah : Nat → UInt64) (pa : Nat → Int32) (pw : Nat → UInt64) (ai : Nat → Int32) (aw : Nat → UInt64) (sts : Nat) (rf : Nat → Int32) (tx : Nat → Int32) (len : Nat) (pl : Nat) (ord : Nat) (lr : Nat → Int32) (nu : Nat → Int32) (hsh : Int64) (n : Int32) : Con g yX3_mayPipe cX3_mayPipe 2 (some .boolean) ({ frames := 1, cells := 0, slots := 0, locals := 22 } : Room) [.ref (b 0), .int n] (modelW g b nw wv ah pa pw ai aw sts rf tx len pl ord lr nu hsh) (Is (some (.int (bI (pipB n)))) (modelW g b nw wv ah pa pw ai aw sts rf tx len pl ord lr nu hsh)) := by
  refine con_of_V ypl_X3_mayPipe (Nat.le_of_ble_eq_true rfl) [(0, .ref (b 0)), (1, .int n)] rfl (fun Γ ok => ?_)
  refine V_iload_n ok dX3_mayPipe_0 rfl 1 rfl ?_
  refine V_iconst (v := nI 1) ok dX3_mayPipe_1 rfl ?_
  refine V_bipush (v := nI 10) ok dX3_mayPipe_2 rfl ?_
  refine V_cS (v2 := some (.int (bI (wiB n (nI 1) (nI 10))))) (wn := modelW g b nw wv ah pa pw ai aw sts rf tx len pl ord lr nu hsh) (rest := []) ok (c_X3_within g n (nI 1) (nI 10)) 3 twm_X3_74 tws_yX3_within twin_X3 twc_yX3_within yok_X3_within (by decide) ⟨rfl, rfl⟩ dX3_mayPipe_4 rfl rfl (Nat.le_of_ble_eq_true rfl) ⟨Nat.zero_le _, Nat.zero_le _⟩ [] rfl rfl (Nat.le_of_ble_eq_true rfl) rfl ?_
  exact V_zret ok dX3_mayPipe_7 (Nat.zero_le _) (Nat.zero_le _) (bI_nar _) ⟨rfl, rfl⟩
set_option maxHeartbeats 4000000 in
set_option maxRecDepth 100000 in
theorem c_X3_maySet (g : Glob) (b : Nat → Nat) (nw : Nat → Int32) (wv : Nat → UInt64) (ah : Nat → UInt64) (pa : Nat → Int32) (pw : Nat → UInt64) (ai : Nat → Int32) (aw : Nat → UInt64) (sts : Nat) (rf : Nat → Int32) (tx : Nat → Int32) (len : Nat) (pl : Nat) (ord : Nat) (lr : Nat → Int32) (nu : Nat → Int32) (hsh : Int64) (w v : Int32) : Con g yX3_maySet cX3_maySet 3 (some .boolean) ({ frames := 1, cells := 0, slots := 0, locals := 22 } : Room) [.ref (b 0), .int w, .int v] (modelW g b nw wv ah pa pw ai aw sts rf tx len pl ord lr nu hsh) (Is (some (.int (bI (setB w v)))) (modelW g b nw wv ah pa pw ai aw sts rf tx len pl ord lr nu hsh)) := by
  refine con_of_V ypl_X3_maySet (Nat.le_of_ble_eq_true rfl) [(0, .ref (b 0)), (1, .int w), (2, .int v)] rfl (fun Γ ok => ?_)
  refine V_iload_n ok dX3_maySet_0 rfl 1 rfl ?_
  refine V_if_ne (tgt := 15) ok dX3_maySet_1 (by decide) (fun h1 => ?_) (fun h1 => ?_)
  · refine V_iload_n ok dX3_maySet_15 rfl 1 rfl ?_
    refine V_iconst (v := nI 1) ok dX3_maySet_16 rfl ?_
    refine V_icmp_ne (tgt := 31) ok dX3_maySet_17 (by decide) (fun h17 => ?_) (fun h17 => ?_)
    · refine V_iload_n ok dX3_maySet_31 rfl 1 rfl ?_
      refine V_iconst (v := nI 2) ok dX3_maySet_32 rfl ?_
      refine V_icmp_ne (tgt := 50) ok dX3_maySet_33 (by decide) (fun h33 => ?_) (fun h33 => ?_)
      · refine V_iconst (v := nI 0) ok dX3_maySet_50 rfl ?_
        exact V_zret ok dX3_maySet_51 (Nat.zero_le _) (Nat.zero_le _) rfl ⟨bI_f (by unfold setB; rw [if_neg h1, if_neg h17, if_neg h33]), rfl⟩
      · refine V_iload_n ok dX3_maySet_36 rfl 2 rfl ?_
        refine V_iconst (v := nI 1) ok dX3_maySet_37 rfl ?_
        refine V_bipush (v := nI 99) ok dX3_maySet_38 rfl ?_
        refine V_cS (v2 := some (.int (bI (wiB v (nI 1) (nI 99))))) (wn := modelW g b nw wv ah pa pw ai aw sts rf tx len pl ord lr nu hsh) (rest := []) ok (c_X3_within g v (nI 1) (nI 99)) 3 twm_X3_74 tws_yX3_within twin_X3 twc_yX3_within yok_X3_within (by decide) ⟨rfl, rfl⟩ dX3_maySet_40 rfl rfl (Nat.le_of_ble_eq_true rfl) ⟨Nat.zero_le _, Nat.zero_le _⟩ [] rfl rfl (Nat.le_of_ble_eq_true rfl) rfl ?_
        refine V_ifB_eq (tgt := 50) ok dX3_maySet_43 (by decide) (fun h43 => ?_) (fun h43 => ?_)
        · refine V_iconst (v := nI 0) ok dX3_maySet_50 rfl ?_
          exact V_zret ok dX3_maySet_51 (Nat.zero_le _) (Nat.zero_le _) rfl ⟨bI_f (by unfold setB; rw [if_neg h1, if_neg h17, if_pos h33]; exact Bool.eq_false_iff.mpr h43), rfl⟩
        · refine V_iconst (v := nI 1) ok dX3_maySet_46 rfl ?_
          refine V_goto (tgt := 51) ok dX3_maySet_47 (by decide) ?_
          exact V_zret ok dX3_maySet_51 (Nat.zero_le _) (Nat.zero_le _) rfl ⟨bI_t (by unfold setB; rw [if_neg h1, if_neg h17, if_pos h33]; exact h43), rfl⟩
    · refine V_iload_n ok dX3_maySet_20 rfl 2 rfl ?_
      refine V_bipush (v := (-100)) ok dX3_maySet_21 rfl ?_
      refine V_bipush (v := nI 100) ok dX3_maySet_23 rfl ?_
      refine V_cS (v2 := some (.int (bI (wiB v (-100) (nI 100))))) (wn := modelW g b nw wv ah pa pw ai aw sts rf tx len pl ord lr nu hsh) (rest := []) ok (c_X3_within g v (-100) (nI 100)) 3 twm_X3_74 tws_yX3_within twin_X3 twc_yX3_within yok_X3_within (by decide) ⟨rfl, rfl⟩ dX3_maySet_25 rfl rfl (Nat.le_of_ble_eq_true rfl) ⟨Nat.zero_le _, Nat.zero_le _⟩ [] rfl rfl (Nat.le_of_ble_eq_true rfl) rfl ?_
      refine V_goto (tgt := 51) ok dX3_maySet_28 (by decide) ?_
      exact V_zret ok dX3_maySet_51 (Nat.zero_le _) (Nat.zero_le _) (bI_nar _) ⟨by unfold setB; rw [if_neg h1, if_pos h17], rfl⟩
  · refine V_iload_n ok dX3_maySet_4 rfl 2 rfl ?_
    refine V_iconst (v := nI 0) ok dX3_maySet_5 rfl ?_
    refine V_sipush (v := nI 1000) ok dX3_maySet_6 rfl ?_
    refine V_cS (v2 := some (.int (bI (wiB v (nI 0) (nI 1000))))) (wn := modelW g b nw wv ah pa pw ai aw sts rf tx len pl ord lr nu hsh) (rest := []) ok (c_X3_within g v (nI 0) (nI 1000)) 3 twm_X3_74 tws_yX3_within twin_X3 twc_yX3_within yok_X3_within (by decide) ⟨rfl, rfl⟩ dX3_maySet_9 rfl rfl (Nat.le_of_ble_eq_true rfl) ⟨Nat.zero_le _, Nat.zero_le _⟩ [] rfl rfl (Nat.le_of_ble_eq_true rfl) rfl ?_
    refine V_goto (tgt := 51) ok dX3_maySet_12 (by decide) ?_
    exact V_zret ok dX3_maySet_51 (Nat.zero_le _) (Nat.zero_le _) (bI_nar _) ⟨by unfold setB; rw [if_pos h1], rfl⟩
set_option maxHeartbeats 4000000 in
set_option maxRecDepth 100000 in
theorem c_X3_mayEnd (g : Glob) (b : Nat → Nat) (nw : Nat → Int32) (wv : Nat → UInt64) (ah : Nat → UInt64) (pa : Nat → Int32) (pw : Nat → UInt64) (ai : Nat → Int32) (aw : Nat → UInt64) (sts : Nat) (rf : Nat → Int32) (tx : Nat → Int32) (len : Nat) (pl : Nat) (ord : Nat) (lr : Nat → Int32) (nu : Nat → Int32) (hsh : Int64) (w v : Int32) : Con g yX3_mayEnd cX3_mayEnd 3 (some .boolean) ({ frames := 1, cells := 0, slots := 0, locals := 22 } : Room) [.ref (b 0), .int w, .int v] (modelW g b nw wv ah pa pw ai aw sts rf tx len pl ord lr nu hsh) (Is (some (.int (bI (endB w v)))) (modelW g b nw wv ah pa pw ai aw sts rf tx len pl ord lr nu hsh)) := by
  refine con_of_V ypl_X3_mayEnd (Nat.le_of_ble_eq_true rfl) [(0, .ref (b 0)), (1, .int w), (2, .int v)] rfl (fun Γ ok => ?_)
  refine V_iload_n ok dX3_mayEnd_0 rfl 1 rfl ?_
  refine V_if_ne (tgt := 13) ok dX3_mayEnd_1 (by decide) (fun h1 => ?_) (fun h1 => ?_)
  · refine V_iload_n ok dX3_mayEnd_13 rfl 1 rfl ?_
    refine V_iconst (v := nI 1) ok dX3_mayEnd_14 rfl ?_
    refine V_icmp_ne (tgt := 31) ok dX3_mayEnd_15 (by decide) (fun h15 => ?_) (fun h15 => ?_)
    · refine V_iconst (v := nI 0) ok dX3_mayEnd_31 rfl ?_
      exact V_zret ok dX3_mayEnd_32 (Nat.zero_le _) (Nat.zero_le _) rfl ⟨bI_f (by unfold endB; rw [if_neg h1, if_neg h15]), rfl⟩
    · refine V_iload_n ok dX3_mayEnd_18 rfl 2 rfl ?_
      refine V_iconst (v := nI 0) ok dX3_mayEnd_19 rfl ?_
      refine V_iconst (v := nI 3) ok dX3_mayEnd_20 rfl ?_
      refine V_cS (v2 := some (.int (bI (wiB v (nI 0) (nI 3))))) (wn := modelW g b nw wv ah pa pw ai aw sts rf tx len pl ord lr nu hsh) (rest := []) ok (c_X3_within g v (nI 0) (nI 3)) 3 twm_X3_74 tws_yX3_within twin_X3 twc_yX3_within yok_X3_within (by decide) ⟨rfl, rfl⟩ dX3_mayEnd_21 rfl rfl (Nat.le_of_ble_eq_true rfl) ⟨Nat.zero_le _, Nat.zero_le _⟩ [] rfl rfl (Nat.le_of_ble_eq_true rfl) rfl ?_
      refine V_ifB_eq (tgt := 31) ok dX3_mayEnd_24 (by decide) (fun h24 => ?_) (fun h24 => ?_)
      · refine V_iconst (v := nI 0) ok dX3_mayEnd_31 rfl ?_
        exact V_zret ok dX3_mayEnd_32 (Nat.zero_le _) (Nat.zero_le _) rfl ⟨bI_f (by unfold endB; rw [if_neg h1, if_pos h15]; exact Bool.eq_false_iff.mpr h24), rfl⟩
      · refine V_iconst (v := nI 1) ok dX3_mayEnd_27 rfl ?_
        refine V_goto (tgt := 32) ok dX3_mayEnd_28 (by decide) ?_
        exact V_zret ok dX3_mayEnd_32 (Nat.zero_le _) (Nat.zero_le _) rfl ⟨bI_t (by unfold endB; rw [if_neg h1, if_pos h15]; exact h24), rfl⟩
  · refine V_iload_n ok dX3_mayEnd_4 rfl 2 rfl ?_
    refine V_iconst (v := nI 0) ok dX3_mayEnd_5 rfl ?_
    refine V_iconst (v := nI 1) ok dX3_mayEnd_6 rfl ?_
    refine V_cS (v2 := some (.int (bI (wiB v (nI 0) (nI 1))))) (wn := modelW g b nw wv ah pa pw ai aw sts rf tx len pl ord lr nu hsh) (rest := []) ok (c_X3_within g v (nI 0) (nI 1)) 3 twm_X3_74 tws_yX3_within twin_X3 twc_yX3_within yok_X3_within (by decide) ⟨rfl, rfl⟩ dX3_mayEnd_7 rfl rfl (Nat.le_of_ble_eq_true rfl) ⟨Nat.zero_le _, Nat.zero_le _⟩ [] rfl rfl (Nat.le_of_ble_eq_true rfl) rfl ?_
    refine V_goto (tgt := 32) ok dX3_mayEnd_10 (by decide) ?_
    exact V_zret ok dX3_mayEnd_32 (Nat.zero_le _) (Nat.zero_le _) (bI_nar _) ⟨by unfold endB; rw [if_pos h1], rfl⟩
set_option maxHeartbeats 4000000 in
set_option maxRecDepth 100000 in
theorem c_X3_isLaw (g : Glob) (b : Nat → Nat) (nw : Nat → Int32) (wv : Nat → UInt64) (ah : Nat → UInt64) (pa : Nat → Int32) (pw : Nat → UInt64) (ai : Nat → Int32) (aw : Nat → UInt64) (sts : Nat) (rf : Nat → Int32) (tx : Nat → Int32) (len : Nat) (pl : Nat) (ord : Nat) (lr : Nat → Int32) (nu : Nat → Int32) (hsh : Int64) (k t : Int32) : Con g yX3_isLaw cX3_isLaw 3 (some .boolean) ({ frames := 1, cells := 0, slots := 0, locals := 22 } : Room) [.ref (b 0), .int k, .int t] (modelW g b nw wv ah pa pw ai aw sts rf tx len pl ord lr nu hsh) (Is (some (.int (bI (lawB k t)))) (modelW g b nw wv ah pa pw ai aw sts rf tx len pl ord lr nu hsh)) := by
  refine con_of_V ypl_X3_isLaw (Nat.le_of_ble_eq_true rfl) [(0, .ref (b 0)), (1, .int k), (2, .int t)] rfl (fun Γ ok => ?_)
  refine V_iload_n ok dX3_isLaw_0 rfl 1 rfl ?_
  refine V_iconst (v := nI 0) ok dX3_isLaw_1 rfl ?_
  refine V_iconst (v := nI 5) ok dX3_isLaw_2 rfl ?_
  refine V_cS (v2 := some (.int (bI (wiB k (nI 0) (nI 5))))) (wn := modelW g b nw wv ah pa pw ai aw sts rf tx len pl ord lr nu hsh) (rest := []) ok (c_X3_within g k (nI 0) (nI 5)) 3 twm_X3_74 tws_yX3_within twin_X3 twc_yX3_within yok_X3_within (by decide) ⟨rfl, rfl⟩ dX3_isLaw_3 rfl rfl (Nat.le_of_ble_eq_true rfl) ⟨Nat.zero_le _, Nat.zero_le _⟩ [] rfl rfl (Nat.le_of_ble_eq_true rfl) rfl ?_
  refine V_ifB_eq (tgt := 23) ok dX3_isLaw_6 (by decide) (fun h6 => ?_) (fun h6 => ?_)
  · refine V_iconst (v := nI 0) ok dX3_isLaw_23 rfl ?_
    exact V_zret ok dX3_isLaw_24 (Nat.zero_le _) (Nat.zero_le _) rfl ⟨bI_f (by unfold lawB; rw [if_neg h6]), rfl⟩
  · refine V_iload_n ok dX3_isLaw_9 rfl 2 rfl ?_
    refine V_iconst (v := nI 1) ok dX3_isLaw_10 rfl ?_
    refine V_bipush (v := nI 60) ok dX3_isLaw_11 rfl ?_
    refine V_cS (v2 := some (.int (bI (wiB t (nI 1) (nI 60))))) (wn := modelW g b nw wv ah pa pw ai aw sts rf tx len pl ord lr nu hsh) (rest := []) ok (c_X3_within g t (nI 1) (nI 60)) 3 twm_X3_74 tws_yX3_within twin_X3 twc_yX3_within yok_X3_within (by decide) ⟨rfl, rfl⟩ dX3_isLaw_13 rfl rfl (Nat.le_of_ble_eq_true rfl) ⟨Nat.zero_le _, Nat.zero_le _⟩ [] rfl rfl (Nat.le_of_ble_eq_true rfl) rfl ?_
    refine V_ifB_eq (tgt := 23) ok dX3_isLaw_16 (by decide) (fun h16 => ?_) (fun h16 => ?_)
    · refine V_iconst (v := nI 0) ok dX3_isLaw_23 rfl ?_
      exact V_zret ok dX3_isLaw_24 (Nat.zero_le _) (Nat.zero_le _) rfl ⟨bI_f (by unfold lawB; rw [if_pos h6]; exact Bool.eq_false_iff.mpr h16), rfl⟩
    · refine V_iconst (v := nI 1) ok dX3_isLaw_19 rfl ?_
      refine V_goto (tgt := 24) ok dX3_isLaw_20 (by decide) ?_
      exact V_zret ok dX3_isLaw_24 (Nat.zero_le _) (Nat.zero_le _) rfl ⟨bI_t (by unfold lawB; rw [if_pos h6]; exact h16), rfl⟩
set_option maxHeartbeats 4000000 in
set_option maxRecDepth 100000 in
theorem c_X3_nodeIs (g : Glob) (b : Nat → Nat) (x : LineSt) (wv : Nat → UInt64) (ah : Nat → UInt64) (pa : Nat → Int32) (pw : Nat → UInt64) (ai : Nat → Int32) (aw : Nat → UInt64) (sts : Nat) (rf : Nat → Int32) (tx : Nat → Int32) (len : Nat) (pl : Nat) (ord : Nat) (lr : Nat → Int32) (nu : Nat → Int32) (hsh : Int64) (i w : Nat) (hx : LG x) (hw : WR x wv) (hi : i ≤ nv x.1 0) (hw5 : w ≤ 5) : Con g yX3_nodeIs cX3_nodeIs 3 (some .double) ({ frames := 0, cells := 0, slots := 0, locals := 0 } : Room) [.ref (b 0), .int (nI i), .int (nI w)] (modelW g b x.1 wv ah pa pw ai aw sts rf tx len pl ord lr nu hsh) (Is (some (.double (nodeV x i w))) (modelW g b x.1 wv ah pa pw ai aw sts rf tx len pl ord lr nu hsh)) := by
  refine con_of_V ypl_X3_nodeIs (Nat.le_of_ble_eq_true rfl) [(0, .ref (b 0)), (1, .int (nI i)), (2, .int (nI w))] rfl (fun Γ ok => ?_)
  have hN := hx.1.n
  refine V_iload_n ok dX3_nodeIs_0 rfl 2 rfl ?_
  rcases (show w = 0 ∨ w = 1 ∨ w = 2 ∨ w = 3 ∨ w = 4 ∨ w = 5 by omega) with hk | hk | hk | hk | hk | hk
  · refine V_top_int (b := nI 0) (by rw [hk]) ?_
    refine V_tabIn (off := 35) (tgt := 36) ok dX3_nodeIs_1 (by decide) (by decide) rfl (by decide) ?_
    refine V_aload_n ok dX3_nodeIs_36 rfl 0 rfl ?_
    refine V_get (v := .ref (b 2)) ok 0 1 tw_X3 twf_X3_13 rfl rfl (by decide) dX3_nodeIs_37 rfl rfl ?_
    refine V_iload_n ok dX3_nodeIs_40 rfl 1 rfl ?_
    refine V_dald (f := wv) (N := 45) ok 2 i dX3_nodeIs_41 rfl rfl (by omega) (by decide) ?_
    refine V_top_double (b := x.2.1 i) ((hw.1 i hi).1) ?_
    refine V_aload_n ok dX3_nodeIs_42 rfl 0 rfl ?_
    refine V_get (v := .ref (b 2)) ok 0 1 tw_X3 twf_X3_13 rfl rfl (by decide) dX3_nodeIs_43 rfl rfl ?_
    refine V_bipush (v := nI 11) ok dX3_nodeIs_46 rfl ?_
    refine V_iload_n ok dX3_nodeIs_48 rfl 1 rfl ?_
    refine V_iaddN (a := 11) (b := i) (c := 11 + i) ok dX3_nodeIs_49 (by first | rfl | omega) ?_
    refine V_dald (f := wv) (N := 45) ok 2 (11 + i) dX3_nodeIs_50 rfl rfl (by omega) (by decide) ?_
    refine V_top_double (b := x.2.2.1 i) ((hw.1 i hi).2.1) ?_
    refine V_dadd ok dX3_nodeIs_51 (hx.press hi).1.n64 ?_
    exact V_dret ok dX3_nodeIs_52 (Nat.zero_le _) (Nat.zero_le _) ⟨by subst hk; rfl, rfl⟩
  · refine V_top_int (b := nI 1) (by rw [hk]) ?_
    refine V_tabIn (off := 52) (tgt := 53) ok dX3_nodeIs_1 (by decide) (by decide) rfl (by decide) ?_
    refine V_aload_n ok dX3_nodeIs_53 rfl 0 rfl ?_
    refine V_get (v := .ref (b 2)) ok 0 1 tw_X3 twf_X3_13 rfl rfl (by decide) dX3_nodeIs_54 rfl rfl ?_
    refine V_iload_n ok dX3_nodeIs_57 rfl 1 rfl ?_
    refine V_dald (f := wv) (N := 45) ok 2 i dX3_nodeIs_58 rfl rfl (by omega) (by decide) ?_
    refine V_top_double (b := x.2.1 i) ((hw.1 i hi).1) ?_
    refine V_aload_n ok dX3_nodeIs_59 rfl 0 rfl ?_
    refine V_get (v := .ref (b 2)) ok 0 1 tw_X3 twf_X3_13 rfl rfl (by decide) dX3_nodeIs_60 rfl rfl ?_
    refine V_bipush (v := nI 11) ok dX3_nodeIs_63 rfl ?_
    refine V_iload_n ok dX3_nodeIs_65 rfl 1 rfl ?_
    refine V_iaddN (a := 11) (b := i) (c := 11 + i) ok dX3_nodeIs_66 (by first | rfl | omega) ?_
    refine V_dald (f := wv) (N := 45) ok 2 (11 + i) dX3_nodeIs_67 rfl rfl (by omega) (by decide) ?_
    refine V_top_double (b := x.2.2.1 i) ((hw.1 i hi).2.1) ?_
    refine V_dsub ok dX3_nodeIs_68 (hx.nodeF hi).2.2.2.2.n64 ?_
    exact V_dret ok dX3_nodeIs_69 (Nat.zero_le _) (Nat.zero_le _) ⟨by subst hk; rfl, rfl⟩
  · refine V_top_int (b := nI 2) (by rw [hk]) ?_
    refine V_tabIn (off := 69) (tgt := 70) ok dX3_nodeIs_1 (by decide) (by decide) rfl (by decide) ?_
    refine V_aload_n ok dX3_nodeIs_70 rfl 0 rfl ?_
    refine V_get (v := .ref (b 2)) ok 0 1 tw_X3 twf_X3_13 rfl rfl (by decide) dX3_nodeIs_71 rfl rfl ?_
    refine V_iload_n ok dX3_nodeIs_74 rfl 1 rfl ?_
    refine V_dald (f := wv) (N := 45) ok 2 i dX3_nodeIs_75 rfl rfl (by omega) (by decide) ?_
    refine V_top_double (b := x.2.1 i) ((hw.1 i hi).1) ?_
    exact V_dret ok dX3_nodeIs_76 (Nat.zero_le _) (Nat.zero_le _) ⟨by subst hk; rfl, rfl⟩
  · refine V_top_int (b := nI 3) (by rw [hk]) ?_
    refine V_tabIn (off := 76) (tgt := 77) ok dX3_nodeIs_1 (by decide) (by decide) rfl (by decide) ?_
    refine V_aload_n ok dX3_nodeIs_77 rfl 0 rfl ?_
    refine V_get (v := .ref (b 2)) ok 0 1 tw_X3 twf_X3_13 rfl rfl (by decide) dX3_nodeIs_78 rfl rfl ?_
    refine V_bipush (v := nI 11) ok dX3_nodeIs_81 rfl ?_
    refine V_iload_n ok dX3_nodeIs_83 rfl 1 rfl ?_
    refine V_iaddN (a := 11) (b := i) (c := 11 + i) ok dX3_nodeIs_84 (by first | rfl | omega) ?_
    refine V_dald (f := wv) (N := 45) ok 2 (11 + i) dX3_nodeIs_85 rfl rfl (by omega) (by decide) ?_
    refine V_top_double (b := x.2.2.1 i) ((hw.1 i hi).2.1) ?_
    exact V_dret ok dX3_nodeIs_86 (Nat.zero_le _) (Nat.zero_le _) ⟨by subst hk; rfl, rfl⟩
  · refine V_top_int (b := nI 4) (by rw [hk]) ?_
    refine V_tabIn (off := 86) (tgt := 87) ok dX3_nodeIs_1 (by decide) (by decide) rfl (by decide) ?_
    refine V_aload_n ok dX3_nodeIs_87 rfl 0 rfl ?_
    refine V_get (v := .ref (b 2)) ok 0 1 tw_X3 twf_X3_13 rfl rfl (by decide) dX3_nodeIs_88 rfl rfl ?_
    refine V_bipush (v := nI 22) ok dX3_nodeIs_91 rfl ?_
    refine V_iload_n ok dX3_nodeIs_93 rfl 1 rfl ?_
    refine V_iaddN (a := 22) (b := i) (c := 22 + i) ok dX3_nodeIs_94 (by first | rfl | omega) ?_
    refine V_dald (f := wv) (N := 45) ok 2 (22 + i) dX3_nodeIs_95 rfl rfl (by omega) (by decide) ?_
    refine V_top_double (b := x.2.2.2.1 i) ((hw.1 i hi).2.2.1) ?_
    exact V_dret ok dX3_nodeIs_96 (Nat.zero_le _) (Nat.zero_le _) ⟨by subst hk; rfl, rfl⟩
  · refine V_top_int (b := nI 5) (by rw [hk]) ?_
    refine V_tabOut (tgt := 97) ok dX3_nodeIs_1 (by decide) (by decide) ?_
    refine V_aload_n ok dX3_nodeIs_97 rfl 0 rfl ?_
    refine V_get (v := .ref (b 2)) ok 0 1 tw_X3 twf_X3_13 rfl rfl (by decide) dX3_nodeIs_98 rfl rfl ?_
    refine V_bipush (v := nI 33) ok dX3_nodeIs_101 rfl ?_
    refine V_iload_n ok dX3_nodeIs_103 rfl 1 rfl ?_
    refine V_iaddN (a := 33) (b := i) (c := 33 + i) ok dX3_nodeIs_104 (by first | rfl | omega) ?_
    refine V_dald (f := wv) (N := 45) ok 2 (33 + i) dX3_nodeIs_105 rfl rfl (by omega) (by decide) ?_
    refine V_top_double (b := x.2.2.2.2.1 i) ((hw.1 i hi).2.2.2) ?_
    exact V_dret ok dX3_nodeIs_106 (Nat.zero_le _) (Nat.zero_le _) ⟨by subst hk; rfl, rfl⟩
set_option maxHeartbeats 4000000 in
set_option maxRecDepth 100000 in
theorem c_X3_kept (g : Glob) (b : Nat → Nat) (x : LineSt) (wv : Nat → UInt64) (ah : Nat → UInt64) (pa : Nat → Int32) (pw : Nat → UInt64) (ai : Nat → Int32) (aw : Nat → UInt64) (sts : Nat) (rf : Nat → Int32) (tx : Nat → Int32) (len : Nat) (pl : Nat) (ord : Nat) (lr : Nat → Int32) (nu : Nat → Int32) (hsh : Int64) (hx : LG x) (hw : WR x wv) : Con g yX3_kept cX3_kept 4 (some .double) ({ frames := 0, cells := 0, slots := 0, locals := 0 } : Room) [.ref (b 0)] (modelW g b x.1 wv ah pa pw ai aw sts rf tx len pl ord lr nu hsh) (Is (some (.double (kept0 x.2.1 x.2.2.1 (nv x.1 0 + 1)))) (modelW g b x.1 wv ah pa pw ai aw sts rf tx len pl ord lr nu hsh)) := by
  refine con_of_V ypl_X3_kept (Nat.le_of_ble_eq_true rfl) [(0, .ref (b 0))] rfl (fun Γ ok => ?_)
  have hN := hx.1.n
  have HL : ∀ (n i : Nat), i ≤ nv x.1 0 + 1 → n = nv x.1 0 + 1 - i → V g Γ 4 0 0 4 (modelW g b x.1 wv ah pa pw ai aw sts rf tx len pl ord lr nu hsh) [(3, .int (nI i)), (1, .double (kept0 x.2.1 x.2.2.1 i)), (0, .ref (b 0))] [] := by
    intro n
    induction n using Nat.strongRecOn with
    | ind n ih =>
    intro i hi hn
    subst hn
    refine V_iload_n ok dX3_kept_4 rfl 0 rfl ?_
    refine V_aload_n ok dX3_kept_5 rfl 2 rfl ?_
    refine V_get (v := .ref (b 1)) ok 0 0 tw_X3 twf_X3_7 rfl rfl (by decide) dX3_kept_6 rfl rfl ?_
    refine V_iconst (v := nI 0) ok dX3_kept_9 rfl ?_
    refine V_iald (f := x.1) (N := 9) ok 1 0 dX3_kept_10 rfl rfl (by decide) (by decide) ?_
    refine V_top_int (b := nI (nv x.1 0)) (hx.1.n.1) ?_
    refine V_icmpN_gt (tgt := 56) ok dX3_kept_11 (by decide) (by omega) (by omega) (fun h11 => ?_) (fun h11 => ?_)
    · refine V_dload_n ok dX3_kept_56 rfl 1 rfl ?_
      exact V_dret ok dX3_kept_57 (Nat.zero_le _) (Nat.zero_le _) ⟨by rw [show i = nv x.1 0 + 1 by omega], rfl⟩
    · have hi : i ≤ nv x.1 0 := by omega
      refine V_dload_n ok dX3_kept_14 rfl 1 rfl ?_
      refine V_aload_n ok dX3_kept_15 rfl 2 rfl ?_
      refine V_get (v := .ref (b 2)) ok 0 1 tw_X3 twf_X3_13 rfl rfl (by decide) dX3_kept_16 rfl rfl ?_
      refine V_iload_n ok dX3_kept_19 rfl 0 rfl ?_
      refine V_dald (f := wv) (N := 45) ok 2 i dX3_kept_20 rfl rfl (by omega) (by decide) ?_
      refine V_top_double (b := x.2.1 i) ((hw.1 i hi).1) ?_
      refine V_aload_n ok dX3_kept_21 rfl 2 rfl ?_
      refine V_get (v := .ref (b 2)) ok 0 1 tw_X3 twf_X3_13 rfl rfl (by decide) dX3_kept_22 rfl rfl ?_
      refine V_iload_n ok dX3_kept_25 rfl 0 rfl ?_
      refine V_dald (f := wv) (N := 45) ok 2 i dX3_kept_26 rfl rfl (by omega) (by decide) ?_
      refine V_top_double (b := x.2.1 i) ((hw.1 i hi).1) ?_
      refine V_dmul ok dX3_kept_27 (kept_ok hx i (by omega)).1 ?_
      refine V_aload_n ok dX3_kept_28 rfl 2 rfl ?_
      refine V_get (v := .ref (b 2)) ok 0 1 tw_X3 twf_X3_13 rfl rfl (by decide) dX3_kept_29 rfl rfl ?_
      refine V_bipush (v := nI 11) ok dX3_kept_32 rfl ?_
      refine V_iload_n ok dX3_kept_34 rfl 0 rfl ?_
      refine V_iaddN (a := 11) (b := i) (c := 11 + i) ok dX3_kept_35 (by first | rfl | omega) ?_
      refine V_dald (f := wv) (N := 45) ok 2 (11 + i) dX3_kept_36 rfl rfl (by omega) (by decide) ?_
      refine V_top_double (b := x.2.2.1 i) ((hw.1 i hi).2.1) ?_
      refine V_aload_n ok dX3_kept_37 rfl 2 rfl ?_
      refine V_get (v := .ref (b 2)) ok 0 1 tw_X3 twf_X3_13 rfl rfl (by decide) dX3_kept_38 rfl rfl ?_
      refine V_bipush (v := nI 11) ok dX3_kept_41 rfl ?_
      refine V_iload_n ok dX3_kept_43 rfl 0 rfl ?_
      refine V_iaddN (a := 11) (b := i) (c := 11 + i) ok dX3_kept_44 (by first | rfl | omega) ?_
      refine V_dald (f := wv) (N := 45) ok 2 (11 + i) dX3_kept_45 rfl rfl (by omega) (by decide) ?_
      refine V_top_double (b := x.2.2.1 i) ((hw.1 i hi).2.1) ?_
      refine V_dmul ok dX3_kept_46 (kept_ok hx i (by omega)).2.1 ?_
      refine V_dadd ok dX3_kept_47 (kept_ok hx i (by omega)).2.2.1 ?_
      refine V_dadd ok dX3_kept_48 (kept_ok hx i (by omega)).2.2.2.1 ?_
      refine V_dstore_n (lv2 := [(1, .double (FP.dadd (kept0 x.2.1 x.2.2.1 i) (FP.dadd (FP.dmul (x.2.1 i) (x.2.1 i)) (FP.dmul (x.2.2.1 i) (x.2.2.1 i))))), (3, .int (nI i)), (0, .ref (b 0))]) ok dX3_kept_49 rfl (by decide) rfl ?_
      refine V_iinc (q := 1) (v := nI (i + 1)) (lv2 := [(3, .int (nI (i + 1))), (1, .double (FP.dadd (kept0 x.2.1 x.2.2.1 i) (FP.dadd (FP.dmul (x.2.1 i) (x.2.1 i)) (FP.dmul (x.2.2.1 i) (x.2.2.1 i))))), (0, .ref (b 0))]) ok dX3_kept_50 rfl (nI_inc i 1) (by decide) rfl ?_
      refine V_goto (tgt := 4) ok dX3_kept_53 (by decide) ?_
      refine V_lv [0, 1, 2] rfl ?_
      exact ih (nv x.1 0 + 1 - (i + 1)) (by omega) (i + 1) (by omega) rfl
  refine V_dconst0 ok dX3_kept_0 ?_
  refine V_dstore_n (lv2 := [(1, .double 0), (0, .ref (b 0))]) ok dX3_kept_1 rfl (by decide) rfl ?_
  refine V_iconst (v := nI 0) ok dX3_kept_2 rfl ?_
  refine V_istore_n (lv2 := [(3, .int (nI 0)), (1, .double 0), (0, .ref (b 0))]) ok dX3_kept_3 rfl (by decide) rfl ?_
  refine V_lv [0, 1, 2] rfl ?_
  exact HL (nv x.1 0 + 1) 0 (Nat.zero_le _) rfl
