/-! calls: the callee's cells are taken out of the world by their places and put back at the same places (what it made is laid behind) -/
def setAll : va_W → List Nat → va_W → va_W
  | ws, i :: is, e :: w => setAll (ws.set i e) is w
  | ws, _, _ => ws
def rep (ws : va_W) (is : List Nat) (w : va_W) : va_W := setAll ws is w ++ w.drop is.length
theorem setAll_get : ∀ (is : List Nat) (ws w : va_W) (j : Nat) (q : Nat × va_E), (setAll ws is w)[j]? = some q → (∃ c : Nat, is[c]? = some j ∧ w[c]? = some q) ∨ ((∀ c : Nat, c < w.length → is[c]? ≠ some j) ∧ ws[j]? = some q)
  | [], ws, w, j, q, h => Or.inr ⟨fun c _ => by simp, by simpa [setAll] using h⟩
  | i :: is, ws, [], j, q, h => Or.inr ⟨fun c hc => by simp at hc, by simpa [setAll] using h⟩
  | i :: is, ws, e :: w, j, q, h => by
    rcases setAll_get is (ws.set i e) w j q h with ⟨c, h1, h2⟩ | ⟨h1, h2⟩
    · exact Or.inl ⟨c + 1, by simpa using h1, by simpa using h2⟩
    · by_cases hj : i = j
      · subst hj
        rw [List.getElem?_set] at h2
        split at h2
        · split at h2
          · cases h2
            exact Or.inl ⟨0, by simp, by simp⟩
          · cases h2
        · exact absurd rfl ‹_›
      · rw [List.getElem?_set_ne hj] at h2
        refine Or.inr ⟨fun c hc hic => ?_, h2⟩
        cases c with
        | zero => simp at hic; exact hj hic
        | succ c => exact h1 c (by simpa using hc) (by simpa using hic)
theorem setAll_len : ∀ (is : List Nat) (ws w : va_W), (setAll ws is w).length = ws.length
  | [], ws, w => by simp [setAll]
  | i :: is, ws, [] => by simp [setAll]
  | i :: is, ws, e :: w => by rw [setAll, setAll_len is (ws.set i e) w, List.length_set]
theorem rep_get {ws w : va_W} {is : List Nat} (hlen : is.length ≤ w.length) {j : Nat} {q : Nat × va_E} (h : (rep ws is w)[j]? = some q) :
    (j < ws.length ∧ ∃ c : Nat, is[c]? = some j ∧ w[c]? = some q) ∨ ((∀ c : Nat, is[c]? ≠ some j) ∧ ws[j]? = some q) ∨ (ws.length ≤ j ∧ w[is.length + (j - ws.length)]? = some q) := by
  unfold rep at h
  by_cases hj : j < ws.length
  · rw [List.getElem?_append_left (by rw [setAll_len]; exact hj)] at h
    rcases setAll_get is ws w j q h with ⟨c, h1, h2⟩ | ⟨h1, h2⟩
    · exact Or.inl ⟨hj, c, h1, h2⟩
    · refine Or.inr (Or.inl ⟨fun c hc => ?_, h2⟩)
      have : c < is.length := (List.getElem?_eq_some_iff.mp hc).1
      exact h1 c (by omega) hc
  · rw [List.getElem?_append_right (by rw [setAll_len]; omega), setAll_len, List.getElem?_drop] at h
    exact Or.inr (Or.inr ⟨by omega, h⟩)
theorem rep_ok {A0 : Nat → Prop} {D : va_G} {cl : List vw_C} {ws wc w : va_W} {H H1 : Heap} (hP : va_P D cl ws H) (hD : va_D A0 ws) (is : List Nat) (hC : is.map (fun i => ws[i]?) = wc.map some) (hlen : is.length ≤ w.length)
    (hk : ∀ q : Nat, q < H.size → ¬ va_A wc H.size q → H1[q]? = H[q]?) (hF : ∀ q, va_A wc H.size q → A0 q) (hP1 : va_P D cl w H1) (hD1 : va_D (va_A wc H.size) w) : va_P D cl (rep ws is w) H1 ∧ va_D A0 (rep ws is w) := by
  have at' : ∀ (c : Nat) (q : Nat × va_E), wc[c]? = some q → ∃ i, is[c]? = some i ∧ ws[i]? = some q := by
    intro c q hq
    have h1 : (is.map (fun i => ws[i]?))[c]? = some (some q) := by rw [hC, List.getElem?_map, hq]; rfl
    rw [List.getElem?_map] at h1
    cases hi : is[c]? with
    | none => rw [hi] at h1; cases h1
    | some i => rw [hi] at h1; exact ⟨i, rfl, Option.some.inj h1⟩
  have apart : ∀ (j : Nat) (q : Nat × va_E), (∀ c : Nat, is[c]? ≠ some j) → ws[j]? = some q → q.1 < H.size ∧ ¬ va_A wc H.size q.1 := by
    intro j q hn hq
    have hl := (hP j q hq).lt
    refine ⟨hl, fun h => ?_⟩
    rcases h with ⟨c, e, h⟩ | h
    · obtain ⟨i, h3, h4⟩ := at' c (q.1, e) h
      have hij := hD.1 j i q (q.1, e) hq h4 rfl
      subst hij
      exact hn c h3
    · omega
  refine ⟨fun j q hq => ?_, fun i j x z hi hj hxy => ?_, fun j q hq => ?_⟩
  · rcases rep_get hlen hq with ⟨-, c, -, h2⟩ | ⟨h1, h2⟩ | ⟨-, h2⟩
    · exact hP1 c q h2
    · obtain ⟨g1, g2⟩ := apart j q h1 h2
      exact (hP j q h2).kept (hk q.1 g1 g2)
    · exact hP1 _ q h2
  · rcases rep_get hlen hi with ⟨li, c, h1, h2⟩ | ⟨h1, h2⟩ | ⟨li, h2⟩ <;> rcases rep_get hlen hj with ⟨lj, d, h3, h4⟩ | ⟨h3, h4⟩ | ⟨lj, h4⟩
    · have := hD1.1 c d x z h2 h4 hxy
      subst this
      exact Option.some.inj (h1.symm.trans h3)
    · exact absurd (hD1.2 c x h2) (by rw [hxy]; exact (apart j z h3 h4).2)
    · have := hD1.1 _ _ x z h2 h4 hxy
      have hc : c < is.length := (List.getElem?_eq_some_iff.mp h1).1
      omega
    · exact absurd (hD1.2 d z h4) (by rw [← hxy]; exact (apart i x h1 h2).2)
    · exact hD.1 i j x z h2 h4 hxy
    · exact absurd (hD1.2 _ z h4) (by rw [← hxy]; exact (apart i x h1 h2).2)
    · have := hD1.1 _ _ x z h2 h4 hxy
      have hc : d < is.length := (List.getElem?_eq_some_iff.mp h3).1
      omega
    · exact absurd (hD1.2 _ x h2) (by rw [hxy]; exact (apart j z h3 h4).2)
    · have := hD1.1 _ _ x z h2 h4 hxy
      omega
  · rcases rep_get hlen hq with ⟨-, c, -, h2⟩ | ⟨h1, h2⟩ | ⟨-, h2⟩
    · exact hF _ (hD1.2 c q h2)
    · exact hD.2 j q h2
    · exact hF _ (hD1.2 _ q h2)
theorem tw_gi {c : Cond} (h : c ∈ Tw) : GoodIn Tw (c :: Tw) := fun w hw =>
  have hm : w ∈ Tw := (List.mem_cons.mp hw).elim (fun e => e ▸ h) id
  ⟨hm, good_of_word (List.mem_filter.mp hm).2⟩
/-- what a callee's name must be, and how many arguments it takes: decided by the kernel, once a method -/
abbrev yOK (y : MethodName) (n : Nat) : Prop := y.cls ≠ "java/lang/invoke/MethodHandle" ∧ y.cls ≠ "java/lang/invoke/VarHandle" ∧ (parseMethodDescriptor y.desc).map (fun d => d.parameters.length) = some n
theorem sub_at {ws wc : va_W} {is : List Nat} (hC : is.map (fun i => ws[i]?) = wc.map some) (c : Nat) (q : Nat × va_E) (hq : wc[c]? = some q) : ∃ i, is[c]? = some i ∧ ws[i]? = some q := by
  have h1 : (is.map (fun i => ws[i]?))[c]? = some (some q) := by rw [hC, List.getElem?_map, hq]; rfl
  rw [List.getElem?_map] at h1
  cases hi : is[c]? with
  | none => rw [hi] at h1; cases h1
  | some i => rw [hi] at h1; exact ⟨i, rfl, Option.some.inj h1⟩
section VCALL
variable {g : Glob} {Γ : Ctx} {y : MethodName} {cc : ByteArray} {nL : Nat} {ret : Option FieldType} {rm : Room} {post : Option Value → va_W → Prop} {k n pc : Nat} {ws : va_W} {lv : List (Nat × Value)} {st : List Value}
variable {y2 : MethodName} {cc2 : ByteArray} {maxL2 : Nat} {ret2 : Option FieldType} {rm2 : Room} {As : List Value} {wc : va_W} {post2 : Option Value → va_W → Prop} {index : Nat} {rest : List Value}
/-- the callee's start out of the caller's point -/
theorem Pp_blind {g : Glob} {wc : va_W} {av : List Value} {sz : Nat} : FrameBlind (Pp g wc av sz) := fun a U f mk q => by
  obtain ⟨q0, q1, qP, qK, qD, qS⟩ := q
  exact ⟨q0, q1, qP, va_K.moved (u := U) (U := U.calling f mk a) (Vm.Alike.refl U.vm) qK, qD, SP.moved (u := U) (U := U.calling f mk a) (Vm.Alike.refl U.vm) qS⟩
theorem Pp_start (ok : OK g Γ y cc nL ret rm post) {H : Heap} {locs : List Loc} (hP : va_P g.2.1 vwCl ws H) (hD : va_D (kO Γ) ws) (hS : va_S (kO Γ) (kS Γ).heap H locs) (is : List Nat) (hnd : va_nd is = true) (hC : is.map (fun i => ws[i]?) = wc.map some) (av : List Value) (U : State) (hU : U.heap = H) (hW : (kS Γ).WarmedH U.vm) : Pp g wc av H.size av.toArray U := by
  have hF := va_free (wc := wc) hD hS ok.hA is hC
  refine ⟨rfl, by rw [hU], ?_, va_K.moved hW.alike ok.hK, (hD.sub is hnd hC).weaken (fun _ _ _ _ => trivial), ?_⟩
  · rw [hU]
    intro c q hq
    obtain ⟨i, -, h2⟩ := sub_at hC c q hq
    exact hP i q h2
  · rw [hU]
    exact SP.moved hW.alike ((SP.kept ok.hSP hS.1 hS.2.1).narrow hF)
theorem V_after (ok : OK g Γ y cc nL ret rm post) {H : Heap} {locs : List Loc} {ls : Array Slot} {a : Array Value} {mc ms : Nat} (hr : va_Run (kP Γ) g.1 (kE Γ) (kR Γ) (kS Γ) (kM Γ) (kA Γ) (kB Γ) (kMe Γ) (kC Γ) H locs k n mc ms (F0 (kM Γ) pc ls st) rest (Qp g post2 (va_A wc H.size) a) (va_A wc H.size))
    (hP : va_P g.2.1 vwCl ws H) (hD : va_D (kO Γ) ws) (hS : va_S (kO Γ) (kS Γ).heap H locs) (hl : lv_has ls nL lv) (is : List Nat) (hC : is.map (fun i => ws[i]?) = wc.map some) (hlen : ∀ v w, post2 v w → is.length ≤ w.length)
    (kk : ∀ v w, post2 v w → V g Γ nL (k + mc) (n + ms) (pc + 3) (rep ws is w) lv (v.toList ++ rest)) : W (kP Γ) g.1 (kE Γ) (kR Γ) (kS Γ) (kM Γ) (kA Γ) (kB Γ) (kMe Γ) (kC Γ) H locs k n (kQ Γ) (F0 (kM Γ) pc ls st) := by
  intro T hT X
  obtain ⟨v, st₀, t, T', L, h0, X', hL, e1, e2, ⟨⟨r, w, hv, hp, hP1, hD1⟩, hz, hk⟩, stp⟩ := hr T hT X
  cases hv
  rw [h0] at hz hk
  have hF := va_free (wc := wc) hD hS ok.hA is hC
  rw [← e1] at hz hk hP1
  obtain ⟨hP2, hD2⟩ := rep_ok hP hD is hC (hlen _ _ hp) hk hF hP1 hD1
  obtain ⟨t2, a1, b1⟩ := kk v w hp T'.heap (locs ++ L) ls hP2 hD2 ⟨Nat.le_trans hS.1 hz, fun q h1 h2 => by rw [hk q (Nat.lt_of_lt_of_le h1 hS.1) (fun z => h2 (hF q z))]; exact hS.2.1 q h1 h2, fun q hq => by
      rcases List.mem_append.mp hq with h | h
      · exact hS.2.2 q h
      · exact hF _ (hL q h)⟩ hl T' rfl X'
  exact ⟨t2, stp t2 a1, b1⟩
theorem V_callS (ok : OK g Γ y cc nL ret rm post) (hM : Con g y2 cc2 maxL2 ret2 rm2 As wc post2) (nA : Nat) (hlink : Cond.methodLink y.cls index y2 ∈ Tw) (hstat : Cond.static y2 ∈ Tw) (hini : Cond.initialized y2.cls ∈ Tw) (hcode : Cond.code y2 cc2 maxL2 ret2 ∈ Tw) (hy : yOK y2 nA) (hR : rm2.frames + 1 ≤ rm.frames ∧ 8 + (maxL2 + 11) + rm2.locals ≤ rm.locals) (hd : decode cc pc = .ok (.invokestatic index, 3)) (hn : As.length = nA) (hst : st = As.reverse ++ rest) (hcat : (rest.map fun v => v.category).sum ≤ 8) (hf : k + rm2.cells ≤ rm.cells ∧ n + rm2.slots ≤ rm.slots)
    (is : List Nat) (hnd : va_nd is = true) (hC : is.map (fun i => ws[i]?) = wc.map some) (hlen : ∀ v w, post2 v w → is.length ≤ w.length)
    (kk : ∀ v w, post2 v w → V g Γ nL (k + rm2.cells) (n + rm2.slots) (pc + 3) (rep ws is w) lv (v.toList ++ rest)) : V g Γ nL k n pc ws lv st := fun H locs ls hP hD hS hl => by
  refine V_after ok (va_runS (As := As) (rest := rest) ⟨ok.hx, ok.hb, ok.hml, ok.hown, ok.hts⟩ (hM H.size) ⟨callB_of nA ok.hts (tw_gi hcode) rfl rfl rfl (ok.hts _ hini) (ok.hts _ hlink) hy (by rw [ok.hR]; exact hR), ok.hts _ hstat⟩ ⟨Pp_blind, fun U hU hW => Pp_start ok hP hD hS is hnd hC As U hU hW⟩ rfl hn hl.1 hst (lv_room hcat) hd (by rw [ok.hR]; exact hf)) hP hD hS hl is hC hlen kk
theorem V_callV (ok : OK g Γ y cc nL ret rm post) {b : Nat} {fs : List Value} {C : String} {TT : u_T} {NN : Nat} (q0 ci : Nat) (hM : Con g y2 cc2 maxL2 ret2 rm2 (.ref b :: As) wc post2) (nA : Nat) (hlink : Cond.methodLink y.cls index y2 ∈ Tw) (hin : Cond.instanceMethod y2 ∈ Tw) (hsel : Cond.selects y2.cls y2 y2 ∈ Tw) (hini : Cond.initialized y2.cls ∈ Tw) (hcode : Cond.code y2 cc2 maxL2 ret2 ∈ Tw) (hy : yOK y2 nA) (hR : rm2.frames + 1 ≤ rm.frames ∧ 8 + (maxL2 + 11) + rm2.locals ≤ rm.locals) (hd : decode cc pc = .ok (.invokevirtual index, 3)) (hcl : vwCl[ci]? = some (y2.cls, TT, NN)) (he : ws[q0]? = some (b, .inr (ci, fs))) (hn : As.length = nA) (hst : st = As.reverse ++ .ref b :: rest) (hcat : (rest.map fun v => v.category).sum ≤ 8) (hf : k + rm2.cells ≤ rm.cells ∧ n + rm2.slots ≤ rm.slots)
    (is : List Nat) (hnd : va_nd is = true) (hC : is.map (fun i => ws[i]?) = wc.map some) (hlen : ∀ v w, post2 v w → is.length ≤ w.length)
    (kk : ∀ v w, post2 v w → V g Γ nL (k + rm2.cells) (n + rm2.slots) (pc + 3) (rep ws is w) lv (v.toList ++ rest)) : V g Γ nL k n pc ws lv st := fun H locs ls hP hD hS hl => by
  refine V_after ok (va_runV (C := y2.cls) (b := b) (As := As) (rest := rest) ⟨ok.hx, ok.hb, ok.hml, ok.hown, ok.hts⟩ (hM H.size) ⟨callB_of nA ok.hts (tw_gi hcode) rfl rfl rfl (ok.hts _ hini) (ok.hts _ hlink) hy (by rw [ok.hR]; exact hR), ok.hts _ hin, ok.hts _ hsel⟩ ⟨Pp_blind, va_recv ok.hK hP hcl he, fun U hU hW => Pp_start ok hP hD hS is hnd hC (.ref b :: As) U hU hW⟩ rfl hn hl.1 hst (lv_room hcat) hd (by rw [ok.hR]; exact hf)) hP hD hS hl is hC hlen kk
theorem V_callI (ok : OK g Γ y cc nL ret rm post) {b : Nat} (hM : Con g y2 cc2 maxL2 none rm2 (.ref b :: As) wc post2) (nA : Nat) (hlink : Cond.methodLink y.cls index y2 ∈ Tw) (hin : Cond.instanceMethod y2 ∈ Tw) (hini : Cond.initialized y2.cls ∈ Tw) (hcode : Cond.code y2 cc2 maxL2 none ∈ Tw) (hname : y2.name = "<init>") (hy : yOK y2 nA) (hR : rm2.frames + 1 ≤ rm.frames ∧ 8 + (maxL2 + 11) + rm2.locals ≤ rm.locals) (hd : decode cc pc = .ok (.invokespecial index, 3)) (hn : As.length = nA) (hst : st = As.reverse ++ .ref b :: rest) (hcat : (rest.map fun v => v.category).sum ≤ 8) (hf : k + rm2.cells ≤ rm.cells ∧ n + rm2.slots ≤ rm.slots)
    (is : List Nat) (hnd : va_nd is = true) (hC : is.map (fun i => ws[i]?) = wc.map some) (hlen : ∀ v w, post2 v w → is.length ≤ w.length)
    (kk : ∀ v w, post2 v w → V g Γ nL (k + rm2.cells) (n + rm2.slots) (pc + 3) (rep ws is w) lv (v.toList ++ rest)) : V g Γ nL k n pc ws lv st := fun H locs ls hP hD hS hl => by
  refine V_after ok (va_runI (b := b) (As := As) (rest := rest) ⟨ok.hx, ok.hb, ok.hml, ok.hown, ok.hts⟩ (hM H.size) ⟨callB_of nA ok.hts (tw_gi hcode) rfl rfl rfl (ok.hts _ hini) (ok.hts _ hlink) hy (by rw [ok.hR]; exact hR), hname, ok.hts _ hin⟩ ⟨Pp_blind, fun U hU hW => Pp_start ok hP hD hS is hnd hC (.ref b :: As) U hU hW⟩ rfl hn hl.1 hst (lv_room hcat) hd (by rw [ok.hR]; exact hf)) hP hD hS hl is hC hlen kk
/-- calls of methods whose answer and cells are told by an equation, and that make nothing -/
theorem V_cS (ok : OK g Γ y cc nL ret rm post) {v2 : Option Value} {w2 wn : va_W} (hM : Con g y2 cc2 maxL2 ret2 rm2 As wc (Is v2 w2)) (nA : Nat) (hlink : Cond.methodLink y.cls index y2 ∈ Tw) (hstat : Cond.static y2 ∈ Tw) (hini : Cond.initialized y2.cls ∈ Tw) (hcode : Cond.code y2 cc2 maxL2 ret2 ∈ Tw) (hy : yOK y2 nA) (hR : rm2.frames + 1 ≤ rm.frames ∧ 8 + (maxL2 + 11) + rm2.locals ≤ rm.locals) (hz : rm2.cells = 0 ∧ rm2.slots = 0) (hd : decode cc pc = .ok (.invokestatic index, 3)) (hn : As.length = nA) (hst : st = As.reverse ++ rest) (hcat : (rest.map fun v => v.category).sum ≤ 8) (hf : k ≤ rm.cells ∧ n ≤ rm.slots)
    (is : List Nat) (hnd : va_nd is = true) (hC : is.map (fun i => ws[i]?) = wc.map some) (hlen : is.length ≤ w2.length) (hw : rep ws is w2 = wn)
    (kk : V g Γ nL k n (pc + 3) wn lv (v2.toList ++ rest)) : V g Γ nL k n pc ws lv st := by
  refine V_callS ok hM nA hlink hstat hini hcode hy hR hd hn hst hcat (by rw [hz.1, hz.2]; exact hf) is hnd hC (fun _ _ h => by rw [h.2]; exact hlen) (fun v w h => ?_)
  obtain ⟨rfl, rfl⟩ := h
  rw [hw, hz.1, hz.2]
  exact kk
theorem V_cV (ok : OK g Γ y cc nL ret rm post) {b : Nat} {fs : List Value} {TT : u_T} {NN : Nat} {v2 : Option Value} {w2 wn : va_W} (q0 ci : Nat) (hM : Con g y2 cc2 maxL2 ret2 rm2 (.ref b :: As) wc (Is v2 w2)) (nA : Nat) (hlink : Cond.methodLink y.cls index y2 ∈ Tw) (hin : Cond.instanceMethod y2 ∈ Tw) (hsel : Cond.selects y2.cls y2 y2 ∈ Tw) (hini : Cond.initialized y2.cls ∈ Tw) (hcode : Cond.code y2 cc2 maxL2 ret2 ∈ Tw) (hy : yOK y2 nA) (hR : rm2.frames + 1 ≤ rm.frames ∧ 8 + (maxL2 + 11) + rm2.locals ≤ rm.locals) (hz : rm2.cells = 0 ∧ rm2.slots = 0) (hd : decode cc pc = .ok (.invokevirtual index, 3)) (hcl : vwCl[ci]? = some (y2.cls, TT, NN)) (he : ws[q0]? = some (b, .inr (ci, fs))) (hn : As.length = nA) (hst : st = As.reverse ++ .ref b :: rest) (hcat : (rest.map fun v => v.category).sum ≤ 8) (hf : k ≤ rm.cells ∧ n ≤ rm.slots)
    (is : List Nat) (hnd : va_nd is = true) (hC : is.map (fun i => ws[i]?) = wc.map some) (hlen : is.length ≤ w2.length) (hw : rep ws is w2 = wn)
    (kk : V g Γ nL k n (pc + 3) wn lv (v2.toList ++ rest)) : V g Γ nL k n pc ws lv st := by
  refine V_callV ok (C := y2.cls) q0 ci hM nA hlink hin hsel hini hcode hy hR hd hcl he hn hst hcat (by rw [hz.1, hz.2]; exact hf) is hnd hC (fun _ _ h => by rw [h.2]; exact hlen) (fun v w h => ?_)
  obtain ⟨rfl, rfl⟩ := h
  rw [hw, hz.1, hz.2]
  exact kk
end VCALL
