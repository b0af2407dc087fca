/-! the cells of a SurgeLine: now, spare, the ring of four, the counts of refusals, the page -/
def surgeW (g : Glob) (a : Nat → Nat) (now spare : LineSt) (K : Nat → LineSt) (nw sts : Nat) (rf : Nat → Int32) (pg : PageSt) : va_W :=
  (a 0, .inr (2, [.ref (a 1), .ref (a 7), .ref (a 13), .int (nI nw), .int (nI sts), .ref (a 38), .ref (a 39)])) ::
  (lineW g (fun i => a (1 + i)) now ++ (lineW g (fun i => a (7 + i)) spare ++ ((a 13, .inl (cLn g, 4, .inr (.inr (.inr (.inr (fun j => some (a (14 + 6 * j)))))))) ::
  (lineW g (fun i => a (14 + i)) (K 0) ++ (lineW g (fun i => a (20 + i)) (K 1) ++ (lineW g (fun i => a (26 + i)) (K 2) ++ (lineW g (fun i => a (32 + i)) (K 3) ++
  ((a 38, .inl (cI g, 3, .inl rf)) :: pageW g (fun i => a (39 + i)) pg))))))))
def rfJ (why : Int32) : Nat := if why = (-2) then 0 else if why = (-3) then 1 else 2
def rfU (rf : Nat → Int32) (why : Int32) : Nat → Int32 := upd rf (rfJ why) (rf (rfJ why) + nI 1)
def stepB (n : Int32) : Bool := if n < nI 1 then false else if nI 100 < n then false else true
def trialB (n : Int32) : Bool := if n < 0 then false else if nI 100 < n then false else true
def boundB (n : Int32) : Bool := if n < (-9999) then false else if nI 9999 < n then false else true
def timeB (v : Nat → Int32) (n : Int32) : Bool := if nI 999 < v 8 + n then false else true
/-- told: a thousand times, cut -/
def tf (x : UInt64) : Int64 := FP.d2l (FP.dmul 4652007308841189376 x)
theorem tf_n64 {x : UInt64} (h : FP.Core.DFin x) : vf_n64 (FP.dmul 4652007308841189376 x) := n64_isNaN (FP.Core.dmul_out (by rw [← show FP.i2d 1000 = 4652007308841189376 by decide +kernel]; exact FP.Core.i2d_fin _) h)
/-- a new state in the ring -/
def ringU (K : Nat → LineSt) (nw : Nat) (x : LineSt) : Nat → LineSt := vf_upd K ((nw + 1) % 4) x
def stsU (sts : Nat) : Nat := if 4 ≤ sts then sts else sts + 1
/-! calls over the whole world, or over parts laid side by side -/
theorem rep_nil (ws : va_W) : rep ws [] [] = ws := by simp [rep, setAll]
theorem setAll_app : ∀ (i1 : List Nat) (ws w1 : va_W) (i2 : List Nat) (w2 : va_W), i1.length = w1.length → setAll ws (i1 ++ i2) (w1 ++ w2) = setAll (setAll ws i1 w1) i2 w2
  | [], ws, [], i2, w2, _ => by simp [setAll]
  | [], ws, _ :: _, i2, w2, h => by simp at h
  | _ :: _, ws, [], i2, w2, h => by simp at h
  | i :: i1, ws, e :: w1, i2, w2, h => by
    show setAll (ws.set i e) (i1 ++ i2) (w1 ++ w2) = setAll (setAll (ws.set i e) i1 w1) i2 w2
    exact setAll_app i1 (ws.set i e) w1 i2 w2 (by simpa using h)
theorem rep_eq {ws w : va_W} {is : List Nat} (h : is.length = w.length) : rep ws is w = setAll ws is w := by
  unfold rep
  rw [List.drop_eq_nil_of_le (by omega), List.append_nil]
theorem rep_app {ws w1 w2 wa wb : va_W} {i1 i2 : List Nat} (h1 : i1.length = w1.length) (h2 : i2.length = w2.length) (e1 : rep ws i1 w1 = wa) (e2 : rep wa i2 w2 = wb) : rep ws (i1 ++ i2) (w1 ++ w2) = wb := by
  rw [rep_eq (by simp [h1, h2]), setAll_app i1 ws w1 i2 w2 h1, ← rep_eq h1, e1, ← rep_eq h2, e2]
theorem sub_app {ws w1 w2 : va_W} {i1 i2 : List Nat} (e1 : i1.map (fun i => ws[i]?) = w1.map some) (e2 : i2.map (fun i => ws[i]?) = w2.map some) : (i1 ++ i2).map (fun i => ws[i]?) = (w1 ++ w2).map some := by
  rw [List.map_append, List.map_append, e1, e2]
section VCALLW
variable {g : Glob} {Γ : Ctx} {y : MethodName} {cc : ByteArray} {nL : Nat} {ret : Option FieldType} {rm : Room} {post : Option Value → va_W → Prop} {k n pc : Nat} {ws : va_W} {lv : List (Nat × Value)} {st : List Value}
variable {y2 : MethodName} {cc2 : ByteArray} {maxL2 : Nat} {ret2 : Option FieldType} {rm2 : Room} {As : List Value} {post2 : Option Value → va_W → Prop} {index : Nat} {rest : List Value}
theorem V_afterW (ok : OK g Γ y cc nL ret rm post) {H : Heap} {locs : List Loc} {ls : Array Slot} {a : Array Value} {mc ms : Nat} (hr : va_Run (kP Γ) g.1 (kE Γ) (kR Γ) (kS Γ) (kM Γ) (kA Γ) (kB Γ) (kMe Γ) (kC Γ) H locs k n mc ms (F0 (kM Γ) pc ls st) rest (Qp g post2 (va_A ws H.size) a) (va_A ws H.size))
    (hP : va_P g.2.1 vwCl ws H) (hD : va_D (kO Γ) ws) (hS : va_S (kO Γ) (kS Γ).heap H locs) (hl : lv_has ls nL lv)
    (kk : ∀ v w, post2 v w → V g Γ nL (k + mc) (n + ms) (pc + 3) w lv (v.toList ++ rest)) : W (kP Γ) g.1 (kE Γ) (kR Γ) (kS Γ) (kM Γ) (kA Γ) (kB Γ) (kMe Γ) (kC Γ) H locs k n (kQ Γ) (F0 (kM Γ) pc ls st) := by
  intro T hT X
  obtain ⟨v, st₀, t, T', L, h0, X', hL, e1, e2, ⟨⟨r, w, hv, hp, hP1, hD1⟩, hz, hk⟩, stp⟩ := hr T hT X
  cases hv
  rw [h0] at hz hk
  have hF : ∀ q, va_A ws H.size q → kO Γ q := fun q h => by
    rcases h with ⟨c, e, h⟩ | h
    · exact hD.2 c (q, e) h
    · exact ok.hA q (Nat.le_trans hS.1 h)
  rw [← e1] at hz hk hP1
  obtain ⟨t2, a1, b1⟩ := kk v w hp T'.heap (locs ++ L) ls hP1 (hD1.weaken (fun _ q _ h => hF q.1 h)) ⟨Nat.le_trans hS.1 hz, fun q h1 h2 => by rw [hk q (Nat.lt_of_lt_of_le h1 hS.1) (fun z => h2 (hF q z))]; exact hS.2.1 q h1 h2, fun q hq => by
      rcases List.mem_append.mp hq with h | h
      · exact hS.2.2 q h
      · exact hF _ (hL q h)⟩ hl T' rfl X'
  exact ⟨t2, stp t2 a1, b1⟩
theorem Pp_startW (ok : OK g Γ y cc nL ret rm post) {H : Heap} {locs : List Loc} (hP : va_P g.2.1 vwCl ws H) (hD : va_D (kO Γ) ws) (hS : va_S (kO Γ) (kS Γ).heap H locs) (av : List Value) (U : State) (hU : U.heap = H) (hW : (kS Γ).WarmedH U.vm) : Pp g ws av H.size av.toArray U := by
  refine ⟨rfl, by rw [hU], by rw [hU]; exact hP, va_K.moved hW.alike ok.hK, hD.weaken (fun _ _ _ _ => trivial), ?_⟩
  rw [hU]
  refine SP.moved hW.alike ((SP.kept ok.hSP hS.1 hS.2.1).narrow (fun q h => ?_))
  rcases h with ⟨c, e, h⟩ | h
  · exact hD.2 c (q, e) h
  · exact ok.hA q (Nat.le_trans hS.1 h)
theorem V_cW (ok : OK g Γ y cc nL ret rm post) {b : Nat} {fs : List Value} {TT : u_T} {NN : Nat} {v2 : Option Value} {w2 : va_W} (q0 ci : Nat) (hM : Con g y2 cc2 maxL2 ret2 rm2 (.ref b :: As) ws (Is v2 w2)) (nA : Nat) (hlink : Cond.methodLink y.cls index y2 ∈ Tw) (hin : Cond.instanceMethod y2 ∈ Tw) (hsel : Cond.selects y2.cls y2 y2 ∈ Tw) (hini : Cond.initialized y2.cls ∈ Tw) (hcode : Cond.code y2 cc2 maxL2 ret2 ∈ Tw) (hy : yOK y2 nA) (hR : rm2.frames + 1 ≤ rm.frames ∧ 8 + (maxL2 + 11) + rm2.locals ≤ rm.locals) (hz : rm2.cells = 0 ∧ rm2.slots = 0) (hd : decode cc pc = .ok (.invokevirtual index, 3)) (hcl : vwCl[ci]? = some (y2.cls, TT, NN)) (he : ws[q0]? = some (b, .inr (ci, fs))) (hn : As.length = nA) (hst : st = As.reverse ++ .ref b :: rest) (hcat : (rest.map fun v => v.category).sum ≤ 8) (hf : k ≤ rm.cells ∧ n ≤ rm.slots)
    (kk : V g Γ nL k n (pc + 3) w2 lv (v2.toList ++ rest)) : V g Γ nL k n pc ws lv st := fun H locs ls hP hD hS hl => by
  refine V_afterW ok (va_runV (C := y2.cls) (b := b) (As := As) (rest := rest) ⟨ok.hx, ok.hb, ok.hml, ok.hown, ok.hts⟩ (hM H.size) ⟨callB_of nA ok.hts (tw_gi hcode) rfl rfl rfl (ok.hts _ hini) (ok.hts _ hlink) hy (by rw [ok.hR]; exact hR), ok.hts _ hin, ok.hts _ hsel⟩ ⟨Pp_blind, va_recv ok.hK hP hcl he, fun U hU hW => Pp_startW ok hP hD hS (.ref b :: As) U hU hW⟩ rfl hn hl.1 hst (lv_room hcat) hd (by rw [ok.hR, hz.1, hz.2]; exact hf)) hP hD hS hl (fun v w h => ?_)
  obtain ⟨rfl, rfl⟩ := h
  rw [hz.1, hz.2]
  exact kk
end VCALLW
/-! the cells of a SurgeLine by their places -/
def slN (b : Nat) : List Nat := [b, b + 1, b + 2, b + 3, b + 4, b + 5]
section SG
variable {g : Glob} {a : Nat → Nat} {now spare : LineSt} {K : Nat → LineSt} {nw sts : Nat} {rf : Nat → Int32} {pg : PageSt}
theorem sg_at0 : (surgeW g a now spare K nw sts rf pg)[0]? = some (a 0, .inr (2, [.ref (a 1), .ref (a 7), .ref (a 13), .int (nI nw), .int (nI sts), .ref (a 38), .ref (a 39)])) := rfl
theorem sg_at1 : (surgeW g a now spare K nw sts rf pg)[1]? = some (a 1, .inr (0, [.ref (a 2), .ref (a 3), .ref (a 4), .ref (a 5), .ref (a 6), .double now.2.2.2.2.2.1, .double now.2.2.2.2.2.2.1, .double now.2.2.2.2.2.2.2])) := rfl
theorem sg_at2 : (surgeW g a now spare K nw sts rf pg)[2]? = some (a 2, .inl (cI g, 9, .inl now.1)) := rfl
theorem sg_at3 : (surgeW g a now spare K nw sts rf pg)[3]? = some (a 3, .inl (cD g, 11, .inr (.inr (.inr (.inl now.2.1))))) := rfl
theorem sg_at4 : (surgeW g a now spare K nw sts rf pg)[4]? = some (a 4, .inl (cD g, 11, .inr (.inr (.inr (.inl now.2.2.1))))) := rfl
theorem sg_at5 : (surgeW g a now spare K nw sts rf pg)[5]? = some (a 5, .inl (cD g, 11, .inr (.inr (.inr (.inl now.2.2.2.1))))) := rfl
theorem sg_at6 : (surgeW g a now spare K nw sts rf pg)[6]? = some (a 6, .inl (cD g, 11, .inr (.inr (.inr (.inl now.2.2.2.2.1))))) := rfl
theorem sg_at7 : (surgeW g a now spare K nw sts rf pg)[7]? = some (a 7, .inr (0, [.ref (a 8), .ref (a 9), .ref (a 10), .ref (a 11), .ref (a 12), .double spare.2.2.2.2.2.1, .double spare.2.2.2.2.2.2.1, .double spare.2.2.2.2.2.2.2])) := rfl
theorem sg_at8 : (surgeW g a now spare K nw sts rf pg)[8]? = some (a 8, .inl (cI g, 9, .inl spare.1)) := rfl
theorem sg_at9 : (surgeW g a now spare K nw sts rf pg)[9]? = some (a 9, .inl (cD g, 11, .inr (.inr (.inr (.inl spare.2.1))))) := rfl
theorem sg_at10 : (surgeW g a now spare K nw sts rf pg)[10]? = some (a 10, .inl (cD g, 11, .inr (.inr (.inr (.inl spare.2.2.1))))) := rfl
theorem sg_at11 : (surgeW g a now spare K nw sts rf pg)[11]? = some (a 11, .inl (cD g, 11, .inr (.inr (.inr (.inl spare.2.2.2.1))))) := rfl
theorem sg_at12 : (surgeW g a now spare K nw sts rf pg)[12]? = some (a 12, .inl (cD g, 11, .inr (.inr (.inr (.inl spare.2.2.2.2.1))))) := rfl
theorem sg_at13 : (surgeW g a now spare K nw sts rf pg)[13]? = some (a 13, .inl (cLn g, 4, .inr (.inr (.inr (.inr (fun j => some (a (14 + 6 * j)))))))) := rfl
theorem sg_at14 : (surgeW g a now spare K nw sts rf pg)[14]? = some (a 14, .inr (0, [.ref (a 15), .ref (a 16), .ref (a 17), .ref (a 18), .ref (a 19), .double (K 0).2.2.2.2.2.1, .double (K 0).2.2.2.2.2.2.1, .double (K 0).2.2.2.2.2.2.2])) := rfl
theorem sg_at15 : (surgeW g a now spare K nw sts rf pg)[15]? = some (a 15, .inl (cI g, 9, .inl (K 0).1)) := rfl
theorem sg_at16 : (surgeW g a now spare K nw sts rf pg)[16]? = some (a 16, .inl (cD g, 11, .inr (.inr (.inr (.inl (K 0).2.1))))) := rfl
theorem sg_at17 : (surgeW g a now spare K nw sts rf pg)[17]? = some (a 17, .inl (cD g, 11, .inr (.inr (.inr (.inl (K 0).2.2.1))))) := rfl
theorem sg_at18 : (surgeW g a now spare K nw sts rf pg)[18]? = some (a 18, .inl (cD g, 11, .inr (.inr (.inr (.inl (K 0).2.2.2.1))))) := rfl
theorem sg_at19 : (surgeW g a now spare K nw sts rf pg)[19]? = some (a 19, .inl (cD g, 11, .inr (.inr (.inr (.inl (K 0).2.2.2.2.1))))) := rfl
theorem sg_at20 : (surgeW g a now spare K nw sts rf pg)[20]? = some (a 20, .inr (0, [.ref (a 21), .ref (a 22), .ref (a 23), .ref (a 24), .ref (a 25), .double (K 1).2.2.2.2.2.1, .double (K 1).2.2.2.2.2.2.1, .double (K 1).2.2.2.2.2.2.2])) := rfl
theorem sg_at21 : (surgeW g a now spare K nw sts rf pg)[21]? = some (a 21, .inl (cI g, 9, .inl (K 1).1)) := rfl
theorem sg_at22 : (surgeW g a now spare K nw sts rf pg)[22]? = some (a 22, .inl (cD g, 11, .inr (.inr (.inr (.inl (K 1).2.1))))) := rfl
theorem sg_at23 : (surgeW g a now spare K nw sts rf pg)[23]? = some (a 23, .inl (cD g, 11, .inr (.inr (.inr (.inl (K 1).2.2.1))))) := rfl
theorem sg_at24 : (surgeW g a now spare K nw sts rf pg)[24]? = some (a 24, .inl (cD g, 11, .inr (.inr (.inr (.inl (K 1).2.2.2.1))))) := rfl
theorem sg_at25 : (surgeW g a now spare K nw sts rf pg)[25]? = some (a 25, .inl (cD g, 11, .inr (.inr (.inr (.inl (K 1).2.2.2.2.1))))) := rfl
theorem sg_at26 : (surgeW g a now spare K nw sts rf pg)[26]? = some (a 26, .inr (0, [.ref (a 27), .ref (a 28), .ref (a 29), .ref (a 30), .ref (a 31), .double (K 2).2.2.2.2.2.1, .double (K 2).2.2.2.2.2.2.1, .double (K 2).2.2.2.2.2.2.2])) := rfl
theorem sg_at27 : (surgeW g a now spare K nw sts rf pg)[27]? = some (a 27, .inl (cI g, 9, .inl (K 2).1)) := rfl
theorem sg_at28 : (surgeW g a now spare K nw sts rf pg)[28]? = some (a 28, .inl (cD g, 11, .inr (.inr (.inr (.inl (K 2).2.1))))) := rfl
theorem sg_at29 : (surgeW g a now spare K nw sts rf pg)[29]? = some (a 29, .inl (cD g, 11, .inr (.inr (.inr (.inl (K 2).2.2.1))))) := rfl
theorem sg_at30 : (surgeW g a now spare K nw sts rf pg)[30]? = some (a 30, .inl (cD g, 11, .inr (.inr (.inr (.inl (K 2).2.2.2.1))))) := rfl
theorem sg_at31 : (surgeW g a now spare K nw sts rf pg)[31]? = some (a 31, .inl (cD g, 11, .inr (.inr (.inr (.inl (K 2).2.2.2.2.1))))) := rfl
theorem sg_at32 : (surgeW g a now spare K nw sts rf pg)[32]? = some (a 32, .inr (0, [.ref (a 33), .ref (a 34), .ref (a 35), .ref (a 36), .ref (a 37), .double (K 3).2.2.2.2.2.1, .double (K 3).2.2.2.2.2.2.1, .double (K 3).2.2.2.2.2.2.2])) := rfl
theorem sg_at33 : (surgeW g a now spare K nw sts rf pg)[33]? = some (a 33, .inl (cI g, 9, .inl (K 3).1)) := rfl
theorem sg_at34 : (surgeW g a now spare K nw sts rf pg)[34]? = some (a 34, .inl (cD g, 11, .inr (.inr (.inr (.inl (K 3).2.1))))) := rfl
theorem sg_at35 : (surgeW g a now spare K nw sts rf pg)[35]? = some (a 35, .inl (cD g, 11, .inr (.inr (.inr (.inl (K 3).2.2.1))))) := rfl
theorem sg_at36 : (surgeW g a now spare K nw sts rf pg)[36]? = some (a 36, .inl (cD g, 11, .inr (.inr (.inr (.inl (K 3).2.2.2.1))))) := rfl
theorem sg_at37 : (surgeW g a now spare K nw sts rf pg)[37]? = some (a 37, .inl (cD g, 11, .inr (.inr (.inr (.inl (K 3).2.2.2.2.1))))) := rfl
theorem sg_at38 : (surgeW g a now spare K nw sts rf pg)[38]? = some (a 38, .inl (cI g, 3, .inl rf)) := rfl
theorem sg_at39 : (surgeW g a now spare K nw sts rf pg)[39]? = some (a 39, .inr (1, [.ref (a 40), .int (nI pg.2.1), .int (nI pg.2.2.1), .int pg.2.2.2.1, .int pg.2.2.2.2.1, .int pg.2.2.2.2.2.1, .int (nI pg.2.2.2.2.2.2.1), .int pg.2.2.2.2.2.2.2])) := rfl
theorem sg_at40 : (surgeW g a now spare K nw sts rf pg)[40]? = some (a 40, .inl (cB g, 100, .inl pg.1)) := rfl
theorem sg_sub_1 : (slN 1).map (fun i => (surgeW g a now spare K nw sts rf pg)[i]?) = (lineW g (fun i => a (1 + i)) now).map some := rfl
theorem sg_rep_1 {x : LineSt} : rep (surgeW g a now spare K nw sts rf pg) (slN 1) (lineW g (fun i => a (1 + i)) x) = surgeW g a x spare K nw sts rf pg := rfl
theorem sg_sub_7 : (slN 7).map (fun i => (surgeW g a now spare K nw sts rf pg)[i]?) = (lineW g (fun i => a (7 + i)) spare).map some := rfl
theorem sg_rep_7 {x : LineSt} : rep (surgeW g a now spare K nw sts rf pg) (slN 7) (lineW g (fun i => a (7 + i)) x) = surgeW g a now x K nw sts rf pg := rfl
theorem sg_sub_14 : (slN 14).map (fun i => (surgeW g a now spare K nw sts rf pg)[i]?) = (lineW g (fun i => a (14 + i)) (K 0)).map some := rfl
theorem sg_rep_14 {x : LineSt} : rep (surgeW g a now spare K nw sts rf pg) (slN 14) (lineW g (fun i => a (14 + i)) x) = surgeW g a now spare (vf_upd K 0 x) nw sts rf pg := rfl
theorem sg_rep_14_id : rep (surgeW g a now spare K nw sts rf pg) (slN 14) (lineW g (fun i => a (14 + i)) (K 0)) = surgeW g a now spare K nw sts rf pg := rfl
theorem sg_sub_20 : (slN 20).map (fun i => (surgeW g a now spare K nw sts rf pg)[i]?) = (lineW g (fun i => a (20 + i)) (K 1)).map some := rfl
theorem sg_rep_20 {x : LineSt} : rep (surgeW g a now spare K nw sts rf pg) (slN 20) (lineW g (fun i => a (20 + i)) x) = surgeW g a now spare (vf_upd K 1 x) nw sts rf pg := rfl
theorem sg_rep_20_id : rep (surgeW g a now spare K nw sts rf pg) (slN 20) (lineW g (fun i => a (20 + i)) (K 1)) = surgeW g a now spare K nw sts rf pg := rfl
theorem sg_sub_26 : (slN 26).map (fun i => (surgeW g a now spare K nw sts rf pg)[i]?) = (lineW g (fun i => a (26 + i)) (K 2)).map some := rfl
theorem sg_rep_26 {x : LineSt} : rep (surgeW g a now spare K nw sts rf pg) (slN 26) (lineW g (fun i => a (26 + i)) x) = surgeW g a now spare (vf_upd K 2 x) nw sts rf pg := rfl
theorem sg_rep_26_id : rep (surgeW g a now spare K nw sts rf pg) (slN 26) (lineW g (fun i => a (26 + i)) (K 2)) = surgeW g a now spare K nw sts rf pg := rfl
theorem sg_sub_32 : (slN 32).map (fun i => (surgeW g a now spare K nw sts rf pg)[i]?) = (lineW g (fun i => a (32 + i)) (K 3)).map some := rfl
theorem sg_rep_32 {x : LineSt} : rep (surgeW g a now spare K nw sts rf pg) (slN 32) (lineW g (fun i => a (32 + i)) x) = surgeW g a now spare (vf_upd K 3 x) nw sts rf pg := rfl
theorem sg_rep_32_id : rep (surgeW g a now spare K nw sts rf pg) (slN 32) (lineW g (fun i => a (32 + i)) (K 3)) = surgeW g a now spare K nw sts rf pg := rfl
theorem sg_sub_39 : [39, 40].map (fun i => (surgeW g a now spare K nw sts rf pg)[i]?) = (pageW g (fun i => a (39 + i)) pg).map some := rfl
theorem sg_rep_39 {q : PageSt} : rep (surgeW g a now spare K nw sts rf pg) [39, 40] (pageW g (fun i => a (39 + i)) q) = surgeW g a now spare K nw sts rf q := rfl
theorem sg_set_nw {m : Nat} : (surgeW g a now spare K nw sts rf pg).set 0 (a 0, .inr (2, ([.ref (a 1), .ref (a 7), .ref (a 13), .int (nI nw), .int (nI sts), .ref (a 38), .ref (a 39)] : List Value).set 3 (.int (nI m)))) = surgeW g a now spare K m sts rf pg := rfl
theorem sg_set_sts {m : Nat} : (surgeW g a now spare K nw sts rf pg).set 0 (a 0, .inr (2, ([.ref (a 1), .ref (a 7), .ref (a 13), .int (nI nw), .int (nI sts), .ref (a 38), .ref (a 39)] : List Value).set 4 (.int (nI m)))) = surgeW g a now spare K nw m rf pg := rfl
theorem sg_set_rf {f : Nat → Int32} : (surgeW g a now spare K nw sts rf pg).set 38 (a 38, .inl (cI g, 3, .inl f)) = surgeW g a now spare K nw sts f pg := rfl
theorem sg_set_len {m : Nat} : (surgeW g a now spare K nw sts rf pg).set 39 (a 39, .inr (1, ([.ref (a 40), .int (nI pg.2.1), .int (nI pg.2.2.1), .int pg.2.2.2.1, .int pg.2.2.2.2.1, .int pg.2.2.2.2.2.1, .int (nI pg.2.2.2.2.2.2.1), .int pg.2.2.2.2.2.2.2] : List Value).set 1 (.int (nI m)))) = surgeW g a now spare K nw sts rf (pg.1, m, pg.2.2) := rfl
end SG
