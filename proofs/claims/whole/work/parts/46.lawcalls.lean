section VLAW
variable {g : Glob} {Γ : Ctx} {y : MethodName} {cc : ByteArray} {nL : Nat} {ret : Option FieldType} {rm : Room} {post : Option Value → va_W → Prop} {k n pc : Nat} {lv : List (Nat × Value)} {st : List Value}
variable {y2 : MethodName} {cc2 : ByteArray} {maxL2 : Nat} {ret2 : Option FieldType} {rm2 : Room} {As : List Value} {post2 : Option Value → va_W → Prop} {index : Nat} {rest : List Value}
theorem surge_len {g : Glob} {a : Nat → Nat} {now spare : LineSt} {K : Nat → LineSt} {nw sts : Nat} {rf : Nat → Int32} {pg : PageSt} : (surgeW g a now spare K nw sts rf pg).length = 41 := rfl
/-- a call on the SurgeLine -/
theorem V_lx (ok : OK g Γ y cc nL ret rm post) {a : Nat → Nat} {now spare now2 spare2 : LineSt} {K K2 : Nat → LineSt} {nw sts nw2 sts2 : Nat} {rf rf2 : Nat → Int32} {pg pg2 : PageSt} {M : va_W} {TT : u_T} {NN : Nat} {v2 : Option Value} (hM : Con g y2 cc2 maxL2 ret2 rm2 (.ref (a 0) :: As) (surgeW g a now spare K nw sts rf pg) (Is v2 (surgeW g a now2 spare2 K2 nw2 sts2 rf2 pg2))) (nA : Nat) (hlink : Cond.methodLink y.cls index y2 ∈ Tw) (hin : Cond.instanceMethod y2 ∈ Tw) (hsel : Cond.selects y2.cls y2 y2 ∈ Tw) (hini : Cond.initialized y2.cls ∈ Tw) (hcode : Cond.code y2 cc2 maxL2 ret2 ∈ Tw) (hy : yOK y2 nA) (hR : rm2.frames + 1 ≤ rm.frames ∧ 8 + (maxL2 + 11) + rm2.locals ≤ rm.locals) (hz : rm2.cells = 0 ∧ rm2.slots = 0) (hd : decode cc pc = .ok (.invokevirtual index, 3)) (hcl : vwCl[2]? = some (y2.cls, TT, NN)) (hn : As.length = nA) (hst : st = As.reverse ++ .ref (a 0) :: rest) (hcat : (rest.map fun v => v.category).sum ≤ 8) (hf : k ≤ rm.cells ∧ n ≤ rm.slots)
    (kk : V g Γ nL k n (pc + 3) (surgeW g a now2 spare2 K2 nw2 sts2 rf2 pg2 ++ M) lv (v2.toList ++ rest)) : V g Γ nL k n pc (surgeW g a now spare K nw sts rf pg ++ M) lv st :=
  V_cV ok 0 2 hM nA hlink hin hsel hini hcode hy hR hz hd hcl rfl hn hst hcat hf (List.range' 0 41) (by decide) (sub_L surge_len) (by rw [List.length_range', surge_len]; exact Nat.le_refl _) (rep_L surge_len surge_len) kk
/-- a call on the reference -/
theorem V_lm (ok : OK g Γ y cc nL ret rm post) {S W3 : va_W} {h3 : Nat} {fs : List Value} {TT : u_T} {NN : Nat} (hS : S.length = 41) (hW : W3.length = 12) (hW0 : W3[0]? = some (h3, .inr (3, fs))) (hM : Con g y2 cc2 maxL2 ret2 rm2 (.ref h3 :: As) W3 post2) (nA : Nat) (hlink : Cond.methodLink y.cls index y2 ∈ Tw) (hin : Cond.instanceMethod y2 ∈ Tw) (hsel : Cond.selects y2.cls y2 y2 ∈ Tw) (hini : Cond.initialized y2.cls ∈ Tw) (hcode : Cond.code y2 cc2 maxL2 ret2 ∈ Tw) (hy : yOK y2 nA) (hR : rm2.frames + 1 ≤ rm.frames ∧ 8 + (maxL2 + 11) + rm2.locals ≤ rm.locals) (hz : rm2.cells = 0 ∧ rm2.slots = 0) (hd : decode cc pc = .ok (.invokevirtual index, 3)) (hcl : vwCl[3]? = some (y2.cls, TT, NN)) (hn : As.length = nA) (hst : st = As.reverse ++ .ref h3 :: rest) (hcat : (rest.map fun v => v.category).sum ≤ 8) (hf : k ≤ rm.cells ∧ n ≤ rm.slots) (hlen : ∀ v w, post2 v w → w.length = 12)
    (kk : ∀ v w, post2 v w → V g Γ nL k n (pc + 3) (S ++ w) lv (v.toList ++ rest)) : V g Γ nL k n pc (S ++ W3) lv st := by
  refine V_callV ok (C := y2.cls) 41 3 hM nA hlink hin hsel hini hcode hy hR hd hcl (by rw [List.getElem?_append_right (by omega), hS]; exact hW0) hn hst hcat (by rw [hz.1, hz.2]; exact hf) (List.range' 41 12) (by decide) (sub_R hS hW) (fun v w h => by rw [List.length_range', hlen v w h]; exact Nat.le_refl _) (fun v w h => ?_)
  rw [rep_R hS hW (hlen v w h), hz.1, hz.2]
  exact kk v w h
end VLAW
theorem wi_nat {q : Int32} {lo hi : Nat} (h : wiB q (nI lo) (nI hi) = true) (hh : hi < 2 ^ 31) (hl : lo < 2 ^ 31 := by decide) : ∃ j, q = nI j ∧ lo ≤ j ∧ j ≤ hi := by
  obtain ⟨h1, h2⟩ := wiB_iff.mp h
  rw [Int32.lt_iff_toInt_lt, nI_toInt hl] at h1
  rw [Int32.lt_iff_toInt_lt, nI_toInt hh] at h2
  refine ⟨q.toInt.toNat, ?_, by omega, by omega⟩
  apply Int32.toInt_inj.mp
  rw [nI_toInt (by omega)]
  omega
theorem wi_not {q : Int32} {lo hi : Nat} (h : ¬ wiB q (nI lo) (nI hi) = true) : q < nI lo ∨ nI hi < q := by
  by_cases h1 : q < nI lo
  · exact Or.inl h1
  · by_cases h2 : nI hi < q
    · exact Or.inr h2
    · exact absurd (wiB_iff.mpr ⟨h1, h2⟩) h
theorem set_in {q u : Int32} (h : setB q u = true) : ∃ j, q = nI j ∧ j ≤ 2 := by
  unfold setB at h
  split at h
  · exact ⟨0, ‹_›, by decide⟩
  · split at h
    · exact ⟨1, ‹_›, by decide⟩
    · split at h
      · exact ⟨2, ‹_›, by decide⟩
      · cases h
theorem end_in {q u : Int32} (h : endB q u = true) : ∃ j, q = nI j ∧ j ≤ 1 := by
  unfold endB at h
  split at h
  · exact ⟨0, ‹_›, by decide⟩
  · split at h
    · exact ⟨1, ‹_›, by decide⟩
    · cases h
theorem byte_c {c : Nat} (h : c ≤ 127) : vp_nar .byte (nI c).toInt8.toInt32 = nI c := by
  have e : ∀ c : Fin 128, vp_nar .byte (nI c.val).toInt8.toInt32 = nI c.val := by decide +kernel
  exact e ⟨c, by omega⟩
