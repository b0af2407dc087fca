/-! what a row holds beyond its length counts for nothing -/
theorem arrV_congr {c : ClassId} {N : Nat} {f h : Nat → Value} (e : ∀ j, j < N → f j = h j) : arrV c N f = arrV c N h := by
  unfold arrV
  congr 1
  congr 1
  funext j
  exact e j.val j.isLt
theorem cpy0 {α : Type} {f h : Nat → α} {n j : Nat} (hj : j < n) : va_cpy f h 0 0 n j = f j := by
  simp [va_cpy, hj]
section VAG
variable {g : Glob} {Γ : Ctx} {nL : Nat} {k n pc : Nat} {ws : va_W} {lv : List (Nat × Value)} {st : List Value}
theorem V_ci {a N : Nat} {c : ClassId} {f f2 : Nat → Int32} {w2 : va_W} (q0 : Nat) (ha : ws[q0]? = some (a, .inl (c, N, .inl f))) (hf : ∀ j, j < N → f j = f2 j) (hw : ws.set q0 (a, .inl (c, N, .inl f2)) = w2) (kk : V g Γ nL k n pc w2 lv st) : V g Γ nL k n pc ws lv st := fun H locs ls hP hD hS hl => by
  refine kk H locs ls ?_ ?_ hS hl
  · rw [← hw]
    refine hP.set hD ha ?_ (fun _ _ => rfl)
    have h1 : H[a]? = some (vp_cell c (N, .inl f)) := hP q0 _ ha
    show H[a]? = some (vp_cell c (N, .inl f2))
    rw [h1]
    exact congrArg some (show arrV c N (fun j => .int (f j)) = arrV c N (fun j => .int (f2 j)) from arrV_congr (fun j hj => by rw [hf j hj]))
  · rw [← hw]; exact hD.set ha
theorem V_cd {a N : Nat} {c : ClassId} {f f2 : Nat → UInt64} {w2 : va_W} (q0 : Nat) (ha : ws[q0]? = some (a, .inl (c, N, .inr (.inr (.inr (.inl f)))))) (hf : ∀ j, j < N → f j = f2 j) (hw : ws.set q0 (a, .inl (c, N, .inr (.inr (.inr (.inl f2))))) = w2) (kk : V g Γ nL k n pc w2 lv st) : V g Γ nL k n pc ws lv st := fun H locs ls hP hD hS hl => by
  refine kk H locs ls ?_ ?_ hS hl
  · rw [← hw]
    refine hP.set hD ha ?_ (fun _ _ => rfl)
    have h1 : H[a]? = some (vp_cell c (N, .inr (.inr (.inr (.inl f))))) := hP q0 _ ha
    show H[a]? = some (vp_cell c (N, .inr (.inr (.inr (.inl f2)))))
    rw [h1]
    exact congrArg some (show arrV c N (fun j => .double (f j)) = arrV c N (fun j => .double (f2 j)) from arrV_congr (fun j hj => by rw [hf j hj]))
  · rw [← hw]; exact hD.set ha
end VAG
