/-! what a call leaves as it was: all places but those that S names -/
def Fx (S : Nat → Nat → Prop) (h h' : kH) : Prop := ∀ c i, ¬ S c i → h' c i = h c i
theorem Fx.rf {S : Nat → Nat → Prop} {h : kH} : Fx S h h := fun _ _ _ => rfl
theorem Fx.st {S : Nat → Nat → Prop} {h h1 : kH} {c i : Nat} {v : Int} (a : Fx S h h1) (hc : S c i) : Fx S h (kU h1 c i v) := fun d j q => by
  rw [kU_at, if_neg (fun e => q (by rw [e.1, e.2]; exact hc))]; exact a d j q
theorem Fx.cp {S : Nat → Nat → Prop} {h h1 : kH} {c0 c1 sp dp n : Nat} (a : Fx S h h1) (hc : ∀ i, S c1 i) : Fx S h (kCpy h1 c0 c1 sp dp n) := fun d j q => by
  rw [kCpy_at, if_neg (fun e => q (by rw [e.1]; exact hc j))]; exact a d j q
theorem Fx.tr {S S' : Nat → Nat → Prop} {h h1 h2 : kH} (a : Fx S h h1) (b : Fx S' h1 h2) (m : ∀ c i, S' c i → S c i) : Fx S h h2 := fun c i q => (b c i (fun e => q (m c i e))).trans (a c i q)
theorem Fx.cell {S : Nat → Nat → Prop} {h h' : kH} (a : Fx S h h') (c : Nat) (hc : ∀ i, ¬ S c i) : h' c = h c := funext fun i => a c i (hc i)
theorem ringAt2 {q i : Nat} (h : [25, 32, 39, 46, 53, 60, 67, 74, 81, 88, 95, 102, 109, 116, 123, 130][i]? = some q) : q = 25 + 7 * i ∧ i ≤ 15 := by
  have hl := (List.getElem?_eq_some_iff.mp h).1
  have hi : i < 16 := by simpa using hl
  have := (by decide : ∀ i, i < 16 → [25, 32, 39, 46, 53, 60, 67, 74, 81, 88, 95, 102, 109, 116, 123, 130][i]? = some (25 + 7 * i)) i hi
  rw [this] at h
  exact ⟨(Option.some.inj h).symm, by omega⟩
theorem slotAt2 {q i : Nat} (h : [138, 149][i]? = some q) : q = 138 + 11 * i ∧ i ≤ 1 := by
  have hl := (List.getElem?_eq_some_iff.mp h).1
  have hi : i < 2 := by simpa using hl
  have := (by decide : ∀ i, i < 2 → [138, 149][i]? = some (138 + 11 * i)) i hi
  rw [this] at h
  exact ⟨(Option.some.inj h).symm, by omega⟩
