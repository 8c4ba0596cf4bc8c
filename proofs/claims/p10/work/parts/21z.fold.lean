/-! the best of what is looked at one behind another -/
def TLR (P : Nat → Int → Prop) (fr : Nat → Prop) (m0 p0 : Int) : Nat → Int → Int → Prop
  | 0, m, p => m = m0 ∧ p = p0
  | c + 1, m, p => ∃ m1 p1 : Int, TLR P fr m0 p0 c m1 p1 ∧ ((¬ fr (c / 9) ∧ m = m1 ∧ p = p1) ∨ (fr (c / 9) ∧ ∃ v : Int, P c v ∧ ((m1 < v ∧ m = v ∧ p = 10 * ((c / 9 : Nat) : Int) + (((c % 9 : Nat) : Int) + 1)) ∨ (v ≤ m1 ∧ m = m1 ∧ p = p1))))
section Tl
variable {P P' : Nat → Int → Prop} {fr fr' : Nat → Prop} {m0 p0 m0' p0' : Int}
theorem TLR.no {c : Nat} {m p : Int} (a : TLR P fr m0 p0 c m p) (h : ¬ fr (c / 9)) : TLR P fr m0 p0 (c + 1) m p := ⟨m, p, a, Or.inl ⟨h, rfl, rfl⟩⟩
theorem TLR.skip {s : Nat} {m p : Int} (h : ¬ fr s) (a : TLR P fr m0 p0 (9 * s) m p) : TLR P fr m0 p0 (9 * s + 9) m p := by
  have key : ∀ j, j ≤ 9 → TLR P fr m0 p0 (9 * s + j) m p := by
    intro j
    induction j with
    | zero => intro _; exact a
    | succ j ih =>
      intro hj
      have e : (9 * s + j) / 9 = s := by omega
      exact (ih (by omega)).no (by rw [e]; exact h)
  exact key 9 (Nat.le_refl 9)
theorem TLR.skip2 {s j : Nat} {m p : Int} (h : ¬ fr s) (hj : j ≤ 9) (a : TLR P fr m0 p0 (9 * s + j) m p) : TLR P fr m0 p0 (9 * s + 9) m p := by
  have key : ∀ i, j + i ≤ 9 → TLR P fr m0 p0 (9 * s + (j + i)) m p := by
    intro i
    induction i with
    | zero => intro _; exact a
    | succ i ih =>
      intro hi
      have e : (9 * s + (j + i)) / 9 = s := by omega
      exact (ih (by omega)).no (by rw [e]; exact h)
  have := key (9 - j) (by omega)
  rwa [show j + (9 - j) = 9 by omega] at this
theorem TLR.gt {c : Nat} {m p v q : Int} (a : TLR P fr m0 p0 c m p) (h : fr (c / 9)) (hp : P c v) (hv : m < v) (hq : q = 10 * ((c / 9 : Nat) : Int) + (((c % 9 : Nat) : Int) + 1)) : TLR P fr m0 p0 (c + 1) v q := ⟨m, p, a, Or.inr ⟨h, v, hp, Or.inl ⟨hv, rfl, hq⟩⟩⟩
theorem TLR.le {c : Nat} {m p v : Int} (a : TLR P fr m0 p0 c m p) (h : fr (c / 9)) (hp : P c v) (hv : v ≤ m) : TLR P fr m0 p0 (c + 1) m p := ⟨m, p, a, Or.inr ⟨h, v, hp, Or.inr ⟨hv, rfl, rfl⟩⟩⟩
theorem TLR.rel {N : Nat} (hP : ∀ c v v', c < N → fr (c / 9) → P c v → P' c v' → v = v' ∧ -90 ≤ v) (hf : ∀ s, fr s ↔ fr' s) (h0 : m0 < -90) (h0' : m0' < -90) : ∀ {c : Nat} {m p m' p' : Int}, c ≤ N → TLR P fr m0 p0 c m p → TLR P' fr' m0' p0' c m' p' →
    (m = m' ∧ p = p' ∧ -90 ≤ m) ∨ (m = m0 ∧ m' = m0' ∧ ∀ j, j < c → ¬ fr (j / 9)) := by
  intro c
  induction c with
  | zero =>
    intro m p m' p' _ a b
    exact Or.inr ⟨a.1, b.1, fun j hj => absurd hj (by omega)⟩
  | succ c ih =>
    intro m p m' p' hc a b
    obtain ⟨m1, p1, a1, a2⟩ := a
    obtain ⟨m2, p2, b1, b2⟩ := b
    have i := ih (by omega) a1 b1
    rcases a2 with ⟨a3, a4, a5⟩ | ⟨a3, v, a4, a5⟩ <;> rcases b2 with ⟨b3, b4, b5⟩ | ⟨b3, v', b4, b5⟩
    · rw [a4, a5, b4, b5]
      rcases i with i | i
      · exact Or.inl i
      · refine Or.inr ⟨i.1, i.2.1, fun j hj => ?_⟩
        by_cases e : j = c
        · rw [e]; exact a3
        · exact i.2.2 j (by omega)
    · exact absurd ((hf _).2 b3) a3
    · exact absurd ((hf _).1 a3) b3
    · obtain ⟨ev, hv⟩ := hP c v v' (by omega) a3 a4 b4
      subst ev
      rcases i with ⟨i1, i2, i3⟩ | ⟨i1, i2, i3⟩
      · subst i1; subst i2
        rcases a5 with ⟨a5, a6, a7⟩ | ⟨a5, a6, a7⟩ <;> rcases b5 with ⟨b5, b6, b7⟩ | ⟨b5, b6, b7⟩
        · exact Or.inl ⟨by rw [a6, b6], by rw [a7, b7], by omega⟩
        · omega
        · omega
        · exact Or.inl ⟨by rw [a6, b6], by rw [a7, b7], by omega⟩
      · rcases a5 with ⟨a5, a6, a7⟩ | ⟨a5, a6, a7⟩ <;> rcases b5 with ⟨b5, b6, b7⟩ | ⟨b5, b6, b7⟩
        · exact Or.inl ⟨by rw [a6, b6], by rw [a7, b7], by omega⟩
        · omega
        · omega
        · omega
end Tl
/-- a stake that none has -/
def tot (f : Nat → Int) (n : Nat) : Nat → Int
  | 0 => 0
  | s + 1 => tot f n s + cnt f s n
theorem tot_0 (f : Nat → Int) : ∀ s, tot f 0 s = 0 := by
  intro s
  induction s with
  | zero => rfl
  | succ s ih => rw [tot, ih]; rfl
theorem tot_s (f : Nat → Int) (n : Nat) : ∀ s : Nat, tot f (n + 1) s = tot f n s + (if 0 ≤ f n ∧ f n < s then 1 else 0) := by
  intro s
  induction s with
  | zero => rw [tot, tot, if_neg (by omega)]; rfl
  | succ s ih =>
    rw [tot, tot, ih, cnt]
    by_cases h1 : f n = s
    · rw [if_pos h1, if_neg (by omega), if_pos (by omega)]; omega
    · rw [if_neg h1]
      by_cases h2 : 0 ≤ f n ∧ f n < s
      · rw [if_pos h2, if_pos (by omega)]; omega
      · rw [if_neg h2, if_neg (by omega)]; omega
theorem tot_le (f : Nat → Int) : ∀ n s, tot f n s ≤ n := by
  intro n
  induction n with
  | zero => intro s; rw [tot_0]; exact Int.le_refl 0
  | succ n ih =>
    intro s
    have := ih s
    rw [tot_s]
    split <;> omega
theorem tot_ge (f : Nat → Int) (n : Nat) : ∀ s : Nat, (∀ j, j < s → ∃ i, i < n ∧ f i = j) → (s : Int) ≤ tot f n s := by
  intro s
  induction s with
  | zero => intro _; exact Int.le_refl 0
  | succ s ih =>
    intro h
    have h1 := ih (fun j hj => h j (by omega))
    obtain ⟨i, hi, e⟩ := h s (by omega)
    have pos : ∀ m : Nat, i < m → 1 ≤ cnt f s m := by
      intro m
      induction m with
      | zero => intro q; omega
      | succ m ihm =>
        intro q
        rw [cnt]
        have c0 := cnt_le f s m
        by_cases q2 : i = m
        · rw [← q2, if_pos e]; rw [← q2] at c0; omega
        · have := ihm (by omega)
          split <;> omega
    have := pos n hi
    rw [tot]
    omega
theorem free_ex (f : Nat → Int) (n : Nat) : ∃ s, s ≤ n ∧ ∀ i, i < n → f i ≠ (s : Nat) := by
  apply Classical.byContradiction
  intro hno
  have : ∀ j, j < n + 1 → ∃ i, i < n ∧ f i = (j : Nat) := fun j hj => by
    apply Classical.byContradiction
    intro q
    exact hno ⟨j, by omega, fun i hi e => q ⟨i, hi, e⟩⟩
  have h1 := tot_ge f n (n + 1) this
  have h2 := tot_le f n (n + 1)
  omega
