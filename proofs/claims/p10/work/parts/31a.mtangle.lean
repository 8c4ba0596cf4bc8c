/-! the reference's tangles -/
theorem pcI_8 {x : Int} (h0 : 0 ≤ x) (h1 : x ≤ 255) : pcI x = pcB x 8 := by
  rw [pcB_ok h0 (by omega), pcB_sm, pcB_sm, show (24 : Nat) = 8 + 16 by rfl]
  refine sm_cut (fun j p q => ind_f ?_)
  obtain ⟨n, rfl⟩ := Int.eq_ofNat_of_zero_le h0
  rw [tb_n n (by omega) j (by omega)]
  have : n / 2 ^ j = 0 := Nat.div_eq_of_lt (Nat.lt_of_lt_of_le (show n < 2 ^ 8 by omega) (Nat.pow_le_pow_right (by omega) p))
  rw [this]
  omega
def LSi (M : Nat → Nat → Prop) (s a b : Int) : Prop := ∀ i j : Nat, j < i → ((i : Int) < a ∨ ((i : Int) = a ∧ (j : Int) < b)) → ¬ (tb s i = false ∧ tb s j = false ∧ M i j)
section Lsi
variable {M : Nat → Nat → Prop} {s a b : Int}
theorem LSi.z : LSi M s 0 0 := fun i j h q => by omega
theorem LSi.next (c : LSi M s a b) (hb : a ≤ b) : LSi M s (a + 1) 0 := fun i j h q => c i j h (by omega)
theorem LSi.back (c : LSi M s (a + 1) 0) (hb : a ≤ b) : LSi M s a b := fun i j h q => c i j h (by omega)
theorem LSi.st (c : LSi M s a b) (hn : ¬ (tb s a = false ∧ tb s b = false ∧ M a.toNat b.toNat)) : LSi M s a (b + 1) := fun i j h q => by
  by_cases e : (i : Int) = a ∧ (j : Int) = b
  · have e1 : a.toNat = i := by omega
    have e2 : b.toNat = j := by omega
    rw [← e.1, ← e.2, Int.toNat_natCast, Int.toNat_natCast] at hn
    exact hn
  · exact c i j h (by omega)
theorem LSi.less (c : LSi M s a (b + 1)) : LSi M s a b := fun i j h q => c i j h (by omega)
theorem LSi.bad (h0 : 0 ≤ b ∧ b < a) (hn : tb s a = false ∧ tb s b = false ∧ M a.toNat b.toNat) : ¬ LSi M s a (b + 1) := fun c => by
  refine c a.toNat b.toNat (by omega) (by omega) ?_
  rw [show ((a.toNat : Nat) : Int) = a by omega, show ((b.toNat : Nat) : Int) = b by omega]
  exact hn
theorem LSi.end {n : Int} (sy : ∀ i j : Nat, (i : Int) < n → (j : Int) < n → i ≠ j → M i j → M j i) : LSi M s n 0 ↔ LSt M n s := by
  constructor
  · intro c i j hi hj hne p q r
    rcases Nat.lt_or_gt_of_ne hne with e | e
    · exact c j i e (by omega) ⟨q, p, sy i j hi hj hne r⟩
    · exact c i j e (by omega) ⟨p, q, r⟩
  · intro c i j h q r
    exact c i j (by omega) (by omega) (by omega) r.1 r.2.1 r.2.2
end Lsi
/-- the fewest, as the reference finds it -/
def MWc (L : Int → Prop) (z c : Int) : Prop := (z = -9 ∧ ∀ s : Int, 0 ≤ s → s < c → ¬ L s) ∨ ((0 ≤ z ∧ z < c) ∧ L z ∧ (∀ s : Int, 0 ≤ s → s < c → L s → pcI z ≤ pcI s) ∧ ∀ s : Int, 0 ≤ s → s < z → L s → pcI z < pcI s)
theorem MWc.z {L : Int → Prop} : MWc L (-9) 0 := Or.inl ⟨rfl, fun s p q => absurd q (by omega)⟩
theorem MWc.no {L : Int → Prop} {z c : Int} (a : MWc L z c) (hn : L c → z ≠ -9 ∧ pcI z ≤ pcI c) : MWc L z (c + 1) := by
  rcases a with ⟨a1, a2⟩ | ⟨a1, a2, a3, a4⟩
  · refine Or.inl ⟨a1, fun s p q r => ?_⟩
    by_cases e : s = c
    · subst e; exact (hn r).1 a1
    · exact a2 s p (by omega) r
  · refine Or.inr ⟨by omega, a2, fun s p q r => ?_, a4⟩
    by_cases e : s = c
    · subst e; exact (hn r).2
    · exact a3 s p (by omega) r
theorem MWc.yes {L : Int → Prop} {z c : Int} (a : MWc L z c) (h0 : 0 ≤ c) (hl : L c) (hp : z = -9 ∨ pcI c < pcI z) : MWc L c (c + 1) := by
  rcases a with ⟨a1, a2⟩ | ⟨a1, a2, a3, a4⟩
  · refine Or.inr ⟨by omega, hl, fun s p q r => ?_, fun s p q r => absurd r (a2 s p q)⟩
    by_cases e : s = c
    · subst e; exact Int.le_refl _
    · exact absurd r (a2 s p (by omega))
  · have hp2 : pcI c < pcI z := by rcases hp with e | e; omega; exact e
    refine Or.inr ⟨by omega, hl, fun s p q r => ?_, fun s p q r => ?_⟩
    · by_cases e : s = c
      · subst e; exact Int.le_refl _
      · have := a3 s p (by omega) r; omega
    · have := a3 s p q r; omega
theorem FW_rel {L L' : Int → Prop} {k : Nat} (hk : k < 9) {z z' : Int} (e : ∀ s : Int, 0 ≤ s → s < ((2 ^ k : Nat) : Int) → (L s ↔ L' s)) (a : FWc L ((2 ^ k : Nat) - 1 : Int) z ((2 ^ k : Nat) : Int)) (b : MWc L' z' ((2 ^ k : Nat) : Int)) : z = z' := by
  obtain ⟨a1, a2, a3, a4⟩ := a
  rcases b with ⟨b1, b2⟩ | ⟨b1, b2, b3, b4⟩
  · exact absurd ((e z (by omega) (by omega)).1 a2) (b2 z (by omega) (by omega))
  · have l1 : L z' := (e z' (by omega) (by omega)).2 b2
    have l2 : L' z := (e z (by omega) (by omega)).1 a2
    have p1 := a3 z' (by omega) (by omega) l1
    have p2 := b3 z (by omega) (by omega) l2
    rcases a4 with ⟨c1, c2⟩ | ⟨c1, c2⟩
    · have q := all_pc k hk
      by_cases d : z' = z
      · exact d.symm
      · have hz : z'.toNat < 2 ^ k - 1 := by omega
        have q2 := q.2 z'.toNat hz
        have e1 : pcI z = k := by
          unfold pcI
          rw [show z.toNat = 2 ^ k - 1 by omega, q.1]
        have e2 : pcI z' = ((pcN z'.toNat : Nat) : Int) := rfl
        omega
    · rcases Int.lt_trichotomy z z' with d | d | d
      · have := b4 z (by omega) d l2; omega
      · exact d
      · have := c2 z' (by omega) d l1; omega
