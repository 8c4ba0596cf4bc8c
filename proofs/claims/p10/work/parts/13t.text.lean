/-! which byte may stand at a place of the text; the first fault -/
def prI (b : Nat → Int) (x : Int) : Int := 10 * (b x.toNat - 48) + (b (x + 1).toNat - 48)
def frS (b : Nat → Int) (p s : Int) : Prop := (0 ≤ s ∧ s ≤ 40) ∧ ∀ e : Int, 0 ≤ e → e < p → prI b (10 + e * 8 + 2) ≠ s
/-- a stake with these tens is free -/
def hfS (b : Nat → Int) (p t : Int) : Prop := ∃ o : Int, (0 ≤ o ∧ o ≤ 9) ∧ frS b p (10 * t + o)
def mayR (b : Nat → Int) (p x r : Int) : Prop :=
  (r = 0 → b x.toNat = 75) ∧ (r = 1 → 0 ≤ b x.toNat - 48 ∧ b x.toNat - 48 ≤ 1) ∧
  (r = 2 → (0 ≤ b x.toNat - 48 ∧ b x.toNat - 48 ≤ 4) ∧ hfS b p (b x.toNat - 48)) ∧
  (r = 3 → (0 ≤ b x.toNat - 48 ∧ b x.toNat - 48 ≤ 9) ∧ frS b p (prI b (x - 1))) ∧
  (r = 4 → 0 ≤ b x.toNat - 48 ∧ b x.toNat - 48 ≤ 4) ∧
  (r = 5 → (0 ≤ b x.toNat - 48 ∧ b x.toNat - 48 ≤ 9) ∧ prI b (x - 1) ≤ 40) ∧
  (r = 6 → 1 ≤ b x.toNat - 48 ∧ b x.toNat - 48 ≤ 9) ∧ (r = 7 → 0 ≤ b x.toNat - 48 ∧ b x.toNat - 48 ≤ 9)
def mayS (b : Nat → Int) (x : Int) : Prop :=
  (x = 0 → b x.toNat = 87) ∧ (1 ≤ x → x < 10 → 0 ≤ b x.toNat - 48 ∧ b x.toNat - 48 ≤ 6) ∧ (10 ≤ x → mayR b ((x - 10) / 8) x ((x - 10) % 8))
section May
variable {b : Nat → Int} {x : Int}
theorem mayS_0 (h : x = 0) : mayS b x ↔ b x.toNat = 87 := ⟨fun a => a.1 h, fun a => ⟨fun _ => a, fun q => absurd q (by omega), fun q => absurd q (by omega)⟩⟩
theorem mayS_h (h1 : 1 ≤ x) (h2 : x < 10) : mayS b x ↔ 0 ≤ b x.toNat - 48 ∧ b x.toNat - 48 ≤ 6 := ⟨fun a => a.2.1 h1 h2, fun a => ⟨fun q => absurd q (by omega), fun _ _ => a, fun q => absurd q (by omega)⟩⟩
theorem mayS_k (h1 : 10 ≤ x) : mayS b x ↔ mayR b ((x - 10) / 8) x ((x - 10) % 8) := ⟨fun a => a.2.2 h1, fun a => ⟨fun q => absurd q (by omega), fun _ q => absurd q (by omega), fun _ => a⟩⟩
theorem mayS_r0 (h1 : 10 ≤ x) (h : (x - 10) % 8 = 0) : mayS b x ↔ b x.toNat = 75 := by rw [mayS_k h1, h]; simp [mayR]
theorem mayS_r1 (h1 : 10 ≤ x) (h : (x - 10) % 8 = 1) : mayS b x ↔ 0 ≤ b x.toNat - 48 ∧ b x.toNat - 48 ≤ 1 := by rw [mayS_k h1, h]; simp [mayR]
theorem mayS_r2 (h1 : 10 ≤ x) (h : (x - 10) % 8 = 2) : mayS b x ↔ (0 ≤ b x.toNat - 48 ∧ b x.toNat - 48 ≤ 4) ∧ hfS b ((x - 10) / 8) (b x.toNat - 48) := by rw [mayS_k h1, h]; simp [mayR]
theorem mayS_r3 (h1 : 10 ≤ x) (h : (x - 10) % 8 = 3) : mayS b x ↔ (0 ≤ b x.toNat - 48 ∧ b x.toNat - 48 ≤ 9) ∧ frS b ((x - 10) / 8) (prI b (x - 1)) := by rw [mayS_k h1, h]; simp [mayR]
theorem mayS_r4 (h1 : 10 ≤ x) (h : (x - 10) % 8 = 4) : mayS b x ↔ 0 ≤ b x.toNat - 48 ∧ b x.toNat - 48 ≤ 4 := by rw [mayS_k h1, h]; simp [mayR]
theorem mayS_r5 (h1 : 10 ≤ x) (h : (x - 10) % 8 = 5) : mayS b x ↔ (0 ≤ b x.toNat - 48 ∧ b x.toNat - 48 ≤ 9) ∧ prI b (x - 1) ≤ 40 := by rw [mayS_k h1, h]; simp [mayR]
theorem mayS_r6 (h1 : 10 ≤ x) (h : (x - 10) % 8 = 6) : mayS b x ↔ 1 ≤ b x.toNat - 48 ∧ b x.toNat - 48 ≤ 9 := by rw [mayS_k h1, h]; simp [mayR]
theorem mayS_r7 (h1 : 10 ≤ x) (h : (x - 10) % 8 = 7) : mayS b x ↔ 0 ≤ b x.toNat - 48 ∧ b x.toNat - 48 ≤ 9 := by rw [mayS_k h1, h]; simp [mayR]
end May
/-- the answer of fault -/
def FaultIs (b : Nat → Int) (len z : Int) : Prop :=
  ((0 ≤ z ∧ z ≤ len) ∧ (∀ j, 0 ≤ j → j < z → mayS b j) ∧ ((z < len ∧ ¬ mayS b z) ∨ (z = len ∧ ¬ (10 ≤ len ∧ (len - 10) % 8 = 0)))) ∨
  (z = -9 ∧ (∀ j, 0 ≤ j → j < len → mayS b j) ∧ 10 ≤ len ∧ (len - 10) % 8 = 0)
theorem FaultIs.uniq {b : Nat → Int} {len z z' : Int} (a : FaultIs b len z) (c : FaultIs b len z') : z = z' := by
  rcases a with ⟨⟨a0, a1⟩, a2, a3⟩ | ⟨a0, a1, a2⟩ <;> rcases c with ⟨⟨c0, c1⟩, c2, c3⟩ | ⟨c0, c1, c2⟩
  · rcases Int.lt_trichotomy z z' with h | h | h
    · rcases a3 with a3 | a3
      · exact absurd (c2 z a0 h) a3.2
      · omega
    · exact h
    · rcases c3 with c3 | c3
      · exact absurd (a2 z' c0 h) c3.2
      · omega
  · rcases a3 with a3 | a3
    · exact absurd (c1 z a0 a3.1) a3.2
    · exact absurd c2 a3.2
  · rcases c3 with c3 | c3
    · exact absurd (a1 z' c0 c3.1) c3.2
    · exact absurd a2 c3.2
  · omega
