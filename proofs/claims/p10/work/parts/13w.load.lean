/-! the text's war, loaded -/
def LW (h h1 : kH) (x : Int) : Prop := ∀ k : Nat, h1 4 k = if 1 ≤ k ∧ (k : Int) < x then h 2 k - 48 - 3 else h 4 k
theorem LW.z {h : kH} : LW h h 1 := fun k => by rw [if_neg (by omega)]
theorem LW.st {h h1 : kH} {x v : Int} (a : LW h h1 x) (hx : 1 ≤ x) (hv : v = h 2 x.toNat - 48 - 3) : LW h (kU h1 4 x.toNat v) (x + 1) := fun k => by
  rw [kU_at]
  by_cases e : k = x.toNat
  · rw [if_pos ⟨rfl, e⟩, if_pos (by omega), hv, e]
  · rw [if_neg (by omega), a k]
    by_cases q : 1 ≤ k ∧ (k : Int) < x
    · rw [if_pos q, if_pos (by omega)]
    · rw [if_neg q, if_neg (by omega)]
theorem LW.of {h h1 h2 : kH} {x : Int} (a : LW h h1 x) (e : h2 4 = h1 4) : LW h h2 x := fun k => by rw [e]; exact a k
/-- the first x kites of the text -/
def LF (h h1 : kH) (x : Int) : Prop := h1 6 6 = x ∧ (∀ k : Nat, (k : Int) < x → h1 7 k = h 2 (10 + 8 * k + 1) - 48 ∧ h1 8 k = prI (h 2) (10 + (k : Int) * 8 + 2) ∧ h1 9 k = prI (h 2) (10 + (k : Int) * 8 + 4) ∧ h1 10 k = h 2 (10 + 8 * k + 6) - 48 ∧ h1 11 k = h 2 (10 + 8 * k + 7) - 48) ∧ h1 12 0 = 0 ∧ h1 12 1 = 0
theorem LF.add {h h1 h2 : kH} {x x1 x2 x3 x4 x5 : Int} (a : LF h h1 x) (h0 : 0 ≤ x) (b : FA h1 h2 6 x1 x2 x3 x4 x5)
    (e1 : x1 = h 2 (10 + x * 8 + 1).toNat - 48) (e2 : x2 = prI (h 2) (10 + x * 8 + 2)) (e3 : x3 = prI (h 2) (10 + x * 8 + 4)) (e4 : x4 = h 2 (10 + x * 8 + 6).toNat - 48) (e5 : x5 = h 2 (10 + x * 8 + 7).toNat - 48) : LF h h2 (x + 1) := by
  obtain ⟨a1, a2, a3, a4⟩ := a
  obtain ⟨b1, b2, ⟨c1, c2, c3, c4, c5⟩, b4⟩ := b
  rw [a1] at c1 c2 c3 c4 c5
  refine ⟨by omega, fun k hk => ?_, (b4 0).trans a3, (b4 1).trans a4⟩
  by_cases q : k = x.toNat
  · have q2 : (k : Int) = x := by omega
    rw [← q] at c1 c2 c3 c4 c5
    rw [q2]
    refine ⟨c1.trans ?_, c2.trans e2, c3.trans e3, c4.trans ?_, c5.trans ?_⟩
    · rw [e1, show (10 + x * 8 + 1).toNat = 10 + 8 * k + 1 by omega]
    · rw [e4, show (10 + x * 8 + 6).toNat = 10 + 8 * k + 6 by omega]
    · rw [e5, show (10 + x * 8 + 7).toNat = 10 + 8 * k + 7 by omega]
  · have hk2 : (k : Int) < x := by omega
    have r0 := b2 k 0 (by omega) (by omega)
    have r1 := b2 k 1 (by omega) (by omega)
    have r2 := b2 k 2 (by omega) (by omega)
    have r3 := b2 k 3 (by omega) (by omega)
    have r4 := b2 k 4 (by omega) (by omega)
    obtain ⟨d1, d2, d3, d4, d5⟩ := a2 k hk2
    exact ⟨r0.trans d1, r1.trans d2, r2.trans d3, r3.trans d4, r4.trans d5⟩
