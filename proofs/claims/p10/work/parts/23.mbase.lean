/-! for the reference: longs, bits, its fleets -/
theorem K_eqJ {X : kX} {G : kG} {Z : kZ} {pc : Nat} {lo : List (Nat × Value)} {st : List Value} {h : kH} {a a' : Int} (e : a = a') (k : K X G Z pc lo (kJ a' :: st) h) : K X G Z pc lo (kJ a :: st) h := by
  rw [e]; exact k
theorem ofInt64_toInt {a : Int} (h : -9223372036854775808 ≤ a ∧ a ≤ 9223372036854775807) : (Int64.ofInt a).toInt = a := Int64.toInt_ofInt_of_le (by omega) (by omega)
theorem kLcmp_s {a b : Int} (ha : -9223372036854775808 ≤ a ∧ a ≤ 9223372036854775807) (hb : -9223372036854775808 ≤ b ∧ b ≤ 9223372036854775807) : (kLcmp a b = 1 ∧ b < a) ∨ (kLcmp a b = 0 ∧ a = b) ∨ (kLcmp a b = -1 ∧ a < b) := by
  unfold kLcmp lg_cmp
  by_cases h1 : Int64.ofInt a > Int64.ofInt b
  · rw [if_pos h1]
    rw [gt_iff_lt, Int64.lt_iff_toInt_lt, ofInt64_toInt ha, ofInt64_toInt hb] at h1
    exact Or.inl ⟨rfl, h1⟩
  · rw [if_neg h1]
    rw [gt_iff_lt, Int64.lt_iff_toInt_lt, ofInt64_toInt ha, ofInt64_toInt hb] at h1
    by_cases h2 : Int64.ofInt a = Int64.ofInt b
    · rw [if_pos h2]
      rw [← Int64.toInt_inj, ofInt64_toInt ha, ofInt64_toInt hb] at h2
      exact Or.inr (Or.inl ⟨rfl, h2⟩)
    · rw [if_neg h2]
      rw [← Int64.toInt_inj, ofInt64_toInt ha, ofInt64_toInt hb] at h2
      exact Or.inr (Or.inr ⟨rfl, by omega⟩)
-- the reference's fleets
theorem MOk.hi {h : kH} {i : Nat} {v : Int} (hn : h 184 4 ≤ 8) (hi : 40 ≤ i) (a : MOk h) : MOk (kU h 187 i v) := by
  refine ⟨?_, ?_, ?_⟩
  · rw [kU_at h 187 i v 184 4, if_neg (by omega)]
    exact FK.congr hn (fun j hj => by rw [kU_at, if_neg (by omega)]) a.1
  · have e : kU h 187 i v 191 = h 191 := kU_c _ _ _ _ (by decide)
    rw [e]; exact a.2.1
  · have e : kU h 187 i v 200 = h 200 := kU_c _ _ _ _ (by decide)
    rw [e]; exact a.2.2
theorem FK.mono {k : Nat → Int} {n m : Int} (h : m ≤ n) (a : FK k n) : FK k m := fun i hi => by
  obtain ⟨h1, h2, h3, h4⟩ := a i (by omega)
  exact ⟨h1, h2, h3, fun j hj hne => h4 j (by omega) hne⟩
theorem bK_of {i j : Nat} {v : Int} (h : bK i v) (e : j % 5 = i % 5) : bK j v := by unfold bK at h ⊢; rw [e]; exact h
theorem bR_of {i r j : Nat} {v : Int} (h : bK i v) (hi : i < 40) (e : j = 43 * r + i) : bR j v := by
  have e2 : j % 43 = i := by omega
  unfold bK at h; unfold bR; rw [e2]; exact ⟨fun _ => h, fun q => by omega⟩
theorem bK_ofR {i r j : Nat} {v : Int} (h : bR j v) (hi : i < 40) (e : j = 43 * r + i) : bK i v := by
  have e2 : j % 43 = i := by omega
  unfold bR at h; rw [e2] at h; exact h.1 hi
theorem bP_of {i r j : Nat} {v : Int} (h : bK i v) (hi : i < 40) (e : j = 53 * r + i) : bP j v := by
  have e2 : j % 53 = i := by omega
  unfold bK at h; unfold bP; rw [e2]; exact ⟨fun _ => h, fun q => by omega, fun q => by omega⟩
theorem bK_ofP {i r j : Nat} {v : Int} (h : bP j v) (hi : i < 40) (e : j = 53 * r + i) : bK i v := by
  have e2 : j % 53 = i := by omega
  unfold bP at h; rw [e2] at h; exact h.1 hi
