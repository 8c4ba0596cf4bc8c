/-! for the reference: longs, bits, its fleets -/
theorem K_eqJ {X : kX} {G : kG} {Z : kZ} {pc : Nat} {lo : List (Nat × Value)} {st : List Value} {h : kH} {a a' : Int} (e : a = a') (k : K X G Z pc lo (kJ a' :: st) h) : K X G Z pc lo (kJ a :: st) h := by
  rw [e]; exact k
theorem ofInt64_toInt {a : Int} (h : -9223372036854775808 ≤ a ∧ a ≤ 9223372036854775807) : (Int64.ofInt a).toInt = a := Int64.toInt_ofInt_of_le (by omega) (by omega)
theorem kLcmp_s {a b : Int} (ha : -9223372036854775808 ≤ a ∧ a ≤ 9223372036854775807) (hb : -9223372036854775808 ≤ b ∧ b ≤ 9223372036854775807) : (kLcmp a b = 1 ∧ b < a) ∨ (kLcmp a b = 0 ∧ a = b) ∨ (kLcmp a b = -1 ∧ a < b) := by
  unfold kLcmp lg_cmp
  by_cases h1 : Int64.ofInt a > Int64.ofInt b
  · rw [if_pos h1]
    rw [gt_iff_lt, Int64.lt_iff_toInt_lt, ofInt64_toInt ha, ofInt64_toInt hb] at h1
    exact Or.inl ⟨rfl, h1⟩
  · rw [if_neg h1]
    rw [gt_iff_lt, Int64.lt_iff_toInt_lt, ofInt64_toInt ha, ofInt64_toInt hb] at h1
    by_cases h2 : Int64.ofInt a = Int64.ofInt b
    · rw [if_pos h2]
      rw [← Int64.toInt_inj, ofInt64_toInt ha, ofInt64_toInt hb] at h2
      exact Or.inr (Or.inl ⟨rfl, h2⟩)
    · rw [if_neg h2]
      rw [← Int64.toInt_inj, ofInt64_toInt ha, ofInt64_toInt hb] at h2
      exact Or.inr (Or.inr ⟨rfl, by omega⟩)
-- bits (begun from the kit's rows on bits)
def bt (x : Int32) (i : Nat) : Bool := x.toBitVec.getLsbD i
theorem b_ext {x y : Int32} (h : ∀ i, i < 32 → bt x i = bt y i) : x = y := Int32.toBitVec_inj.mp (BitVec.eq_of_getLsbD_eq (fun i hi => h i hi))
theorem b_or (x y : Int32) (i : Nat) : bt (x ||| y) i = (bt x i || bt y i) := by unfold bt; rw [Int32.toBitVec_or, BitVec.getLsbD_or]
theorem b_and (x y : Int32) (i : Nat) : bt (x &&& y) i = (bt x i && bt y i) := by unfold bt; rw [Int32.toBitVec_and, BitVec.getLsbD_and]
theorem s_l : ∀ n, n < 32 → ((nI n &&& 31).toBitVec.smod 32).toNat = n := by decide +kernel
theorem b_sshr (n : Nat) (hn : n < 32) (x : Int32) {i : Nat} (hi : i < 32) : bt (x >>> (nI n &&& 31)) i = if n + i < 32 then bt x (n + i) else bt x 31 := by
  unfold bt
  show (x.toBitVec.sshiftRight ((nI n &&& 31).toBitVec.smod 32).toNat).getLsbD i = _
  rw [s_l n hn, BitVec.getLsbD_sshiftRight, BitVec.msb_eq_getLsbD_last]
  have h32 : ¬ 32 ≤ i := by omega
  simp [h32]
theorem b_1 : ∀ i, i < 32 → bt 1 i = decide (i = 0) := by decide +kernel
/-- the bit v of a -/
def tb (a v : Int) : Bool := bt (Int32.ofInt a) v.toNat
theorem kbit {a v : Int} (hv : 0 ≤ v ∧ v ≤ 31) : kAnd (kShr a v) 1 = if tb a v then 1 else 0 := by
  have e : Int32.ofInt v = nI v.toNat := by
    rw [nI, ← Int32.ofInt_eq_ofNat]
    congr 1
    omega
  have key : (Int32.ofInt a >>> (nI v.toNat &&& 31)) &&& 1 = if tb a v then 1 else 0 := by
    apply b_ext
    intro i hi
    rw [b_and, b_sshr v.toNat (by omega) _ hi, b_1 i hi]
    by_cases h0 : i = 0
    · subst h0
      rw [if_pos (by omega)]
      unfold tb
      cases hb : bt (Int32.ofInt a) v.toNat
      · simp [hb]; decide
      · simp [hb]; decide
    · have : (decide (i = 0)) = false := by simp [h0]
      rw [this, Bool.and_false]
      unfold tb
      cases hb : bt (Int32.ofInt a) v.toNat
      · simp; exact (by decide +kernel : ∀ i, i < 32 → bt 0 i = false) i hi
      · simp; rw [b_1 i hi]; simp [h0]
  unfold kAnd kShr
  rw [Int32.ofInt_toInt, e, show Int32.ofInt 1 = 1 by decide, key]
  cases tb a v <;> rfl
theorem tb_and {a b v : Int} (h : tb (kAnd a b) v = true) : tb a v = true ∧ tb b v = true := by
  unfold tb kAnd at h
  rw [Int32.ofInt_toInt, b_and, Bool.and_eq_true] at h
  exact h
theorem tb_or {a b v : Int} (h : tb (kOr a b) v = true) : tb a v = true ∨ tb b v = true := by
  unfold tb kOr at h
  rw [Int32.ofInt_toInt, b_or, Bool.or_eq_true] at h
  exact h
theorem tb_shl {t v : Int} (ht : 0 ≤ t ∧ t ≤ 9) (hv : 0 ≤ v ∧ v ≤ 9) (h : tb (kShl 1 t) v = true) : v = t := by
  have := (by decide +kernel : ∀ t, t < 10 → ∀ v, v < 10 → tb (kShl 1 (t : Nat)) (v : Nat) = true → v = t) t.toNat (by omega) v.toNat (by omega)
  rw [show ((t.toNat : Nat) : Int) = t by omega, show ((v.toNat : Nat) : Int) = v by omega] at this
  have := this h
  omega
theorem tb_not {t v : Int} (ht : 0 ≤ t ∧ t ≤ 9) (hv : 0 ≤ v ∧ v ≤ 9) (h : tb (kXor (kShl 1 t) (-1)) v = true) : v ≠ t := by
  have := (by decide +kernel : ∀ t, t < 10 → ∀ v, v < 10 → tb (kXor (kShl 1 (t : Nat)) (-1)) (v : Nat) = true → v ≠ t) t.toNat (by omega) v.toNat (by omega)
  rw [show ((t.toNat : Nat) : Int) = t by omega, show ((v.toNat : Nat) : Int) = v by omega] at this
  have := this h
  omega
theorem tb_c {v : Int} (hv : 0 ≤ v ∧ v ≤ 9) : (tb 3 v = true → v ≤ 1) ∧ (tb 1 v = true → v = 0) ∧ (tb 31 v = true → v ≤ 4) ∧ (tb 1022 v = true → 1 ≤ v) ∧ (tb 0 v = true → False) ∧ (tb 127 v = true → v ≤ 6) := by
  have := (by decide +kernel : ∀ v, v < 10 → (tb 3 (v : Nat) = true → v ≤ 1) ∧ (tb 1 (v : Nat) = true → v = 0) ∧ (tb 31 (v : Nat) = true → v ≤ 4) ∧ (tb 1022 (v : Nat) = true → 1 ≤ v) ∧ (tb 0 (v : Nat) = true → False) ∧ (tb 127 (v : Nat) = true → v ≤ 6)) v.toNat (by omega)
  rw [show ((v.toNat : Nat) : Int) = v by omega] at this
  obtain ⟨a, b, c, d, e, f⟩ := this
  exact ⟨fun q => by have := a q; omega, fun q => by have := b q; omega, fun q => by have := c q; omega, fun q => by have := d q; omega, e, fun q => by have := f q; omega⟩
-- the reference's fleets
theorem MOk.hi {h : kH} {i : Nat} {v : Int} (hn : h 184 4 ≤ 8) (hi : 40 ≤ i) (a : MOk h) : MOk (kU h 187 i v) := by
  refine ⟨?_, ?_, ?_⟩
  · rw [kU_at h 187 i v 184 4, if_neg (by omega)]
    exact FK.congr hn (fun j hj => by rw [kU_at, if_neg (by omega)]) a.1
  · have e : kU h 187 i v 191 = h 191 := kU_c _ _ _ _ (by decide)
    rw [e]; exact a.2.1
  · have e : kU h 187 i v 200 = h 200 := kU_c _ _ _ _ (by decide)
    rw [e]; exact a.2.2
theorem FK.mono {k : Nat → Int} {n m : Int} (h : m ≤ n) (a : FK k n) : FK k m := fun i hi => by
  obtain ⟨h1, h2, h3, h4⟩ := a i (by omega)
  exact ⟨h1, h2, h3, fun j hj hne => h4 j (by omega) hne⟩
theorem mul_bd {a b A B : Int} (h1 : -A ≤ a ∧ a ≤ A) (h2 : -B ≤ b ∧ b ≤ B) : -(A * B) ≤ a * b ∧ a * b ≤ A * B := by
  have hA : 0 ≤ A := by omega
  have hB : 0 ≤ B := by omega
  have e1 : a.natAbs ≤ A.natAbs := by omega
  have e2 : b.natAbs ≤ B.natAbs := by omega
  have e3 : (a * b).natAbs ≤ (A * B).natAbs := by rw [Int.natAbs_mul, Int.natAbs_mul]; exact Nat.mul_le_mul e1 e2
  have e4 : 0 ≤ A * B := Int.mul_nonneg hA hB
  omega
theorem bK_of {i j : Nat} {v : Int} (h : bK i v) (e : j % 5 = i % 5) : bK j v := by unfold bK at h ⊢; rw [e]; exact h
theorem bR_of {i r j : Nat} {v : Int} (h : bK i v) (hi : i < 40) (e : j = 43 * r + i) : bR j v := by
  have e2 : j % 43 = i := by omega
  unfold bK at h; unfold bR; rw [e2]; exact ⟨fun _ => h, fun q => by omega⟩
theorem bK_ofR {i r j : Nat} {v : Int} (h : bR j v) (hi : i < 40) (e : j = 43 * r + i) : bK i v := by
  have e2 : j % 43 = i := by omega
  unfold bR at h; rw [e2] at h; exact h.1 hi
theorem bP_of {i r j : Nat} {v : Int} (h : bK i v) (hi : i < 40) (e : j = 53 * r + i) : bP j v := by
  have e2 : j % 53 = i := by omega
  unfold bK at h; unfold bP; rw [e2]; exact ⟨fun _ => h, fun q => by omega⟩
theorem bK_ofP {i r j : Nat} {v : Int} (h : bP j v) (hi : i < 40) (e : j = 53 * r + i) : bK i v := by
  have e2 : j % 53 = i := by omega
  unfold bP at h; rw [e2] at h; exact h.1 hi
