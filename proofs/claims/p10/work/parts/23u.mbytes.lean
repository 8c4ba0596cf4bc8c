/-! a byte of a long, as the class takes it and as the reference does -/
theorem lbit_s (x b : Int64) {n i : Nat} (hb : (b.toBitVec.smod 64).toNat = n) (hi : n + i < 64) : (x >>> b).toBitVec.getLsbD i = x.toBitVec.getLsbD (n + i) := by
  show (x.toBitVec.sshiftRight (b.toBitVec.smod 64).toNat).getLsbD i = _
  rw [hb, BitVec.getLsbD_sshiftRight]
  have h64 : ¬ 64 ≤ i := by omega
  simp [h64, hi]
theorem lbit_u (x b : UInt64) {n i : Nat} (hb : (b.toBitVec % 64).toNat = n) : (x >>> b).toBitVec.getLsbD i = x.toBitVec.getLsbD (n + i) := by
  show (x.toBitVec >>> (b.toBitVec % 64).toNat).getLsbD i = _
  rw [hb, BitVec.getLsbD_ushiftRight]
theorem bit255_32 : ∀ i, i < 32 → (Int32.ofInt 255).toBitVec.getLsbD i = decide (i < 8) := by decide +kernel
theorem bit255_64 : ∀ i, i < 32 → (Int64.ofInt 255).toBitVec.getLsbD i = decide (i < 8) := by decide +kernel
theorem tr32 (y : Int64) {i : Nat} (hi : i < 32) : bt y.toInt32 i = y.toBitVec.getLsbD i := by
  unfold bt
  rw [Int64.toBitVec_toInt32, BitVec.getLsbD_signExtend]
  simp [hi, show i < 64 by omega]
theorem byt_core (x b : Int64) (c : UInt64) {n : Nat} (hn : n ≤ 56) (hb : (b.toBitVec.smod 64).toNat = n) (hc : (c.toBitVec % 64).toNat = n) : ((x >>> b) &&& Int64.ofInt 255).toInt32 = (x.toUInt64 >>> c).toInt64.toInt32 &&& Int32.ofInt 255 := by
  apply b_ext
  intro i hi
  have e3 : (x.toUInt64 >>> c).toInt64.toBitVec = (x.toUInt64 >>> c).toBitVec := rfl
  have e4 : x.toUInt64.toBitVec = x.toBitVec := rfl
  have e5 : bt (Int32.ofInt 255) i = decide (i < 8) := bit255_32 i hi
  rw [b_and, tr32 _ hi, tr32 _ hi, e5, Int64.toBitVec_and, BitVec.getLsbD_and, bit255_64 i hi, e3]
  by_cases h8 : i < 8
  · rw [lbit_s x b hb (by omega), lbit_u x.toUInt64 c hc, e4]
  · simp [h8]
theorem bytM_eq {v k : Int} (hk : 0 ≤ k ∧ k ≤ 7) : kL2i (kLand (kLshr v (8 * k)) 255) = byt v k := by
  have key : ∀ (b : Int64) (c : UInt64) (n : Nat), n ≤ 56 → (b.toBitVec.smod 64).toNat = n → (c.toBitVec % 64).toNat = n → ((Int64.ofInt (Int64.ofInt v >>> b).toInt &&& Int64.ofInt 255).toInt32) = Int32.ofInt ((Int64.ofInt ((Int64.ofInt v).toUInt64 >>> c).toInt64.toInt).toInt32.toInt) &&& Int32.ofInt 255 := by
    intro b c n hn hb hc
    rw [Int64.ofInt_toInt, Int64.ofInt_toInt, Int32.ofInt_toInt]
    exact byt_core _ b c hn hb hc
  unfold byt kL2i kLand kAnd kLshr kLushr
  rw [Int64.ofInt_toInt (x := Int64.ofInt (Int64.ofInt v >>> ((Int32.ofInt (8 * k)).toInt64 &&& 63)).toInt &&& Int64.ofInt 255)]
  congr 1
  rcases (show k = 0 ∨ k = 1 ∨ k = 2 ∨ k = 3 ∨ k = 4 ∨ k = 5 ∨ k = 6 ∨ k = 7 by omega) with rfl | rfl | rfl | rfl | rfl | rfl | rfl | rfl
  · exact key _ _ 0 (by omega) (by decide +kernel) (by decide +kernel)
  · exact key _ _ 8 (by omega) (by decide +kernel) (by decide +kernel)
  · exact key _ _ 16 (by omega) (by decide +kernel) (by decide +kernel)
  · exact key _ _ 24 (by omega) (by decide +kernel) (by decide +kernel)
  · exact key _ _ 32 (by omega) (by decide +kernel) (by decide +kernel)
  · exact key _ _ 40 (by omega) (by decide +kernel) (by decide +kernel)
  · exact key _ _ 48 (by omega) (by decide +kernel) (by decide +kernel)
  · exact key _ _ 56 (by omega) (by decide +kernel) (by decide +kernel)
