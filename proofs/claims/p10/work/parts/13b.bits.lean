/-! bits of an int -/
-- bits (begun from the kit's rows on bits)
def bt (x : Int32) (i : Nat) : Bool := x.toBitVec.getLsbD i
theorem b_ext {x y : Int32} (h : ∀ i, i < 32 → bt x i = bt y i) : x = y := Int32.toBitVec_inj.mp (BitVec.eq_of_getLsbD_eq (fun i hi => h i hi))
theorem b_or (x y : Int32) (i : Nat) : bt (x ||| y) i = (bt x i || bt y i) := by unfold bt; rw [Int32.toBitVec_or, BitVec.getLsbD_or]
theorem b_and (x y : Int32) (i : Nat) : bt (x &&& y) i = (bt x i && bt y i) := by unfold bt; rw [Int32.toBitVec_and, BitVec.getLsbD_and]
theorem s_l : ∀ n, n < 32 → ((nI n &&& 31).toBitVec.smod 32).toNat = n := by decide +kernel
theorem b_sshr (n : Nat) (hn : n < 32) (x : Int32) {i : Nat} (hi : i < 32) : bt (x >>> (nI n &&& 31)) i = if n + i < 32 then bt x (n + i) else bt x 31 := by
  unfold bt
  show (x.toBitVec.sshiftRight ((nI n &&& 31).toBitVec.smod 32).toNat).getLsbD i = _
  rw [s_l n hn, BitVec.getLsbD_sshiftRight, BitVec.msb_eq_getLsbD_last]
  have h32 : ¬ 32 ≤ i := by omega
  simp [h32]
theorem b_1 : ∀ i, i < 32 → bt 1 i = decide (i = 0) := by decide +kernel
/-- the bit v of a -/
def tb (a v : Int) : Bool := bt (Int32.ofInt a) v.toNat
theorem kbit {a v : Int} (hv : 0 ≤ v ∧ v ≤ 31) : kAnd (kShr a v) 1 = if tb a v then 1 else 0 := by
  have e : Int32.ofInt v = nI v.toNat := by
    rw [nI, ← Int32.ofInt_eq_ofNat]
    congr 1
    omega
  have key : (Int32.ofInt a >>> (nI v.toNat &&& 31)) &&& 1 = if tb a v then 1 else 0 := by
    apply b_ext
    intro i hi
    rw [b_and, b_sshr v.toNat (by omega) _ hi, b_1 i hi]
    by_cases h0 : i = 0
    · subst h0
      rw [if_pos (by omega)]
      unfold tb
      cases hb : bt (Int32.ofInt a) v.toNat
      · simp [hb]; decide
      · simp [hb]; decide
    · have : (decide (i = 0)) = false := by simp [h0]
      rw [this, Bool.and_false]
      unfold tb
      cases hb : bt (Int32.ofInt a) v.toNat
      · simp; exact (by decide +kernel : ∀ i, i < 32 → bt 0 i = false) i hi
      · simp; rw [b_1 i hi]; simp [h0]
  unfold kAnd kShr
  rw [Int32.ofInt_toInt, e, show Int32.ofInt 1 = 1 by decide, key]
  cases tb a v <;> rfl
theorem tb_and {a b v : Int} (h : tb (kAnd a b) v = true) : tb a v = true ∧ tb b v = true := by
  unfold tb kAnd at h
  rw [Int32.ofInt_toInt, b_and, Bool.and_eq_true] at h
  exact h
theorem tb_or {a b v : Int} (h : tb (kOr a b) v = true) : tb a v = true ∨ tb b v = true := by
  unfold tb kOr at h
  rw [Int32.ofInt_toInt, b_or, Bool.or_eq_true] at h
  exact h
theorem tb_shl {t v : Int} (ht : 0 ≤ t ∧ t ≤ 9) (hv : 0 ≤ v ∧ v ≤ 9) (h : tb (kShl 1 t) v = true) : v = t := by
  have := (by decide +kernel : ∀ t, t < 10 → ∀ v, v < 10 → tb (kShl 1 (t : Nat)) (v : Nat) = true → v = t) t.toNat (by omega) v.toNat (by omega)
  rw [show ((t.toNat : Nat) : Int) = t by omega, show ((v.toNat : Nat) : Int) = v by omega] at this
  have := this h
  omega
theorem tb_not {t v : Int} (ht : 0 ≤ t ∧ t ≤ 9) (hv : 0 ≤ v ∧ v ≤ 9) (h : tb (kXor (kShl 1 t) (-1)) v = true) : v ≠ t := by
  have := (by decide +kernel : ∀ t, t < 10 → ∀ v, v < 10 → tb (kXor (kShl 1 (t : Nat)) (-1)) (v : Nat) = true → v ≠ t) t.toNat (by omega) v.toNat (by omega)
  rw [show ((t.toNat : Nat) : Int) = t by omega, show ((v.toNat : Nat) : Int) = v by omega] at this
  have := this h
  omega
theorem tb_c {v : Int} (hv : 0 ≤ v ∧ v ≤ 9) : (tb 3 v = true → v ≤ 1) ∧ (tb 1 v = true → v = 0) ∧ (tb 31 v = true → v ≤ 4) ∧ (tb 1022 v = true → 1 ≤ v) ∧ (tb 0 v = true → False) ∧ (tb 127 v = true → v ≤ 6) := by
  have := (by decide +kernel : ∀ v, v < 10 → (tb 3 (v : Nat) = true → v ≤ 1) ∧ (tb 1 (v : Nat) = true → v = 0) ∧ (tb 31 (v : Nat) = true → v ≤ 4) ∧ (tb 1022 (v : Nat) = true → 1 ≤ v) ∧ (tb 0 (v : Nat) = true → False) ∧ (tb 127 (v : Nat) = true → v ≤ 6)) v.toNat (by omega)
  rw [show ((v.toNat : Nat) : Int) = v by omega] at this
  obtain ⟨a, b, c, d, e, f⟩ := this
  exact ⟨fun q => by have := a q; omega, fun q => by have := b q; omega, fun q => by have := c q; omega, fun q => by have := d q; omega, e, fun q => by have := f q; omega⟩
theorem bt_and {a b v : Int} : tb (kAnd a b) v = (tb a v && tb b v) := by unfold tb kAnd; rw [Int32.ofInt_toInt, b_and]
theorem bt_or {a b v : Int} : tb (kOr a b) v = (tb a v || tb b v) := by unfold tb kOr; rw [Int32.ofInt_toInt, b_or]
theorem tb_nat {P : Int → Prop} {n : Nat} (h : ∀ v : Nat, v < n → P v) {v : Int} (h0 : 0 ≤ v) (h1 : v < n) : P v := by
  have := h v.toNat (by omega)
  rwa [show ((v.toNat : Nat) : Int) = v by omega] at this
theorem tbc_1 {v : Int} (h0 : 0 ≤ v) (h1 : v ≤ 31) : tb 1 v = true ↔ v = 0 := tb_nat (n := 32) (P := fun v => tb 1 v = true ↔ v = 0) (by decide +kernel) h0 (by omega)
theorem tbc_1023 {v : Int} (h0 : 0 ≤ v) (h1 : v ≤ 31) : tb 1023 v = true ↔ v ≤ 9 := tb_nat (n := 32) (P := fun v => tb 1023 v = true ↔ v ≤ 9) (by decide +kernel) h0 (by omega)
theorem tbc_1022 {v : Int} (h0 : 0 ≤ v) (h1 : v ≤ 31) : tb 1022 v = true ↔ 1 ≤ v ∧ v ≤ 9 := tb_nat (n := 32) (P := fun v => tb 1022 v = true ↔ 1 ≤ v ∧ v ≤ 9) (by decide +kernel) h0 (by omega)
theorem tbc_3 {v : Int} (h0 : 0 ≤ v) (h1 : v ≤ 31) : tb 3 v = true ↔ v ≤ 1 := tb_nat (n := 32) (P := fun v => tb 3 v = true ↔ v ≤ 1) (by decide +kernel) h0 (by omega)
theorem tbc_31 {v : Int} (h0 : 0 ≤ v) (h1 : v ≤ 31) : tb 31 v = true ↔ v ≤ 4 := tb_nat (n := 32) (P := fun v => tb 31 v = true ↔ v ≤ 4) (by decide +kernel) h0 (by omega)
theorem tbc_127 {v : Int} (h0 : 0 ≤ v) (h1 : v ≤ 31) : tb 127 v = true ↔ v ≤ 6 := tb_nat (n := 32) (P := fun v => tb 127 v = true ↔ v ≤ 6) (by decide +kernel) h0 (by omega)
theorem tbc_0 {v : Int} (h0 : 0 ≤ v) (h1 : v ≤ 31) : tb 0 v = false := tb_nat (n := 32) (P := fun v => tb 0 v = false) (by decide +kernel) h0 (by omega)
theorem tbc_m1 {v : Int} (h0 : 0 ≤ v) (h1 : v ≤ 31) : tb (-1) v = true := tb_nat (n := 32) (P := fun v => tb (-1) v = true) (by decide +kernel) h0 (by omega)
theorem tbc_shl {t v : Int} (ht : 0 ≤ t ∧ t ≤ 31) (h0 : 0 ≤ v) (h1 : v ≤ 31) : tb (kShl 1 t) v = true ↔ v = t := by
  have := (by decide +kernel : ∀ t, t < 32 → ∀ v, v < 32 → (tb (kShl 1 (t : Nat)) (v : Nat) = true ↔ (v : Int) = t)) t.toNat (by omega) v.toNat (by omega)
  rwa [show ((t.toNat : Nat) : Int) = t by omega, show ((v.toNat : Nat) : Int) = v by omega] at this
theorem tbc_not {t v : Int} (ht : 0 ≤ t ∧ t ≤ 31) (h0 : 0 ≤ v) (h1 : v ≤ 31) : tb (kXor (kShl 1 t) (-1)) v = true ↔ v ≠ t := by
  have := (by decide +kernel : ∀ t, t < 32 → ∀ v, v < 32 → (tb (kXor (kShl 1 (t : Nat)) (-1)) (v : Nat) = true ↔ (v : Int) ≠ t)) t.toNat (by omega) v.toNat (by omega)
  rwa [show ((t.toNat : Nat) : Int) = t by omega, show ((v.toNat : Nat) : Int) = v by omega] at this
theorem tb_ext {a b : Int} (ha : kR a) (hb : kR b) (h : ∀ v : Int, 0 ≤ v → v ≤ 31 → tb a v = tb b v) : a = b := by
  apply (ofInt_inj32 ha hb).mp
  apply b_ext
  intro i hi
  have := h i (by omega) (by omega)
  simpa [tb] using this
theorem tbz {v : Int} {b : Bool} (h : v = if b then 1 else 0) (hv : v = 0) : ¬ b = true := by cases b <;> simp_all
theorem tbf {v : Int} {b : Bool} (h : v = if b then 1 else 0) (hv : v = 0) : b = false := by cases b <;> simp_all
theorem tbx {v : Int} {b : Bool} (h : v = if b then 1 else 0) (hv : v ≠ 0) : b = true := by cases b <;> simp_all
