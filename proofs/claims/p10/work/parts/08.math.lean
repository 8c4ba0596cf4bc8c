/-! Math.abs, max, min -/
section KMath
variable {X : kX} {G : kG} {Z : kZ} {pc i idx : Nat} {lo : List (Nat × Value)} {st : List Value} {h : kH} {a b : Int}
def kAbs (a : Int) : Int := if 0 ≤ a then a else 0 - a
theorem K_mabs (hd : X.2.2.2.2[i]? = some (pc, .invokestatic idx, 3)) (w1 : Cond.methodLink X.1 idx Lib.Math.abs.name ∈ lw_tbl) (ha : kR a) (hcat : (st.map fun v => v.category).sum ≤ 8) (hR : 1 ≤ Z.1.frames ∧ 21 ≤ Z.1.locals) (hf : Z.2.1 ≤ Z.1.cells ∧ Z.2.2.1 ≤ Z.1.slots) (k0 : K X G Z (pc + 3) lo (kI (kAbs a) :: st) h) : K X G Z pc lo (kI a :: st) h := by
  intro p e s m args below meth cc H locs ls Cx hP hS hl
  refine va_mabs (x := Int32.ofInt a) Cx.1 Cx.2.1 (Cx.2.2.1.trans hl.1.symm) Cx.2.2.2.1 (Cx.2.2.2.2.1 _ (kw w1 rfl)) (Cx.2.2.2.2.1 _ (kw (w := .static Lib.Math.abs.name) (by decide +kernel) rfl)) (Cx.2.2.2.2.1 _ (kw (w := .initialized "java/lang/Math") (by decide +kernel) rfl)) (Cx.2.2.2.2.1 _ (kw (w := .code Lib.Math.abs.name Lib.Math.abs.code 1 (some .int)) (by decide +kernel) rfl)) hR.1 (by omega) hf.1 hf.2 (kTab_at Cx.2.2.2.2.2.2.2.2.2.1 hd) ?_
  have e1 : (if 0 ≤ Int32.ofInt a then Int32.ofInt a else 0 - Int32.ofInt a) = Int32.ofInt (kAbs a) := by
    have hi : 0 ≤ Int32.ofInt a ↔ 0 ≤ a := by
      have := kR_le (a := 0) (b := a) (by decide) ha
      simpa using this
    by_cases hz : 0 ≤ a
    · rw [if_pos (hi.mpr hz), kAbs, if_pos hz]
    · rw [if_neg (fun q => hz (hi.mp q)), kAbs, if_neg hz, Int32.ofInt_sub]; rfl
  rw [e1]
  exact k0 p e s m args below meth cc H locs ls Cx hP hS hl
theorem K_mmax (hd : X.2.2.2.2[i]? = some (pc, .invokestatic idx, 3)) (w1 : Cond.methodLink X.1 idx Lib.Math.max.name ∈ lw_tbl) (ha : kR a) (hb : kR b) (hcat : (st.map fun v => v.category).sum ≤ 8) (hR : 1 ≤ Z.1.frames ∧ 21 ≤ Z.1.locals) (hf : Z.2.1 ≤ Z.1.cells ∧ Z.2.2.1 ≤ Z.1.slots) (k0 : K X G Z (pc + 3) lo (kI (max a b) :: st) h) : K X G Z pc lo (kI b :: kI a :: st) h := by
  intro p e s m args below meth cc H locs ls Cx hP hS hl
  refine va_mmax (x := Int32.ofInt a) (y := Int32.ofInt b) Cx.1 Cx.2.1 (Cx.2.2.1.trans hl.1.symm) Cx.2.2.2.1 (Cx.2.2.2.2.1 _ (kw w1 rfl)) (Cx.2.2.2.2.1 _ (kw (w := .static Lib.Math.max.name) (by decide +kernel) rfl)) (Cx.2.2.2.2.1 _ (kw (w := .initialized "java/lang/Math") (by decide +kernel) rfl)) (Cx.2.2.2.2.1 _ (kw (w := .code Lib.Math.max.name Lib.Math.max.code 2 (some .int)) (by decide +kernel) rfl)) hR.1 (by omega) hf.1 hf.2 (kTab_at Cx.2.2.2.2.2.2.2.2.2.1 hd) ?_
  have e1 : (if Int32.ofInt a < Int32.ofInt b then Int32.ofInt b else Int32.ofInt a) = Int32.ofInt (max a b) := by
    by_cases hz : a < b
    · rw [if_pos ((kR_lt ha hb).mpr hz), show max a b = b by omega]
    · rw [if_neg (fun q => hz ((kR_lt ha hb).mp q)), show max a b = a by omega]
  rw [e1]
  exact k0 p e s m args below meth cc H locs ls Cx hP hS hl
theorem K_mmin (hd : X.2.2.2.2[i]? = some (pc, .invokestatic idx, 3)) (w1 : Cond.methodLink X.1 idx Lib.Math.min.name ∈ lw_tbl) (ha : kR a) (hb : kR b) (hcat : (st.map fun v => v.category).sum ≤ 8) (hR : 1 ≤ Z.1.frames ∧ 21 ≤ Z.1.locals) (hf : Z.2.1 ≤ Z.1.cells ∧ Z.2.2.1 ≤ Z.1.slots) (k0 : K X G Z (pc + 3) lo (kI (min a b) :: st) h) : K X G Z pc lo (kI b :: kI a :: st) h := by
  intro p e s m args below meth cc H locs ls Cx hP hS hl
  refine va_mmin (x := Int32.ofInt a) (y := Int32.ofInt b) Cx.1 Cx.2.1 (Cx.2.2.1.trans hl.1.symm) Cx.2.2.2.1 (Cx.2.2.2.2.1 _ (kw w1 rfl)) (Cx.2.2.2.2.1 _ (kw (w := .static Lib.Math.min.name) (by decide +kernel) rfl)) (Cx.2.2.2.2.1 _ (kw (w := .initialized "java/lang/Math") (by decide +kernel) rfl)) (Cx.2.2.2.2.1 _ (kw (w := .code Lib.Math.min.name Lib.Math.min.code 2 (some .int)) (by decide +kernel) rfl)) hR.1 (by omega) hf.1 hf.2 (kTab_at Cx.2.2.2.2.2.2.2.2.2.1 hd) ?_
  have e1 : (if Int32.ofInt b < Int32.ofInt a then Int32.ofInt b else Int32.ofInt a) = Int32.ofInt (min a b) := by
    by_cases hz : b < a
    · rw [if_pos ((kR_lt hb ha).mpr hz), show min a b = b by omega]
    · rw [if_neg (fun q => hz ((kR_lt hb ha).mp q)), show min a b = a by omega]
  rw [e1]
  exact k0 p e s m args below meth cc H locs ls Cx hP hS hl
theorem kAbs_r (ha : kR a) : 0 ≤ kAbs a ∧ kAbs a ≤ 2147483648 ∧ (kAbs a = a ∨ kAbs a = -a) := by unfold kAbs; split <;> omega
end KMath
/-! sizes of what the bit operations answer -/
theorem kAnd_R (a b : Int) : kR (kAnd a b) := kR_of _
theorem kOr_R (a b : Int) : kR (kOr a b) := kR_of _
theorem kXor_R (a b : Int) : kR (kXor a b) := kR_of _
theorem kShl_R (a b : Int) : kR (kShl a b) := kR_of _
theorem kShr_R (a b : Int) : kR (kShr a b) := kR_of _
theorem kUshr_R (a b : Int) : kR (kUshr a b) := kR_of _
theorem kDiv_R (a b : Int) : kR (kDiv a b) := kR_of _
theorem kRem_R (a b : Int) : kR (kRem a b) := kR_of _
theorem kL2i_R (a : Int) : kR (kL2i a) := kR_of _
theorem kLcmp_R (a b : Int) : kR (kLcmp a b) := kR_of _
theorem kAnd_1 (a : Int) : kAnd a 1 = 0 ∨ kAnd a 1 = 1 := by
  obtain ⟨j, hj, e⟩ := pk_andE (Int32.ofInt a) (m := 1) 1 (by decide)
  have : kAnd a 1 = (nI j).toInt := by unfold kAnd; rw [← e]; rfl
  rw [this, nI_toInt (by omega)]
  omega
theorem kAnd_255 (a : Int) : 0 ≤ kAnd a 255 ∧ kAnd a 255 ≤ 255 := by
  obtain ⟨j, hj, e⟩ := pk_andE (Int32.ofInt a) (m := 255) 8 (by decide)
  have : kAnd a 255 = (nI j).toInt := by unfold kAnd; rw [← e]; rfl
  rw [this, nI_toInt (by omega)]
  omega
theorem kDiv_eq {a b : Int} (ha : 0 ≤ a) (ha2 : kR a) (hb : 0 < b) (hb2 : kR b) : kDiv a b = a / b := by
  obtain ⟨x, rfl⟩ := Int.eq_ofNat_of_zero_le ha
  obtain ⟨y, rfl⟩ := Int.eq_ofNat_of_zero_le (Int.le_of_lt hb)
  have hd := pk_div (a := x) (d := y) (by omega) (by omega) (by omega)
  have e : kDiv x y = (nI x / nI y).toInt := rfl
  rw [e, hd, nI_toInt (Nat.lt_of_le_of_lt (Nat.div_le_self x y) (by omega))]
  exact Int.natCast_ediv x y
theorem kRem_eq {a b : Int} (ha : 0 ≤ a) (ha2 : kR a) (hb : 0 < b) (hb2 : kR b) : kRem a b = a % b := by
  obtain ⟨x, rfl⟩ := Int.eq_ofNat_of_zero_le ha
  obtain ⟨y, rfl⟩ := Int.eq_ofNat_of_zero_le (Int.le_of_lt hb)
  have hd := pk_rem (a := x) (d := y) (by omega) (by omega) (by omega)
  have e : kRem x y = (nI x - nI x / nI y * nI y).toInt := rfl
  rw [e, hd, nI_toInt (Nat.lt_of_le_of_lt (Nat.mod_le x y) (by omega))]
  exact Int.natCast_emod x y
theorem kI2l_eq {a : Int} (ha : kR a) : kI2l a = a := by
  unfold kI2l
  rw [Int32.toInt_toInt64, kR_toInt ha]
