/-! lines that cross, as the class finds it and as the reference does -/
theorem mul_bd {a b A B : Int} (h1 : -A ≤ a ∧ a ≤ A) (h2 : -B ≤ b ∧ b ≤ B) : -(A * B) ≤ a * b ∧ a * b ≤ A * B := by
  have hA : 0 ≤ A := by omega
  have hB : 0 ≤ B := by omega
  have e1 : a.natAbs ≤ A.natAbs := by omega
  have e2 : b.natAbs ≤ B.natAbs := by omega
  have e3 : (a * b).natAbs ≤ (A * B).natAbs := by rw [Int.natAbs_mul, Int.natAbs_mul]; exact Nat.mul_le_mul e1 e2
  have e4 : 0 ≤ A * B := Int.mul_nonneg hA hB
  omega
theorem sgn_ok {x : Int} (h0 : -1000 ≤ x) (h1 : x ≤ 1000) : kOr (kShr x 31) (kUshr (-x) 31) = x.sign := by
  have := (by decide +kernel : ∀ n, n < 2001 → kOr (kShr ((n : Nat) - 1000 : Int) 31) (kUshr (-((n : Nat) - 1000 : Int)) 31) = ((n : Nat) - 1000 : Int).sign) (x + 1000).toNat (by omega)
  rwa [show (((x + 1000).toNat : Nat) : Int) - 1000 = x by omega] at this
theorem sg3 (d : Int) : d.sign = -1 ∨ d.sign = 0 ∨ d.sign = 1 := by
  rcases Int.lt_trichotomy d 0 with h | h | h
  · exact Or.inl (Int.sign_eq_neg_one_of_neg h)
  · rw [h]; exact Or.inr (Or.inl rfl)
  · exact Or.inr (Or.inr (Int.sign_eq_one_of_pos h))
def crC (sA xA hA sB xB hB : Int) : Prop := (sA - sB).sign * (if hA ≤ hB then (xA - sB) * hB - (xB - sB) * hA else (xA - sA) * hB - (xB - sA) * hA) ≤ 0
def thM (sA xA hA sB xB hB : Int) : Int := (sA - sB) * hA * hB + ((xA - sA) * hB - (xB - sB) * hA) * (if hA < hB then hA else hB)
def crM (sA xA hA sB xB hB : Int) : Prop := if 0 < sA - sB then thM sA xA hA sB xB hB ≤ 0 else 0 ≤ thM sA xA hA sB xB hB
section Cr
variable {sA xA hA sB xB hB : Int}
theorem crC_le (h : hA ≤ hB) : crC sA xA hA sB xB hB ↔ (sA - sB).sign * ((xA - sB) * hB - (xB - sB) * hA) ≤ 0 := by unfold crC; rw [if_pos h]
theorem crC_gt (h : ¬ hA ≤ hB) : crC sA xA hA sB xB hB ↔ (sA - sB).sign * ((xA - sA) * hB - (xB - sA) * hA) ≤ 0 := by unfold crC; rw [if_neg h]
theorem th_le (h : hA ≤ hB) : thM sA xA hA sB xB hB = hA * ((xA - sB) * hB - (xB - sB) * hA) := by
  unfold thM
  rw [show (if hA < hB then hA else hB) = hA by split <;> omega]
  simp only [Int.sub_mul, Int.mul_sub, Int.mul_comm, Int.mul_left_comm, Int.mul_assoc]
  omega
theorem th_gt (h : ¬ hA ≤ hB) : thM sA xA hA sB xB hB = hB * ((xA - sA) * hB - (xB - sA) * hA) := by
  unfold thM
  rw [show (if hA < hB then hA else hB) = hB by split <;> omega]
  simp only [Int.sub_mul, Int.mul_sub, Int.mul_comm, Int.mul_left_comm, Int.mul_assoc]
  omega
theorem sg_iff {d k t : Int} (hk : 1 ≤ k) (hd : d ≠ 0) : d.sign * t ≤ 0 ↔ (if 0 < d then k * t ≤ 0 else 0 ≤ k * t) := by
  have p1 : 0 < t → 0 < k * t := fun q => Int.mul_pos (by omega) q
  have p2 : t < 0 → k * t < 0 := fun q => Int.mul_neg_of_pos_of_neg (by omega) q
  have p3 : t = 0 → k * t = 0 := fun q => by rw [q, Int.mul_zero]
  by_cases h : 0 < d
  · rw [if_pos h, Int.sign_eq_one_of_pos h]
    omega
  · rw [if_neg h, Int.sign_eq_neg_one_of_neg (by omega)]
    omega
theorem cr_iff (h1 : 1 ≤ hA) (h2 : 1 ≤ hB) (hs : sA ≠ sB) : crC sA xA hA sB xB hB ↔ crM sA xA hA sB xB hB := by
  unfold crM
  by_cases h : hA ≤ hB
  · rw [crC_le h, th_le h]; exact sg_iff h1 (by omega)
  · rw [crC_gt h, th_gt h]; exact sg_iff h2 (by omega)
theorem th_sym : thM sB xB hB sA xA hA = - thM sA xA hA sB xB hB := by
  by_cases h : hA ≤ hB
  · by_cases h' : hB ≤ hA
    · rw [th_le h, th_le h', show hB = hA by omega]
      simp only [Int.sub_mul, Int.mul_sub, Int.mul_comm, Int.mul_left_comm, Int.mul_assoc]
      omega
    · rw [th_le h, th_gt h']
      simp only [Int.sub_mul, Int.mul_sub, Int.mul_comm, Int.mul_left_comm, Int.mul_assoc]
      omega
  · rw [th_gt h, th_le (show hB ≤ hA by omega)]
    simp only [Int.sub_mul, Int.mul_sub, Int.mul_comm, Int.mul_left_comm, Int.mul_assoc]
    omega
theorem crM_sym (hs : sA ≠ sB) : crM sA xA hA sB xB hB ↔ crM sB xB hB sA xA hA := by
  unfold crM
  rw [th_sym]
  by_cases h : 0 < sA - sB
  · rw [if_pos h, if_neg (by omega)]; omega
  · rw [if_neg h, if_pos (by omega)]; omega
end Cr
/-- the lines of the kites a and b of the fleet f -/
def mt (h : kH) (f a b : Nat) : Prop := crC (h (f + 2) a) (h (f + 3) a) (h (f + 4) a) (h (f + 2) b) (h (f + 3) b) (h (f + 4) b)
