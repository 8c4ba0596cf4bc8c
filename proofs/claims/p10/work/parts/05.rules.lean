/-! rules: longs, stack, branches, switches, returns, values forgotten -/
section Rules2
variable {X : kX} {G : kG} {Z : kZ} {pc i n : Nat} {lo lo' : List (Nat × Value)} {st : List Value} {h : kH} {a b : Int} {v w : Value}
def kLand (a b : Int) : Int := (Int64.ofInt a &&& Int64.ofInt b).toInt
def kLor (a b : Int) : Int := (Int64.ofInt a ||| Int64.ofInt b).toInt
def kLshl (a b : Int) : Int := (Int64.ofInt a <<< ((Int32.ofInt b).toInt64 &&& 63)).toInt
def kLshr (a b : Int) : Int := (Int64.ofInt a >>> ((Int32.ofInt b).toInt64 &&& 63)).toInt
def kLushr (a b : Int) : Int := ((Int64.ofInt a).toUInt64 >>> ((Int32.ofInt b).toInt64.toUInt64 &&& Int64.toUInt64 63)).toInt64.toInt
def kLrem (a b : Int) : Int := (Int64.ofInt a - Int64.ofInt a / Int64.ofInt b * Int64.ofInt b).toInt
def kL2i (a : Int) : Int := (Int64.ofInt a).toInt32.toInt
def kI2l (a : Int) : Int := (Int32.ofInt a).toInt64.toInt
def kLcmp (a b : Int) : Int := (lg_cmp (Int64.ofInt a) (Int64.ofInt b)).toInt
theorem K_ladd (hd : X.2.2.2.2[i]? = some (pc, .ladd, 1)) (k : K X G Z (pc + 1) lo (kJ (a + b) :: st) h) : K X G Z pc lo (kJ b :: kJ a :: st) h := by
  intro p e s m args below meth c H locs ls C hP hS hl
  refine lv_ladd C.1 C.2.1 (kTab_at C.2.2.2.2.2.2.2.2.2.1 hd) ?_
  have := k p e s m args below meth c H locs ls C hP hS hl
  rwa [kJ, Int64.ofInt_add] at this
theorem K_lmul (hd : X.2.2.2.2[i]? = some (pc, .lmul, 1)) (k : K X G Z (pc + 1) lo (kJ (a * b) :: st) h) : K X G Z pc lo (kJ b :: kJ a :: st) h := by
  intro p e s m args below meth c H locs ls C hP hS hl
  refine lv_lmul C.1 C.2.1 (kTab_at C.2.2.2.2.2.2.2.2.2.1 hd) ?_
  have := k p e s m args below meth c H locs ls C hP hS hl
  rwa [kJ, Int64.ofInt_mul] at this
theorem K_land (hd : X.2.2.2.2[i]? = some (pc, .land, 1)) (k : K X G Z (pc + 1) lo (kJ (kLand a b) :: st) h) : K X G Z pc lo (kJ b :: kJ a :: st) h := by
  intro p e s m args below meth c H locs ls C hP hS hl
  refine lv_land C.1 C.2.1 (kTab_at C.2.2.2.2.2.2.2.2.2.1 hd) ?_
  have := k p e s m args below meth c H locs ls C hP hS hl
  rwa [kJ, kLand, Int64.ofInt_toInt] at this
theorem K_lor (hd : X.2.2.2.2[i]? = some (pc, .lor, 1)) (k : K X G Z (pc + 1) lo (kJ (kLor a b) :: st) h) : K X G Z pc lo (kJ b :: kJ a :: st) h := by
  intro p e s m args below meth c H locs ls C hP hS hl
  refine lv_lor C.1 C.2.1 (kTab_at C.2.2.2.2.2.2.2.2.2.1 hd) ?_
  have := k p e s m args below meth c H locs ls C hP hS hl
  rwa [kJ, kLor, Int64.ofInt_toInt] at this
theorem K_lrem (hd : X.2.2.2.2[i]? = some (pc, .lrem, 1)) (h0 : ¬ Int64.ofInt b = 0) (k : K X G Z (pc + 1) lo (kJ (kLrem a b) :: st) h) : K X G Z pc lo (kJ b :: kJ a :: st) h := by
  intro p e s m args below meth c H locs ls C hP hS hl
  refine lv_lrem C.1 C.2.1 (kTab_at C.2.2.2.2.2.2.2.2.2.1 hd) h0 ?_
  have := k p e s m args below meth c H locs ls C hP hS hl
  rwa [kJ, kLrem, Int64.ofInt_toInt] at this
theorem K_lcmp (hd : X.2.2.2.2[i]? = some (pc, .lcmp, 1)) (k : K X G Z (pc + 1) lo (kI (kLcmp a b) :: st) h) : K X G Z pc lo (kJ b :: kJ a :: st) h := by
  intro p e s m args below meth c H locs ls C hP hS hl
  refine W.lcmp C.1 C.2.1 (kTab_at C.2.2.2.2.2.2.2.2.2.1 hd) ?_
  have := k p e s m args below meth c H locs ls C hP hS hl
  rwa [kI, kLcmp, Int32.ofInt_toInt] at this
theorem K_lshl (hd : X.2.2.2.2[i]? = some (pc, .lshl, 1)) (k : K X G Z (pc + 1) lo (kJ (kLshl a b) :: st) h) : K X G Z pc lo (kI b :: kJ a :: st) h := by
  intro p e s m args below meth c H locs ls C hP hS hl
  refine lv_lshl C.1 C.2.1 (kTab_at C.2.2.2.2.2.2.2.2.2.1 hd) rfl ?_
  have := k p e s m args below meth c H locs ls C hP hS hl
  rwa [kJ, kLshl, Int64.ofInt_toInt] at this
theorem K_lshr (hd : X.2.2.2.2[i]? = some (pc, .lshr, 1)) (k : K X G Z (pc + 1) lo (kJ (kLshr a b) :: st) h) : K X G Z pc lo (kI b :: kJ a :: st) h := by
  intro p e s m args below meth c H locs ls C hP hS hl
  refine lv_lshr C.1 C.2.1 (kTab_at C.2.2.2.2.2.2.2.2.2.1 hd) rfl ?_
  have := k p e s m args below meth c H locs ls C hP hS hl
  rwa [kJ, kLshr, Int64.ofInt_toInt] at this
theorem K_lushr (hd : X.2.2.2.2[i]? = some (pc, .lushr, 1)) (k : K X G Z (pc + 1) lo (kJ (kLushr a b) :: st) h) : K X G Z pc lo (kI b :: kJ a :: st) h := by
  intro p e s m args below meth c H locs ls C hP hS hl
  refine lv_lushr C.1 C.2.1 (kTab_at C.2.2.2.2.2.2.2.2.2.1 hd) rfl ?_
  have := k p e s m args below meth c H locs ls C hP hS hl
  rwa [kJ, kLushr, Int64.ofInt_toInt] at this
theorem K_i2l (hd : X.2.2.2.2[i]? = some (pc, .i2l, 1)) (k : K X G Z (pc + 1) lo (kJ (kI2l a) :: st) h) : K X G Z pc lo (kI a :: st) h := by
  intro p e s m args below meth c H locs ls C hP hS hl
  refine lv_i2l C.1 C.2.1 (kTab_at C.2.2.2.2.2.2.2.2.2.1 hd) rfl ?_
  have := k p e s m args below meth c H locs ls C hP hS hl
  rwa [kJ, kI2l, Int64.ofInt_toInt] at this
theorem K_l2i (hd : X.2.2.2.2[i]? = some (pc, .l2i, 1)) (k : K X G Z (pc + 1) lo (kI (kL2i a) :: st) h) : K X G Z pc lo (kJ a :: st) h := by
  intro p e s m args below meth c H locs ls C hP hS hl
  refine lv_l2i C.1 C.2.1 (kTab_at C.2.2.2.2.2.2.2.2.2.1 hd) rfl ?_
  have := k p e s m args below meth c H locs ls C hP hS hl
  rwa [kI, kL2i, Int32.ofInt_toInt] at this
theorem K_dup (hd : X.2.2.2.2[i]? = some (pc, .dup, 1)) (hv : v.category = 1) (k : K X G Z (pc + 1) lo (v :: v :: st) h) : K X G Z pc lo (v :: st) h := by
  intro p e s m args below meth c H locs ls C hP hS hl
  exact lv_dup C.1 C.2.1 (kTab_at C.2.2.2.2.2.2.2.2.2.1 hd) hv (k p e s m args below meth c H locs ls C hP hS hl)
theorem K_pop (hd : X.2.2.2.2[i]? = some (pc, .pop, 1)) (hv : v.category = 1) (k : K X G Z (pc + 1) lo st h) : K X G Z pc lo (v :: st) h := by
  intro p e s m args below meth c H locs ls C hP hS hl
  exact lv_pop C.1 C.2.1 (kTab_at C.2.2.2.2.2.2.2.2.2.1 hd) hv (k p e s m args below meth c H locs ls C hP hS hl)
theorem K_pop2 (hd : X.2.2.2.2[i]? = some (pc, .pop2, 1)) (hv : v.category = 2) (k : K X G Z (pc + 1) lo st h) : K X G Z pc lo (v :: st) h := by
  intro p e s m args below meth c H locs ls C hP hS hl
  exact lv_pop2_2 C.1 C.2.1 (kTab_at C.2.2.2.2.2.2.2.2.2.1 hd) hv (k p e s m args below meth c H locs ls C hP hS hl)
theorem K_dup2 (hd : X.2.2.2.2[i]? = some (pc, .dup2, 1)) (hv : v.category = 1) (hw : w.category = 1) (k : K X G Z (pc + 1) lo (v :: w :: v :: w :: st) h) : K X G Z pc lo (v :: w :: st) h := by
  intro p e s m args below meth c H locs ls C hP hS hl
  exact lv_dup2_11 C.1 C.2.1 (kTab_at C.2.2.2.2.2.2.2.2.2.1 hd) hv hw (k p e s m args below meth c H locs ls C hP hS hl)
theorem K_goto {off : Int} (tgt : Nat) (hd : X.2.2.2.2[i]? = some (pc, .goto off, 3)) (ht : (pc : Int) + off = (tgt : Int)) (k : K X G Z tgt lo st h) : K X G Z pc lo st h := by
  intro p e s m args below meth c H locs ls C hP hS hl
  exact lv_goto C.1 C.2.1 (kTab_at C.2.2.2.2.2.2.2.2.2.1 hd) ht (k p e s m args below meth c H locs ls C hP hS hl)
/-- a value is forgotten but for its size -/
theorem K_any (k : ∀ z : Int, kR z → K X G Z pc lo (kI z :: st) h) : K X G Z pc lo (kI a :: st) h := by
  obtain ⟨z, hz, e⟩ := kI_norm a
  rw [e]
  exact k z hz
theorem K_eq {a' : Int} (e : a = a') (k : K X G Z pc lo (kI a' :: st) h) : K X G Z pc lo (kI a :: st) h := by
  rw [e]; exact k
theorem K_icmp_eq {off : Int} (tgt : Nat) (hd : X.2.2.2.2[i]? = some (pc, .if_icmp .eq off, 3)) (ht : (pc : Int) + off = (tgt : Int)) (ha : kR a) (hb : kR b) (k1 : a = b → K X G Z tgt lo st h) (k2 : ¬ (a = b) → K X G Z (pc + 3) lo st h) : K X G Z pc lo (kI b :: kI a :: st) h := by
  intro p e s m args below meth c H locs ls C hP hS hl
  refine lv_icmp_eq C.1 C.2.1 (kTab_at C.2.2.2.2.2.2.2.2.2.1 hd) ht (fun q => k1 ?_ p e s m args below meth c H locs ls C hP hS hl) (fun q => k2 ?_ p e s m args below meth c H locs ls C hP hS hl)
  · exact (ofInt_inj32 ha hb).mp q
  · exact fun q2 => q ((ofInt_inj32 ha hb).mpr q2)
theorem K_icmp_eq_any {off : Int} (tgt : Nat) (hd : X.2.2.2.2[i]? = some (pc, .if_icmp .eq off, 3)) (ht : (pc : Int) + off = (tgt : Int)) (k1 : K X G Z tgt lo st h) (k2 : K X G Z (pc + 3) lo st h) : K X G Z pc lo (kI b :: kI a :: st) h := by
  intro p e s m args below meth c H locs ls C hP hS hl
  exact lv_icmp_eq C.1 C.2.1 (kTab_at C.2.2.2.2.2.2.2.2.2.1 hd) ht (fun _ => k1 p e s m args below meth c H locs ls C hP hS hl) (fun _ => k2 p e s m args below meth c H locs ls C hP hS hl)
theorem K_if_eq {off : Int} (tgt : Nat) (hd : X.2.2.2.2[i]? = some (pc, .ifCond .eq off, 3)) (ht : (pc : Int) + off = (tgt : Int)) (ha : kR a) (k1 : a = 0 → K X G Z tgt lo st h) (k2 : ¬ (a = 0) → K X G Z (pc + 3) lo st h) : K X G Z pc lo (kI a :: st) h := by
  intro p e s m args below meth c H locs ls C hP hS hl
  have hb : kR 0 := by decide
  have e0 : Int32.ofInt 0 = 0 := by decide
  refine lv_if_eq C.1 C.2.1 (kTab_at C.2.2.2.2.2.2.2.2.2.1 hd) ht (fun q => k1 ?_ p e s m args below meth c H locs ls C hP hS hl) (fun q => k2 ?_ p e s m args below meth c H locs ls C hP hS hl)
  · exact (ofInt_inj32 ha hb).mp q
  · exact fun q2 => q ((ofInt_inj32 ha hb).mpr q2)
theorem K_if_eq_any {off : Int} (tgt : Nat) (hd : X.2.2.2.2[i]? = some (pc, .ifCond .eq off, 3)) (ht : (pc : Int) + off = (tgt : Int)) (k1 : K X G Z tgt lo st h) (k2 : K X G Z (pc + 3) lo st h) : K X G Z pc lo (kI a :: st) h := by
  intro p e s m args below meth c H locs ls C hP hS hl
  exact lv_if_eq C.1 C.2.1 (kTab_at C.2.2.2.2.2.2.2.2.2.1 hd) ht (fun _ => k1 p e s m args below meth c H locs ls C hP hS hl) (fun _ => k2 p e s m args below meth c H locs ls C hP hS hl)
theorem K_icmp_ne {off : Int} (tgt : Nat) (hd : X.2.2.2.2[i]? = some (pc, .if_icmp .ne off, 3)) (ht : (pc : Int) + off = (tgt : Int)) (ha : kR a) (hb : kR b) (k1 : ¬ a = b → K X G Z tgt lo st h) (k2 : a = b → K X G Z (pc + 3) lo st h) : K X G Z pc lo (kI b :: kI a :: st) h := by
  intro p e s m args below meth c H locs ls C hP hS hl
  refine lv_icmp_ne C.1 C.2.1 (kTab_at C.2.2.2.2.2.2.2.2.2.1 hd) ht (fun q => k1 ?_ p e s m args below meth c H locs ls C hP hS hl) (fun q => k2 ?_ p e s m args below meth c H locs ls C hP hS hl)
  · exact fun q2 => q ((ofInt_inj32 ha hb).mpr q2)
  · exact (ofInt_inj32 ha hb).mp q
theorem K_icmp_ne_any {off : Int} (tgt : Nat) (hd : X.2.2.2.2[i]? = some (pc, .if_icmp .ne off, 3)) (ht : (pc : Int) + off = (tgt : Int)) (k1 : K X G Z tgt lo st h) (k2 : K X G Z (pc + 3) lo st h) : K X G Z pc lo (kI b :: kI a :: st) h := by
  intro p e s m args below meth c H locs ls C hP hS hl
  exact lv_icmp_ne C.1 C.2.1 (kTab_at C.2.2.2.2.2.2.2.2.2.1 hd) ht (fun _ => k1 p e s m args below meth c H locs ls C hP hS hl) (fun _ => k2 p e s m args below meth c H locs ls C hP hS hl)
theorem K_if_ne {off : Int} (tgt : Nat) (hd : X.2.2.2.2[i]? = some (pc, .ifCond .ne off, 3)) (ht : (pc : Int) + off = (tgt : Int)) (ha : kR a) (k1 : ¬ a = 0 → K X G Z tgt lo st h) (k2 : a = 0 → K X G Z (pc + 3) lo st h) : K X G Z pc lo (kI a :: st) h := by
  intro p e s m args below meth c H locs ls C hP hS hl
  have hb : kR 0 := by decide
  have e0 : Int32.ofInt 0 = 0 := by decide
  refine lv_if_ne C.1 C.2.1 (kTab_at C.2.2.2.2.2.2.2.2.2.1 hd) ht (fun q => k1 ?_ p e s m args below meth c H locs ls C hP hS hl) (fun q => k2 ?_ p e s m args below meth c H locs ls C hP hS hl)
  · exact fun q2 => q ((ofInt_inj32 ha hb).mpr q2)
  · exact (ofInt_inj32 ha hb).mp q
theorem K_if_ne_any {off : Int} (tgt : Nat) (hd : X.2.2.2.2[i]? = some (pc, .ifCond .ne off, 3)) (ht : (pc : Int) + off = (tgt : Int)) (k1 : K X G Z tgt lo st h) (k2 : K X G Z (pc + 3) lo st h) : K X G Z pc lo (kI a :: st) h := by
  intro p e s m args below meth c H locs ls C hP hS hl
  exact lv_if_ne C.1 C.2.1 (kTab_at C.2.2.2.2.2.2.2.2.2.1 hd) ht (fun _ => k1 p e s m args below meth c H locs ls C hP hS hl) (fun _ => k2 p e s m args below meth c H locs ls C hP hS hl)
theorem K_icmp_lt {off : Int} (tgt : Nat) (hd : X.2.2.2.2[i]? = some (pc, .if_icmp .lt off, 3)) (ht : (pc : Int) + off = (tgt : Int)) (ha : kR a) (hb : kR b) (k1 : a < b → K X G Z tgt lo st h) (k2 : ¬ (a < b) → K X G Z (pc + 3) lo st h) : K X G Z pc lo (kI b :: kI a :: st) h := by
  intro p e s m args below meth c H locs ls C hP hS hl
  refine lv_icmp_lt C.1 C.2.1 (kTab_at C.2.2.2.2.2.2.2.2.2.1 hd) ht (fun q => k1 ?_ p e s m args below meth c H locs ls C hP hS hl) (fun q => k2 ?_ p e s m args below meth c H locs ls C hP hS hl)
  · exact (kR_lt ha hb).mp q
  · exact fun q2 => q ((kR_lt ha hb).mpr q2)
theorem K_icmp_lt_any {off : Int} (tgt : Nat) (hd : X.2.2.2.2[i]? = some (pc, .if_icmp .lt off, 3)) (ht : (pc : Int) + off = (tgt : Int)) (k1 : K X G Z tgt lo st h) (k2 : K X G Z (pc + 3) lo st h) : K X G Z pc lo (kI b :: kI a :: st) h := by
  intro p e s m args below meth c H locs ls C hP hS hl
  exact lv_icmp_lt C.1 C.2.1 (kTab_at C.2.2.2.2.2.2.2.2.2.1 hd) ht (fun _ => k1 p e s m args below meth c H locs ls C hP hS hl) (fun _ => k2 p e s m args below meth c H locs ls C hP hS hl)
theorem K_if_lt {off : Int} (tgt : Nat) (hd : X.2.2.2.2[i]? = some (pc, .ifCond .lt off, 3)) (ht : (pc : Int) + off = (tgt : Int)) (ha : kR a) (k1 : a < 0 → K X G Z tgt lo st h) (k2 : ¬ (a < 0) → K X G Z (pc + 3) lo st h) : K X G Z pc lo (kI a :: st) h := by
  intro p e s m args below meth c H locs ls C hP hS hl
  have hb : kR 0 := by decide
  have e0 : Int32.ofInt 0 = 0 := by decide
  refine lv_if_lt C.1 C.2.1 (kTab_at C.2.2.2.2.2.2.2.2.2.1 hd) ht (fun q => k1 ?_ p e s m args below meth c H locs ls C hP hS hl) (fun q => k2 ?_ p e s m args below meth c H locs ls C hP hS hl)
  · exact (kR_lt ha hb).mp q
  · exact fun q2 => q ((kR_lt ha hb).mpr q2)
theorem K_if_lt_any {off : Int} (tgt : Nat) (hd : X.2.2.2.2[i]? = some (pc, .ifCond .lt off, 3)) (ht : (pc : Int) + off = (tgt : Int)) (k1 : K X G Z tgt lo st h) (k2 : K X G Z (pc + 3) lo st h) : K X G Z pc lo (kI a :: st) h := by
  intro p e s m args below meth c H locs ls C hP hS hl
  exact lv_if_lt C.1 C.2.1 (kTab_at C.2.2.2.2.2.2.2.2.2.1 hd) ht (fun _ => k1 p e s m args below meth c H locs ls C hP hS hl) (fun _ => k2 p e s m args below meth c H locs ls C hP hS hl)
theorem K_icmp_ge {off : Int} (tgt : Nat) (hd : X.2.2.2.2[i]? = some (pc, .if_icmp .ge off, 3)) (ht : (pc : Int) + off = (tgt : Int)) (ha : kR a) (hb : kR b) (k1 : b ≤ a → K X G Z tgt lo st h) (k2 : ¬ (b ≤ a) → K X G Z (pc + 3) lo st h) : K X G Z pc lo (kI b :: kI a :: st) h := by
  intro p e s m args below meth c H locs ls C hP hS hl
  refine lv_icmp_ge C.1 C.2.1 (kTab_at C.2.2.2.2.2.2.2.2.2.1 hd) ht (fun q => k1 ?_ p e s m args below meth c H locs ls C hP hS hl) (fun q => k2 ?_ p e s m args below meth c H locs ls C hP hS hl)
  · exact (kR_le hb ha).mp q
  · exact fun q2 => q ((kR_le hb ha).mpr q2)
theorem K_icmp_ge_any {off : Int} (tgt : Nat) (hd : X.2.2.2.2[i]? = some (pc, .if_icmp .ge off, 3)) (ht : (pc : Int) + off = (tgt : Int)) (k1 : K X G Z tgt lo st h) (k2 : K X G Z (pc + 3) lo st h) : K X G Z pc lo (kI b :: kI a :: st) h := by
  intro p e s m args below meth c H locs ls C hP hS hl
  exact lv_icmp_ge C.1 C.2.1 (kTab_at C.2.2.2.2.2.2.2.2.2.1 hd) ht (fun _ => k1 p e s m args below meth c H locs ls C hP hS hl) (fun _ => k2 p e s m args below meth c H locs ls C hP hS hl)
theorem K_if_ge {off : Int} (tgt : Nat) (hd : X.2.2.2.2[i]? = some (pc, .ifCond .ge off, 3)) (ht : (pc : Int) + off = (tgt : Int)) (ha : kR a) (k1 : 0 ≤ a → K X G Z tgt lo st h) (k2 : ¬ (0 ≤ a) → K X G Z (pc + 3) lo st h) : K X G Z pc lo (kI a :: st) h := by
  intro p e s m args below meth c H locs ls C hP hS hl
  have hb : kR 0 := by decide
  have e0 : Int32.ofInt 0 = 0 := by decide
  refine lv_if_ge C.1 C.2.1 (kTab_at C.2.2.2.2.2.2.2.2.2.1 hd) ht (fun q => k1 ?_ p e s m args below meth c H locs ls C hP hS hl) (fun q => k2 ?_ p e s m args below meth c H locs ls C hP hS hl)
  · exact (kR_le hb ha).mp q
  · exact fun q2 => q ((kR_le hb ha).mpr q2)
theorem K_if_ge_any {off : Int} (tgt : Nat) (hd : X.2.2.2.2[i]? = some (pc, .ifCond .ge off, 3)) (ht : (pc : Int) + off = (tgt : Int)) (k1 : K X G Z tgt lo st h) (k2 : K X G Z (pc + 3) lo st h) : K X G Z pc lo (kI a :: st) h := by
  intro p e s m args below meth c H locs ls C hP hS hl
  exact lv_if_ge C.1 C.2.1 (kTab_at C.2.2.2.2.2.2.2.2.2.1 hd) ht (fun _ => k1 p e s m args below meth c H locs ls C hP hS hl) (fun _ => k2 p e s m args below meth c H locs ls C hP hS hl)
theorem K_icmp_gt {off : Int} (tgt : Nat) (hd : X.2.2.2.2[i]? = some (pc, .if_icmp .gt off, 3)) (ht : (pc : Int) + off = (tgt : Int)) (ha : kR a) (hb : kR b) (k1 : b < a → K X G Z tgt lo st h) (k2 : ¬ (b < a) → K X G Z (pc + 3) lo st h) : K X G Z pc lo (kI b :: kI a :: st) h := by
  intro p e s m args below meth c H locs ls C hP hS hl
  refine lv_icmp_gt C.1 C.2.1 (kTab_at C.2.2.2.2.2.2.2.2.2.1 hd) ht (fun q => k1 ?_ p e s m args below meth c H locs ls C hP hS hl) (fun q => k2 ?_ p e s m args below meth c H locs ls C hP hS hl)
  · exact (kR_lt hb ha).mp q
  · exact fun q2 => q ((kR_lt hb ha).mpr q2)
theorem K_icmp_gt_any {off : Int} (tgt : Nat) (hd : X.2.2.2.2[i]? = some (pc, .if_icmp .gt off, 3)) (ht : (pc : Int) + off = (tgt : Int)) (k1 : K X G Z tgt lo st h) (k2 : K X G Z (pc + 3) lo st h) : K X G Z pc lo (kI b :: kI a :: st) h := by
  intro p e s m args below meth c H locs ls C hP hS hl
  exact lv_icmp_gt C.1 C.2.1 (kTab_at C.2.2.2.2.2.2.2.2.2.1 hd) ht (fun _ => k1 p e s m args below meth c H locs ls C hP hS hl) (fun _ => k2 p e s m args below meth c H locs ls C hP hS hl)
theorem K_if_gt {off : Int} (tgt : Nat) (hd : X.2.2.2.2[i]? = some (pc, .ifCond .gt off, 3)) (ht : (pc : Int) + off = (tgt : Int)) (ha : kR a) (k1 : 0 < a → K X G Z tgt lo st h) (k2 : ¬ (0 < a) → K X G Z (pc + 3) lo st h) : K X G Z pc lo (kI a :: st) h := by
  intro p e s m args below meth c H locs ls C hP hS hl
  have hb : kR 0 := by decide
  have e0 : Int32.ofInt 0 = 0 := by decide
  refine lv_if_gt C.1 C.2.1 (kTab_at C.2.2.2.2.2.2.2.2.2.1 hd) ht (fun q => k1 ?_ p e s m args below meth c H locs ls C hP hS hl) (fun q => k2 ?_ p e s m args below meth c H locs ls C hP hS hl)
  · exact (kR_lt hb ha).mp q
  · exact fun q2 => q ((kR_lt hb ha).mpr q2)
theorem K_if_gt_any {off : Int} (tgt : Nat) (hd : X.2.2.2.2[i]? = some (pc, .ifCond .gt off, 3)) (ht : (pc : Int) + off = (tgt : Int)) (k1 : K X G Z tgt lo st h) (k2 : K X G Z (pc + 3) lo st h) : K X G Z pc lo (kI a :: st) h := by
  intro p e s m args below meth c H locs ls C hP hS hl
  exact lv_if_gt C.1 C.2.1 (kTab_at C.2.2.2.2.2.2.2.2.2.1 hd) ht (fun _ => k1 p e s m args below meth c H locs ls C hP hS hl) (fun _ => k2 p e s m args below meth c H locs ls C hP hS hl)
theorem K_icmp_le {off : Int} (tgt : Nat) (hd : X.2.2.2.2[i]? = some (pc, .if_icmp .le off, 3)) (ht : (pc : Int) + off = (tgt : Int)) (ha : kR a) (hb : kR b) (k1 : a ≤ b → K X G Z tgt lo st h) (k2 : ¬ (a ≤ b) → K X G Z (pc + 3) lo st h) : K X G Z pc lo (kI b :: kI a :: st) h := by
  intro p e s m args below meth c H locs ls C hP hS hl
  refine lv_icmp_le C.1 C.2.1 (kTab_at C.2.2.2.2.2.2.2.2.2.1 hd) ht (fun q => k1 ?_ p e s m args below meth c H locs ls C hP hS hl) (fun q => k2 ?_ p e s m args below meth c H locs ls C hP hS hl)
  · exact (kR_le ha hb).mp q
  · exact fun q2 => q ((kR_le ha hb).mpr q2)
theorem K_icmp_le_any {off : Int} (tgt : Nat) (hd : X.2.2.2.2[i]? = some (pc, .if_icmp .le off, 3)) (ht : (pc : Int) + off = (tgt : Int)) (k1 : K X G Z tgt lo st h) (k2 : K X G Z (pc + 3) lo st h) : K X G Z pc lo (kI b :: kI a :: st) h := by
  intro p e s m args below meth c H locs ls C hP hS hl
  exact lv_icmp_le C.1 C.2.1 (kTab_at C.2.2.2.2.2.2.2.2.2.1 hd) ht (fun _ => k1 p e s m args below meth c H locs ls C hP hS hl) (fun _ => k2 p e s m args below meth c H locs ls C hP hS hl)
theorem K_if_le {off : Int} (tgt : Nat) (hd : X.2.2.2.2[i]? = some (pc, .ifCond .le off, 3)) (ht : (pc : Int) + off = (tgt : Int)) (ha : kR a) (k1 : a ≤ 0 → K X G Z tgt lo st h) (k2 : ¬ (a ≤ 0) → K X G Z (pc + 3) lo st h) : K X G Z pc lo (kI a :: st) h := by
  intro p e s m args below meth c H locs ls C hP hS hl
  have hb : kR 0 := by decide
  have e0 : Int32.ofInt 0 = 0 := by decide
  refine lv_if_le C.1 C.2.1 (kTab_at C.2.2.2.2.2.2.2.2.2.1 hd) ht (fun q => k1 ?_ p e s m args below meth c H locs ls C hP hS hl) (fun q => k2 ?_ p e s m args below meth c H locs ls C hP hS hl)
  · exact (kR_le ha hb).mp q
  · exact fun q2 => q ((kR_le ha hb).mpr q2)
theorem K_if_le_any {off : Int} (tgt : Nat) (hd : X.2.2.2.2[i]? = some (pc, .ifCond .le off, 3)) (ht : (pc : Int) + off = (tgt : Int)) (k1 : K X G Z tgt lo st h) (k2 : K X G Z (pc + 3) lo st h) : K X G Z pc lo (kI a :: st) h := by
  intro p e s m args below meth c H locs ls C hP hS hl
  exact lv_if_le C.1 C.2.1 (kTab_at C.2.2.2.2.2.2.2.2.2.1 hd) ht (fun _ => k1 p e s m args below meth c H locs ls C hP hS hl) (fun _ => k2 p e s m args below meth c H locs ls C hP hS hl)
theorem K_tableIn {dflt lo0 hi off : Int} {offs : Array Int} {len : Nat} (tgt : Nat) (ha : kR a) (hd : X.2.2.2.2[i]? = some (pc, .tableswitch dflt lo0 hi offs, len)) (h1 : ¬ a < lo0) (h2 : ¬ hi < a) (ho : offs[(a - lo0).toNat]? = some off) (ht : (pc : Int) + off = (tgt : Int)) (k : K X G Z tgt lo st h) : K X G Z pc lo (kI a :: st) h := by
  intro p e s m args below meth c H locs ls C hP hS hl
  exact lv_tableIn C.1 C.2.1 (kTab_at C.2.2.2.2.2.2.2.2.2.1 hd) (by rw [kR_toInt ha]; exact h1) (by rw [kR_toInt ha]; exact h2) (by rw [kR_toInt ha]; exact ho) ht (k p e s m args below meth c H locs ls C hP hS hl)
theorem K_tableOut {dflt lo0 hi : Int} {offs : Array Int} {len : Nat} (tgt : Nat) (ha : kR a) (hd : X.2.2.2.2[i]? = some (pc, .tableswitch dflt lo0 hi offs, len)) (h1 : a < lo0 ∨ hi < a) (ht : (pc : Int) + dflt = (tgt : Int)) (k : K X G Z tgt lo st h) : K X G Z pc lo (kI a :: st) h := by
  intro p e s m args below meth c H locs ls C hP hS hl
  exact lv_tableOut C.1 C.2.1 (kTab_at C.2.2.2.2.2.2.2.2.2.1 hd) (by rw [kR_toInt ha]; exact h1) ht (k p e s m args below meth c H locs ls C hP hS hl)
end Rules2
