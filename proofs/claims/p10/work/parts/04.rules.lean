/-! one rule an instruction -/
section Rules
variable {X : kX} {G : kG} {Z : kZ} {pc i n : Nat} {lo lo' : List (Nat × Value)} {st : List Value} {h : kH} {a b : Int} {v w : Value}
theorem K_iconst {z : Int} (hd : X.2.2.2.2[i]? = some (pc, .iconst z, 1)) (k : K X G Z (pc + 1) lo (kI z :: st) h) : K X G Z pc lo st h := by
  intro p e s m args below meth c H locs ls C hP hS hl
  exact lv_iconst C.1 C.2.1 (kTab_at C.2.2.2.2.2.2.2.2.2.1 hd) rfl (k p e s m args below meth c H locs ls C hP hS hl)
theorem K_bipush {z : Int} (hd : X.2.2.2.2[i]? = some (pc, .bipush z, 2)) (hz : (Int8.ofInt z).toInt32 = Int32.ofInt z) (k : K X G Z (pc + 2) lo (kI z :: st) h) : K X G Z pc lo st h := by
  intro p e s m args below meth c H locs ls C hP hS hl
  exact lv_bipush C.1 C.2.1 (kTab_at C.2.2.2.2.2.2.2.2.2.1 hd) hz (k p e s m args below meth c H locs ls C hP hS hl)
theorem K_sipush {z : Int} (hd : X.2.2.2.2[i]? = some (pc, .sipush z, 3)) (hz : (Int16.ofInt z).toInt32 = Int32.ofInt z) (k : K X G Z (pc + 3) lo (kI z :: st) h) : K X G Z pc lo st h := by
  intro p e s m args below meth c H locs ls C hP hS hl
  exact lv_sipush C.1 C.2.1 (kTab_at C.2.2.2.2.2.2.2.2.2.1 hd) hz (k p e s m args below meth c H locs ls C hP hS hl)
theorem K_lconst {z : Fin 2} (y : Int) (hd : X.2.2.2.2[i]? = some (pc, .lconst z, 1)) (hz : Int64.ofNat (z : Nat) = Int64.ofInt y) (k : K X G Z (pc + 1) lo (kJ y :: st) h) : K X G Z pc lo st h := by
  intro p e s m args below meth c H locs ls C hP hS hl
  exact lv_lconst C.1 C.2.1 (kTab_at C.2.2.2.2.2.2.2.2.2.1 hd) hz (k p e s m args below meth c H locs ls C hP hS hl)
theorem K_ldc2 {idx : Nat} {y : Int64} (z : Int) (hd : X.2.2.2.2[i]? = some (pc, .ldc2_w idx, 3)) (hw : Cond.constantLong X.1 idx y ∈ lw_tbl) (hy : y = Int64.ofInt z) (k : K X G Z (pc + 3) lo (kJ z :: st) h) : K X G Z pc lo st h := by
  intro p e s m args below meth c H locs ls C hP hS hl
  subst hy
  exact lv_ldc2 C.1 C.2.1 C.2.2.2.1 (C.2.2.2.2.1 _ (kw hw rfl)) (kTab_at C.2.2.2.2.2.2.2.2.2.1 hd) (k p e s m args below meth c H locs ls C hP hS hl)
theorem K_iload_n {j : Fin 4} (hd : X.2.2.2.2[i]? = some (pc, .iload_n j, 1)) (hl : kGet lo j.val = some (kI a)) (k : K X G Z (pc + 1) lo (kI a :: st) h) : K X G Z pc lo st h := by
  intro p e s m args below meth c H locs ls C hP hS hls
  exact lv_iload_n C.1 C.2.1 (kTab_at C.2.2.2.2.2.2.2.2.2.1 hd) rfl (kGet_at hls hl) (k p e s m args below meth c H locs ls C hP hS hls)
theorem K_iload {j : Nat} (hd : X.2.2.2.2[i]? = some (pc, .iload j, 2)) (hl : kGet lo j = some (kI a)) (k : K X G Z (pc + 2) lo (kI a :: st) h) : K X G Z pc lo st h := by
  intro p e s m args below meth c H locs ls C hP hS hls
  exact lv_iload C.1 C.2.1 (kTab_at C.2.2.2.2.2.2.2.2.2.1 hd) (kGet_at hls hl) (k p e s m args below meth c H locs ls C hP hS hls)
theorem K_lload_n {j : Fin 4} (hd : X.2.2.2.2[i]? = some (pc, .lload_n j, 1)) (hl : kGet lo j.val = some (kJ a)) (k : K X G Z (pc + 1) lo (kJ a :: st) h) : K X G Z pc lo st h := by
  intro p e s m args below meth c H locs ls C hP hS hls
  exact lv_lload_n C.1 C.2.1 (kTab_at C.2.2.2.2.2.2.2.2.2.1 hd) rfl (kGet_at hls hl) (k p e s m args below meth c H locs ls C hP hS hls)
theorem K_lload {j : Nat} (hd : X.2.2.2.2[i]? = some (pc, .lload j, 2)) (hl : kGet lo j = some (kJ a)) (k : K X G Z (pc + 2) lo (kJ a :: st) h) : K X G Z pc lo st h := by
  intro p e s m args below meth c H locs ls C hP hS hls
  exact lv_lload C.1 C.2.1 (kTab_at C.2.2.2.2.2.2.2.2.2.1 hd) (kGet_at hls hl) (k p e s m args below meth c H locs ls C hP hS hls)
theorem K_aload_n {j : Fin 4} {q : Nat} (hd : X.2.2.2.2[i]? = some (pc, .aload_n j, 1)) (hl : kGet lo j.val = some (.ref q)) (k : K X G Z (pc + 1) lo (.ref q :: st) h) : K X G Z pc lo st h := by
  intro p e s m args below meth c H locs ls C hP hS hls
  exact lv_aload_n C.1 C.2.1 (kTab_at C.2.2.2.2.2.2.2.2.2.1 hd) rfl (kGet_at hls hl) (k p e s m args below meth c H locs ls C hP hS hls)
theorem K_istore_n {j : Fin 4} (hd : X.2.2.2.2[i]? = some (pc, .istore_n j, 1)) (hn : j.val < X.2.2.1) (hl : ((j.val, kI a) :: lo.filter (fun q => !(q.1 == j.val) && !(q.1 + 1 == j.val && q.2.category == 2))) = lo') (k : K X G Z (pc + 1) lo' st h) : K X G Z pc lo (kI a :: st) h := by
  intro p e s m args below meth c H locs ls C hP hS hls
  exact lv_istore_n C.1 C.2.1 (kTab_at C.2.2.2.2.2.2.2.2.2.1 hd) rfl hls hn hl (fun ls' hl' => k p e s m args below meth c H locs ls' C hP hS hl')
theorem K_istore {j : Nat} (hd : X.2.2.2.2[i]? = some (pc, .istore j, 2)) (hn : j < X.2.2.1) (hl : ((j, kI a) :: lo.filter (fun q => !(q.1 == j) && !(q.1 + 1 == j && q.2.category == 2))) = lo') (k : K X G Z (pc + 2) lo' st h) : K X G Z pc lo (kI a :: st) h := by
  intro p e s m args below meth c H locs ls C hP hS hls
  exact lv_istore C.1 C.2.1 (kTab_at C.2.2.2.2.2.2.2.2.2.1 hd) hls hn hl (fun ls' hl' => k p e s m args below meth c H locs ls' C hP hS hl')
theorem K_lstore_n {j : Fin 4} (hd : X.2.2.2.2[i]? = some (pc, .lstore_n j, 1)) (hn : j.val + 1 < X.2.2.1) (hl : ((j.val, kJ a) :: lo.filter (fun q => !(q.1 == j.val) && (!(q.1 == j.val + 1) && !(q.1 + 1 == j.val && q.2.category == 2)))) = lo') (k : K X G Z (pc + 1) lo' st h) : K X G Z pc lo (kJ a :: st) h := by
  intro p e s m args below meth c H locs ls C hP hS hls
  exact lv_lstore_n C.1 C.2.1 (kTab_at C.2.2.2.2.2.2.2.2.2.1 hd) rfl hls hn hl (fun ls' hl' => k p e s m args below meth c H locs ls' C hP hS hl')
theorem K_astore_n {j : Fin 4} {q : Nat} (hd : X.2.2.2.2[i]? = some (pc, .astore_n j, 1)) (hn : j.val < X.2.2.1) (hl : ((j.val, Value.ref q) :: lo.filter (fun q => !(q.1 == j.val) && !(q.1 + 1 == j.val && q.2.category == 2))) = lo') (k : K X G Z (pc + 1) lo' st h) : K X G Z pc lo (.ref q :: st) h := by
  intro p e s m args below meth c H locs ls C hP hS hls
  exact lv_astore_n C.1 C.2.1 (kTab_at C.2.2.2.2.2.2.2.2.2.1 hd) rfl hls hn hl (fun ls' hl' => k p e s m args below meth c H locs ls' C hP hS hl')
theorem K_iinc {j q : Nat} {z : Int} (hd : X.2.2.2.2[i]? = some (pc, .iinc j z, 3)) (hq : lo[q]? = some (j, kI a)) (hn : j < X.2.2.1) (hl : ((j, kI (a + z)) :: lo.filter (fun q => !(q.1 == j) && !(q.1 + 1 == j && q.2.category == 2))) = lo') (k : K X G Z (pc + 3) lo' st h) : K X G Z pc lo st h := by
  intro p e s m args below meth c H locs ls C hP hS hls
  exact lv_iinc (v := Int32.ofInt (a + z)) C.1 C.2.1 (kTab_at C.2.2.2.2.2.2.2.2.2.1 hd) hls hq (by rw [Int32.ofInt_add]) hn hl (fun ls' hl' => k p e s m args below meth c H locs ls' C hP hS hl')
theorem K_iadd (hd : X.2.2.2.2[i]? = some (pc, .iadd, 1)) (k : K X G Z (pc + 1) lo (kI (a + b) :: st) h) : K X G Z pc lo (kI b :: kI a :: st) h := by
  intro p e s m args below meth c H locs ls C hP hS hl
  refine lv_iadd C.1 C.2.1 (kTab_at C.2.2.2.2.2.2.2.2.2.1 hd) ?_
  rw [← Int32.ofInt_add]
  exact k p e s m args below meth c H locs ls C hP hS hl
theorem K_isub (hd : X.2.2.2.2[i]? = some (pc, .isub, 1)) (k : K X G Z (pc + 1) lo (kI (a - b) :: st) h) : K X G Z pc lo (kI b :: kI a :: st) h := by
  intro p e s m args below meth c H locs ls C hP hS hl
  refine lv_isub C.1 C.2.1 (kTab_at C.2.2.2.2.2.2.2.2.2.1 hd) ?_
  rw [← Int32.ofInt_sub]
  exact k p e s m args below meth c H locs ls C hP hS hl
theorem K_imul (hd : X.2.2.2.2[i]? = some (pc, .imul, 1)) (k : K X G Z (pc + 1) lo (kI (a * b) :: st) h) : K X G Z pc lo (kI b :: kI a :: st) h := by
  intro p e s m args below meth c H locs ls C hP hS hl
  refine lv_imul C.1 C.2.1 (kTab_at C.2.2.2.2.2.2.2.2.2.1 hd) ?_
  rw [← Int32.ofInt_mul]
  exact k p e s m args below meth c H locs ls C hP hS hl
theorem K_ineg (hd : X.2.2.2.2[i]? = some (pc, .ineg, 1)) (k : K X G Z (pc + 1) lo (kI (-a) :: st) h) : K X G Z pc lo (kI a :: st) h := by
  intro p e s m args below meth c H locs ls C hP hS hl
  refine lv_ineg C.1 C.2.1 (kTab_at C.2.2.2.2.2.2.2.2.2.1 hd) ?_
  rw [← Int32.ofInt_neg]
  exact k p e s m args below meth c H locs ls C hP hS hl
/-- operations on bits, as functions of ints; their values are ints of 32 bits -/
def kAnd (a b : Int) : Int := (Int32.ofInt a &&& Int32.ofInt b).toInt
def kOr (a b : Int) : Int := (Int32.ofInt a ||| Int32.ofInt b).toInt
def kXor (a b : Int) : Int := (Int32.ofInt a ^^^ Int32.ofInt b).toInt
def kShl (a b : Int) : Int := (Int32.ofInt a <<< (Int32.ofInt b &&& 31)).toInt
def kShr (a b : Int) : Int := (Int32.ofInt a >>> (Int32.ofInt b &&& 31)).toInt
def kUshr (a b : Int) : Int := ((Int32.ofInt a).toUInt32 >>> ((Int32.ofInt b).toUInt32 &&& Int32.toUInt32 31)).toInt32.toInt
def kDiv (a b : Int) : Int := (Int32.ofInt a / Int32.ofInt b).toInt
def kRem (a b : Int) : Int := (Int32.ofInt a - Int32.ofInt a / Int32.ofInt b * Int32.ofInt b).toInt
theorem K_iand (hd : X.2.2.2.2[i]? = some (pc, .iand, 1)) (k : K X G Z (pc + 1) lo (kI (kAnd a b) :: st) h) : K X G Z pc lo (kI b :: kI a :: st) h := by
  intro p e s m args below meth c H locs ls C hP hS hl
  refine lv_iand C.1 C.2.1 (kTab_at C.2.2.2.2.2.2.2.2.2.1 hd) ?_
  have := k p e s m args below meth c H locs ls C hP hS hl
  rwa [kI, kAnd, Int32.ofInt_toInt] at this
theorem K_ior (hd : X.2.2.2.2[i]? = some (pc, .ior, 1)) (k : K X G Z (pc + 1) lo (kI (kOr a b) :: st) h) : K X G Z pc lo (kI b :: kI a :: st) h := by
  intro p e s m args below meth c H locs ls C hP hS hl
  refine lv_ior C.1 C.2.1 (kTab_at C.2.2.2.2.2.2.2.2.2.1 hd) ?_
  have := k p e s m args below meth c H locs ls C hP hS hl
  rwa [kI, kOr, Int32.ofInt_toInt] at this
theorem K_ixor (hd : X.2.2.2.2[i]? = some (pc, .ixor, 1)) (k : K X G Z (pc + 1) lo (kI (kXor a b) :: st) h) : K X G Z pc lo (kI b :: kI a :: st) h := by
  intro p e s m args below meth c H locs ls C hP hS hl
  refine lv_ixor C.1 C.2.1 (kTab_at C.2.2.2.2.2.2.2.2.2.1 hd) ?_
  have := k p e s m args below meth c H locs ls C hP hS hl
  rwa [kI, kXor, Int32.ofInt_toInt] at this
theorem K_ishl (hd : X.2.2.2.2[i]? = some (pc, .ishl, 1)) (k : K X G Z (pc + 1) lo (kI (kShl a b) :: st) h) : K X G Z pc lo (kI b :: kI a :: st) h := by
  intro p e s m args below meth c H locs ls C hP hS hl
  refine lv_ishl C.1 C.2.1 (kTab_at C.2.2.2.2.2.2.2.2.2.1 hd) ?_
  have := k p e s m args below meth c H locs ls C hP hS hl
  rwa [kI, kShl, Int32.ofInt_toInt] at this
theorem K_ishr (hd : X.2.2.2.2[i]? = some (pc, .ishr, 1)) (k : K X G Z (pc + 1) lo (kI (kShr a b) :: st) h) : K X G Z pc lo (kI b :: kI a :: st) h := by
  intro p e s m args below meth c H locs ls C hP hS hl
  refine lv_ishr C.1 C.2.1 (kTab_at C.2.2.2.2.2.2.2.2.2.1 hd) ?_
  have := k p e s m args below meth c H locs ls C hP hS hl
  rwa [kI, kShr, Int32.ofInt_toInt] at this
theorem K_iushr (hd : X.2.2.2.2[i]? = some (pc, .iushr, 1)) (k : K X G Z (pc + 1) lo (kI (kUshr a b) :: st) h) : K X G Z pc lo (kI b :: kI a :: st) h := by
  intro p e s m args below meth c H locs ls C hP hS hl
  refine lv_iushr C.1 C.2.1 (kTab_at C.2.2.2.2.2.2.2.2.2.1 hd) rfl ?_
  have := k p e s m args below meth c H locs ls C hP hS hl
  rwa [kI, kUshr, Int32.ofInt_toInt] at this
theorem kNe0 (hb : kR b) (h0 : b ≠ 0) : ¬ Int32.ofInt b = 0 := fun e => h0 ((ofInt_inj32 hb (by decide)).mp (e.trans (by decide)))
theorem K_idiv (hd : X.2.2.2.2[i]? = some (pc, .idiv, 1)) (hb : kR b) (h0 : b ≠ 0) (k : K X G Z (pc + 1) lo (kI (kDiv a b) :: st) h) : K X G Z pc lo (kI b :: kI a :: st) h := by
  intro p e s m args below meth c H locs ls C hP hS hl
  refine lv_idiv C.1 C.2.1 (kTab_at C.2.2.2.2.2.2.2.2.2.1 hd) (kNe0 hb h0) ?_
  have := k p e s m args below meth c H locs ls C hP hS hl
  rwa [kI, kDiv, Int32.ofInt_toInt] at this
theorem K_irem (hd : X.2.2.2.2[i]? = some (pc, .irem, 1)) (hb : kR b) (h0 : b ≠ 0) (k : K X G Z (pc + 1) lo (kI (kRem a b) :: st) h) : K X G Z pc lo (kI b :: kI a :: st) h := by
  intro p e s m args below meth c H locs ls C hP hS hl
  refine lv_irem C.1 C.2.1 (kTab_at C.2.2.2.2.2.2.2.2.2.1 hd) (kNe0 hb h0) ?_
  have := k p e s m args below meth c H locs ls C hP hS hl
  rwa [kI, kRem, Int32.ofInt_toInt] at this
end Rules
