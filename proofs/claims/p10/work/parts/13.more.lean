/-! fewer locals; the ring's fleets, the slots -/
theorem K_drop {X : kX} {G : kG} {Z : kZ} {pc : Nat} {lo lo' : List (Nat × Value)} {st : List Value} {h : kH} (ks : List Nat) (hl : lv_pick lo ks = lo') (k : K X G Z pc lo' st h) : K X G Z pc lo st h := by
  intro p e s m args below meth c H locs ls C hP hS hls
  exact k p e s m args below meth c H locs ls C hP hS (lv_sub hls ks hl)
theorem ringAt {a : Int} (h0 : 0 ≤ a) (h1 : a ≤ 15) : ∃ q, [25, 32, 39, 46, 53, 60, 67, 74, 81, 88, 95, 102, 109, 116, 123, 130][a.toNat]? = some q ∧ q ∈ FL := by
  have := (by decide : ∀ i, i < 16 → ∃ q, [25, 32, 39, 46, 53, 60, 67, 74, 81, 88, 95, 102, 109, 116, 123, 130][i]? = some q ∧ q ∈ FL ∧ 25 ≤ q) a.toNat (by omega)
  obtain ⟨q, h2, h3, -⟩ := this
  exact ⟨q, h2, h3⟩
def SL : List Nat := [138, 149]
theorem slotAt {a : Int} (h0 : 0 ≤ a) (h1 : a ≤ 1) : ∃ q, [138, 149][a.toNat]? = some q ∧ q ∈ SL := by
  rcases (show a = 0 ∨ a = 1 by omega) with rfl | rfl
  · exact ⟨138, rfl, by decide⟩
  · exact ⟨149, rfl, by decide⟩
theorem S_Sl {q : Nat} (hq : q ∈ SL) : kS q = (5, [q + 1 + 2, 0]) := (by decide +kernel : ∀ q ∈ SL, kS q = (5, [q + 1 + 2, 0])) q hq
theorem sl_sk {q : Nat} (hq : q ∈ SL) : q + 1 ∈ SK := (by decide : ∀ q ∈ SL, q + 1 ∈ SK) q hq
section St2
variable {g : kGh} {h : kH} {v : Int}
theorem sl_ok : ∀ q ∈ SL, kBk q = 18 ∧ (2 ≤ q ∧ q ≠ 184 ∧ q ≠ 187 ∧ q ≠ 191 ∧ q ≠ 200) := by decide +kernel
theorem rd_used {q : Nat} (hI : Gd g h) (hq : q ∈ SL) : 0 ≤ h q 1 ∧ h q 1 ≤ 1 := kPk18.mp ((kP_of (sl_ok q hq).1).mp (hI.1 q 1)) rfl
theorem st_used {q : Nat} (hI : Gd g h) (hq : q ∈ SL) (hv : 0 ≤ v ∧ v ≤ 1) : Gd g (kU h q 1 v) := Gd.st ((kP_of (sl_ok q hq).1).mpr (kPk18.mpr fun _ => hv)) (fr_of2 (sl_ok q hq).2) hI
theorem cp_free {sp dp n c c' : Nat} (hI : Gd g h) (hb : kBk c' = 0) (h1 : 2 ≤ c' ∧ c' ≠ 184 ∧ c' ≠ 187 ∧ c' ≠ 191 ∧ c' ≠ 200) : Gd g (kCpy h c c' sp dp n) := Gd.cp (fun j v _ _ => kP_any hb) (fun i => fr_of2 h1) hI
theorem st_len {g : kGh} (hI : Gd g h) (hv : 0 ≤ v ∧ v ≤ 74) : Gd (v, g.2) (kU h 1 1 v) := by
  obtain ⟨h0, h1, h2, h3, h4, h5⟩ := hI
  refine ⟨fun d j => ?_, ?_, ?_, ?_, ?_, fun e => MOk.of (kU_c _ _ _ _ (by decide)) (kU_c _ _ _ _ (by decide)) (kU_c _ _ _ _ (by decide)) (by rw [kU_at, if_neg (by omega)]) (h5 e)⟩
  · rw [kU_at]
    by_cases e : d = 1 ∧ j = 1
    · rw [if_pos e, e.1]; exact (kP_of (by decide +kernel : kBk 1 = 4)).mpr (kPk4.mpr fun _ => hv)
    · rw [if_neg e]; exact h0 d j
  · rw [kU_at, if_pos ⟨rfl, rfl⟩]
  · rw [kU_at, if_neg (by omega)]; exact h2
  · rw [kU_at, if_neg (by omega)]; exact h3
  · rw [kU_at, if_neg (by omega)]; exact h4
theorem st_mlength {g : kGh} (hI : Gd g h) (hv : 0 ≤ v ∧ v ≤ 74) : Gd (g.1, g.2.1, v, g.2.2.2) (kU h 184 8 v) := by
  obtain ⟨h0, h1, h2, h3, h4, h5⟩ := hI
  refine ⟨fun d j => ?_, ?_, ?_, ?_, ?_, fun e => MOk.of (kU_c _ _ _ _ (by decide)) (kU_c _ _ _ _ (by decide)) (kU_c _ _ _ _ (by decide)) (by rw [kU_at, if_neg (by omega)]) (h5 e)⟩
  · rw [kU_at]
    by_cases e : d = 184 ∧ j = 8
    · rw [if_pos e, e.1, e.2]; exact (kP_of (by decide +kernel : kBk 184 = 10)).mpr (kPk10.mpr ⟨by omega, by omega, by omega, by omega, by omega⟩)
    · rw [if_neg e]; exact h0 d j
  · rw [kU_at, if_neg (by omega)]; exact h1
  · rw [kU_at, if_neg (by omega)]; exact h2
  · rw [kU_at, if_pos ⟨rfl, rfl⟩]
  · rw [kU_at, if_neg (by omega)]; exact h4
theorem st_seed {g : kGh} (hI : Gd g h) : Gd (g.1, v, g.2.2) (kU h 0 8 v) := by
  obtain ⟨h0, h1, h2, h3, h4, h5⟩ := hI
  refine ⟨fun d j => ?_, ?_, ?_, ?_, ?_, fun e => MOk.of (kU_c _ _ _ _ (by decide)) (kU_c _ _ _ _ (by decide)) (kU_c _ _ _ _ (by decide)) (by rw [kU_at, if_neg (by omega)]) (h5 e)⟩
  · rw [kU_at]
    by_cases e : d = 0 ∧ j = 8
    · rw [if_pos e, e.1]; exact kP_any (by decide +kernel)
    · rw [if_neg e]; exact h0 d j
  · rw [kU_at, if_neg (by omega)]; exact h1
  · rw [kU_at, if_pos ⟨rfl, rfl⟩]
  · rw [kU_at, if_neg (by omega)]; exact h3
  · rw [kU_at, if_neg (by omega)]; exact h4
theorem st_mseed {g : kGh} (hI : Gd g h) : Gd (g.1, g.2.1, g.2.2.1, v, g.2.2.2.2) (kU h 184 22 v) := by
  obtain ⟨h0, h1, h2, h3, h4, h5⟩ := hI
  refine ⟨fun d j => ?_, ?_, ?_, ?_, ?_, fun e => MOk.of (kU_c _ _ _ _ (by decide)) (kU_c _ _ _ _ (by decide)) (kU_c _ _ _ _ (by decide)) (by rw [kU_at, if_neg (by omega)]) (h5 e)⟩
  · rw [kU_at]
    by_cases e : d = 184 ∧ j = 22
    · rw [if_pos e, e.1, e.2]; exact (kP_of (by decide +kernel : kBk 184 = 10)).mpr (kPk10.mpr ⟨by omega, by omega, by omega, by omega, by omega⟩)
    · rw [if_neg e]; exact h0 d j
  · rw [kU_at, if_neg (by omega)]; exact h1
  · rw [kU_at, if_neg (by omega)]; exact h2
  · rw [kU_at, if_neg (by omega)]; exact h3
  · rw [kU_at, if_pos ⟨rfl, rfl⟩]
end St2
/-- nothing but the fleet's own cells has changed -/
def FrF (f : Nat) (h h' : kH) : Prop := ∀ c, c < f ∨ f + 7 ≤ c → h' c = h c
theorem FrF.rf {f : Nat} {h : kH} : FrF f h h := fun _ _ => rfl
theorem FrF.tr {f : Nat} {h h1 h2 : kH} (a : FrF f h h1) (b : FrF f h1 h2) : FrF f h h2 := fun c hc => (b c hc).trans (a c hc)
theorem FrF.st {f k i : Nat} {v : Int} {h h1 : kH} (a : FrF f h h1) (hk : k ≤ 6) : FrF f h (kU h1 (f + k) i v) := fun c hc => (kU_c h1 (f + k) i v (by omega)).trans (a c hc)
theorem FrF.cp {f k c0 sp dp n : Nat} {h h1 : kH} (a : FrF f h h1) (hk : k ≤ 6) : FrF f h (kCpy h1 c0 (f + k) sp dp n) := fun c hc => (show kCpy h1 c0 (f + k) sp dp n c = h1 c by simp [kCpy, show c ≠ f + k by omega]).trans (a c hc)
theorem K_ldcw {X : kX} {G : kG} {Z : kZ} {pc i idx : Nat} {lo : List (Nat × Value)} {st : List Value} {h : kH} {y : Int32} (z : Int) (hd : X.2.2.2.2[i]? = some (pc, .ldc_w idx, 3)) (hw : Cond.constant X.1 idx y ∈ lw_tbl) (hy : y = Int32.ofInt z) (k : K X G Z (pc + 3) lo (kI z :: st) h) : K X G Z pc lo st h := by
  intro p e s m args below meth c H locs ls C hP hS hl
  subst hy
  exact lv_ldcw C.1 C.2.1 C.2.2.2.1 (C.2.2.2.2.1 _ (kw hw rfl)) (kTab_at C.2.2.2.2.2.2.2.2.2.1 hd) (k p e s m args below meth c H locs ls C hP hS hl)
section KAn
variable {X : kX} {G : kG} {Z : kZ} {pc i : Nat} {lo : List (Nat × Value)} {st : List Value} {h : kH} {a b : Int}
theorem K_icmp_eq_an {off : Int} (tgt : Nat) (hd : X.2.2.2.2[i]? = some (pc, .if_icmp .eq off, 3)) (ht : (pc : Int) + off = (tgt : Int)) (k1 : True → K X G Z tgt lo st h) (k2 : True → K X G Z (pc + 3) lo st h) : K X G Z pc lo (kI b :: kI a :: st) h := K_icmp_eq_any tgt hd ht (k1 trivial) (k2 trivial)
theorem K_if_eq_an {off : Int} (tgt : Nat) (hd : X.2.2.2.2[i]? = some (pc, .ifCond .eq off, 3)) (ht : (pc : Int) + off = (tgt : Int)) (k1 : True → K X G Z tgt lo st h) (k2 : True → K X G Z (pc + 3) lo st h) : K X G Z pc lo (kI a :: st) h := K_if_eq_any tgt hd ht (k1 trivial) (k2 trivial)
theorem K_icmp_ne_an {off : Int} (tgt : Nat) (hd : X.2.2.2.2[i]? = some (pc, .if_icmp .ne off, 3)) (ht : (pc : Int) + off = (tgt : Int)) (k1 : True → K X G Z tgt lo st h) (k2 : True → K X G Z (pc + 3) lo st h) : K X G Z pc lo (kI b :: kI a :: st) h := K_icmp_ne_any tgt hd ht (k1 trivial) (k2 trivial)
theorem K_if_ne_an {off : Int} (tgt : Nat) (hd : X.2.2.2.2[i]? = some (pc, .ifCond .ne off, 3)) (ht : (pc : Int) + off = (tgt : Int)) (k1 : True → K X G Z tgt lo st h) (k2 : True → K X G Z (pc + 3) lo st h) : K X G Z pc lo (kI a :: st) h := K_if_ne_any tgt hd ht (k1 trivial) (k2 trivial)
theorem K_icmp_lt_an {off : Int} (tgt : Nat) (hd : X.2.2.2.2[i]? = some (pc, .if_icmp .lt off, 3)) (ht : (pc : Int) + off = (tgt : Int)) (k1 : True → K X G Z tgt lo st h) (k2 : True → K X G Z (pc + 3) lo st h) : K X G Z pc lo (kI b :: kI a :: st) h := K_icmp_lt_any tgt hd ht (k1 trivial) (k2 trivial)
theorem K_if_lt_an {off : Int} (tgt : Nat) (hd : X.2.2.2.2[i]? = some (pc, .ifCond .lt off, 3)) (ht : (pc : Int) + off = (tgt : Int)) (k1 : True → K X G Z tgt lo st h) (k2 : True → K X G Z (pc + 3) lo st h) : K X G Z pc lo (kI a :: st) h := K_if_lt_any tgt hd ht (k1 trivial) (k2 trivial)
theorem K_icmp_ge_an {off : Int} (tgt : Nat) (hd : X.2.2.2.2[i]? = some (pc, .if_icmp .ge off, 3)) (ht : (pc : Int) + off = (tgt : Int)) (k1 : True → K X G Z tgt lo st h) (k2 : True → K X G Z (pc + 3) lo st h) : K X G Z pc lo (kI b :: kI a :: st) h := K_icmp_ge_any tgt hd ht (k1 trivial) (k2 trivial)
theorem K_if_ge_an {off : Int} (tgt : Nat) (hd : X.2.2.2.2[i]? = some (pc, .ifCond .ge off, 3)) (ht : (pc : Int) + off = (tgt : Int)) (k1 : True → K X G Z tgt lo st h) (k2 : True → K X G Z (pc + 3) lo st h) : K X G Z pc lo (kI a :: st) h := K_if_ge_any tgt hd ht (k1 trivial) (k2 trivial)
theorem K_icmp_gt_an {off : Int} (tgt : Nat) (hd : X.2.2.2.2[i]? = some (pc, .if_icmp .gt off, 3)) (ht : (pc : Int) + off = (tgt : Int)) (k1 : True → K X G Z tgt lo st h) (k2 : True → K X G Z (pc + 3) lo st h) : K X G Z pc lo (kI b :: kI a :: st) h := K_icmp_gt_any tgt hd ht (k1 trivial) (k2 trivial)
theorem K_if_gt_an {off : Int} (tgt : Nat) (hd : X.2.2.2.2[i]? = some (pc, .ifCond .gt off, 3)) (ht : (pc : Int) + off = (tgt : Int)) (k1 : True → K X G Z tgt lo st h) (k2 : True → K X G Z (pc + 3) lo st h) : K X G Z pc lo (kI a :: st) h := K_if_gt_any tgt hd ht (k1 trivial) (k2 trivial)
theorem K_icmp_le_an {off : Int} (tgt : Nat) (hd : X.2.2.2.2[i]? = some (pc, .if_icmp .le off, 3)) (ht : (pc : Int) + off = (tgt : Int)) (k1 : True → K X G Z tgt lo st h) (k2 : True → K X G Z (pc + 3) lo st h) : K X G Z pc lo (kI b :: kI a :: st) h := K_icmp_le_any tgt hd ht (k1 trivial) (k2 trivial)
theorem K_if_le_an {off : Int} (tgt : Nat) (hd : X.2.2.2.2[i]? = some (pc, .ifCond .le off, 3)) (ht : (pc : Int) + off = (tgt : Int)) (k1 : True → K X G Z tgt lo st h) (k2 : True → K X G Z (pc + 3) lo st h) : K X G Z pc lo (kI a :: st) h := K_if_le_any tgt hd ht (k1 trivial) (k2 trivial)
end KAn
