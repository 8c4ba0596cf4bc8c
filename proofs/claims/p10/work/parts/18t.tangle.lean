/-! lines that cross, as bits -/
def ML (h : kH) (f : Nat) (n m : Int) (a : Nat) (b : Int) : Prop := kR m ∧ ∀ j : Int, 0 ≤ j → j ≤ 31 → (tb m j = true ↔ (j < n ∧ j < b) ∧ j ≠ a ∧ mt h f a j.toNat)
section Mls
variable {h : kH} {f a : Nat} {n m b : Int}
theorem ML.z : ML h f n 0 a 0 := ⟨⟨by omega, by omega⟩, fun j h0 h1 => by
  rw [tbc_0 h0 h1]
  exact ⟨fun e => absurd e Bool.false_ne_true, fun e => absurd e.1 (by omega)⟩⟩
theorem ML.no (c : ML h f n m a b) (hb : ¬ (b ≠ a ∧ mt h f a b.toNat)) : ML h f n m a (b + 1) := ⟨c.1, fun j h0 h1 => by
  rw [c.2 j h0 h1]
  constructor
  · rintro ⟨p, q, r⟩
    exact ⟨by omega, q, r⟩
  · rintro ⟨p, q, r⟩
    refine ⟨⟨p.1, ?_⟩, q, r⟩
    by_cases e : j = b
    · subst e; exact absurd ⟨q, r⟩ hb
    · omega⟩
theorem ML.yes (c : ML h f n m a b) (h0 : 0 ≤ b ∧ b ≤ 31) (hn : b < n) (hb : b ≠ a) (hm : mt h f a b.toNat) : ML h f n (kOr m (kShl 1 b)) a (b + 1) := ⟨kOr_R _ _, fun j j0 j1 => by
  rw [bt_or, Bool.or_eq_true, c.2 j j0 j1, tbc_shl h0 j0 j1]
  constructor
  · rintro (⟨p, q, r⟩ | e)
    · exact ⟨by omega, q, r⟩
    · subst e; exact ⟨by omega, hb, hm⟩
  · rintro ⟨p, q, r⟩
    by_cases e : j = b
    · exact Or.inr e
    · exact Or.inl ⟨by omega, q, r⟩⟩
end Mls
/-- whom each kite crosses -/
def LK (h h' : kH) (f : Nat) (n : Int) : Prop := ∀ a : Nat, (a : Int) < n → kR (h' 183 a) ∧ ∀ j : Int, 0 ≤ j → j ≤ 31 → (tb (h' 183 a) j = true ↔ j < n ∧ j ≠ a ∧ mt h f a j.toNat)
theorem LK.pc {h h' : kH} {f : Nat} {n : Int} (l : LK h h' f n) (hn : 0 ≤ n ∧ n ≤ 8) {a : Nat} (ha : (a : Int) < n) : (0 ≤ h' 183 a ∧ h' 183 a ≤ 255) ∧ pcI (h' 183 a) = sm (fun b => ind (b ≠ a ∧ mt h f a b)) n.toNat := by
  obtain ⟨l1, l2⟩ := l a ha
  have q := pcI_sm (m := h' 183 a) (n := n.toNat) l1 (by omega) (fun j p q => by
    rw [← Bool.not_eq_true]
    intro e
    have := ((l2 j (by omega) q).1 e).1
    omega)
  refine ⟨q.1, q.2.trans (sm_c (fun j hj => ind_c ?_))⟩
  rw [l2 j (by omega) (by omega)]
  constructor
  · rintro ⟨x, y, z⟩
    exact ⟨by omega, z⟩
  · rintro ⟨y, z⟩
    exact ⟨by omega, by omega, z⟩
/-- none of those that are left cross -/
def LSt (M : Nat → Nat → Prop) (n s : Int) : Prop := ∀ i j : Nat, (i : Int) < n → (j : Int) < n → i ≠ j → tb s i = false → tb s j = false → ¬ M i j
theorem LSt.congr {M M' : Nat → Nat → Prop} {n s : Int} (e : ∀ i j : Nat, (i : Int) < n → (j : Int) < n → i ≠ j → (M i j ↔ M' i j)) : LSt M n s ↔ LSt M' n s := by
  constructor
  · intro a i j hi hj hne p q r
    exact a i j hi hj hne p q ((e i j hi hj hne).2 r)
  · intro a i j hi hj hne p q r
    exact a i j hi hj hne p q ((e i j hi hj hne).1 r)
/-- 2 to the k, less 1 -/
theorem all_ok : ∀ k, k < 9 → kShl 1 (k : Nat) = ((2 ^ k : Nat) : Int) ∧ ∀ j, j < 32 → (tb ((2 ^ k : Nat) - 1 : Int) (j : Nat) = true ↔ j < k) := by decide +kernel
theorem all_pc : ∀ k, k < 9 → pcN (2 ^ k - 1) = k ∧ ∀ s, s < 2 ^ k - 1 → pcN s < k := by decide +kernel
theorem and0 {a b : Int} : kAnd a b = 0 ↔ ∀ j : Int, 0 ≤ j → j ≤ 31 → ¬ (tb a j = true ∧ tb b j = true) := by
  constructor
  · intro e j h0 h1 q
    have : tb (kAnd a b) j = true := by rw [bt_and, q.1, q.2]; rfl
    rw [e, tbc_0 h0 h1] at this
    exact Bool.false_ne_true this
  · intro q
    apply tb_ext (kAnd_R _ _) ⟨by omega, by omega⟩
    intro v h0 h1
    rw [bt_and, tbc_0 h0 h1]
    have := q v h0 h1
    cases x : tb a v <;> cases y : tb b v <;> simp_all
/-- the set that is left -/
theorem left_ok {k : Nat} (hk : k < 9) {s x1 : Int} (e : x1 = kAnd ((2 ^ k : Nat) - 1 : Int) (kXor s (-1))) {j : Int} (h0 : 0 ≤ j) (h1 : j ≤ 31) : tb x1 j = true ↔ j < k ∧ tb s j = false := by
  have q := (all_ok k hk).2 j.toNat (by omega)
  rw [show ((j.toNat : Nat) : Int) = j by omega] at q
  have x : tb (kXor s (-1)) j = !(tb s j) := by
    have m : tb (-1) j = true := tbc_m1 h0 h1
    unfold tb kXor at *
    rw [Int32.ofInt_toInt]
    unfold bt at *
    rw [Int32.toBitVec_xor, BitVec.getLsbD_xor, m]
    simp
  rw [e, bt_and, Bool.and_eq_true, q, x]
  constructor
  · rintro ⟨p, r⟩
    exact ⟨by omega, by simpa using r⟩
  · rintro ⟨p, r⟩
    exact ⟨by omega, by simpa using r⟩
theorem loose_ok {h h' : kH} {f k : Nat} (hk : k < 9) {s x1 : Int} (l : LK h h' f k) (e : x1 = kAnd ((2 ^ k : Nat) - 1 : Int) (kXor s (-1))) : (∀ a : Nat, (a : Int) < k → tb x1 a = true → kAnd (h' 183 a) x1 = 0) ↔ LSt (fun i j => mt h f i j) k s := by
  constructor
  · intro a i j hi hj hne p q r
    have ti := (left_ok hk e (j := i) (by omega) (by omega)).2 ⟨hi, p⟩
    have tj := (left_ok hk e (j := j) (by omega) (by omega)).2 ⟨hj, q⟩
    have z := and0.1 (a i hi ti) j (by omega) (by omega)
    exact z ⟨((l i hi).2 j (by omega) (by omega)).2 ⟨hj, by omega, r⟩, tj⟩
  · intro a i hi ti
    have pi := (left_ok hk e (j := i) (by omega) (by omega)).1 ti
    apply and0.2
    rintro j h0 h1 ⟨p, q⟩
    obtain ⟨x, y, z⟩ := ((l i hi).2 j h0 h1).1 p
    have pj := (left_ok hk e h0 h1).1 q
    refine a i j.toNat hi (by omega) (by omega) pi.2 ?_ z
    rw [show ((j.toNat : Nat) : Int) = j by omega]
    exact pj.2
/-- the fewest of those sets -/
def FWc (L : Int → Prop) (all z c : Int) : Prop := (0 ≤ z ∧ z ≤ all) ∧ L z ∧ (∀ s : Int, 0 ≤ s → s < c → L s → pcI z ≤ pcI s) ∧ ((z = all ∧ ∀ s : Int, 0 ≤ s → s < c → L s → pcI all ≤ pcI s) ∨ (z < c ∧ ∀ s : Int, 0 ≤ s → s < z → L s → pcI z < pcI s))
theorem FWc.no {L : Int → Prop} {all z c : Int} (a : FWc L all z c) (h0 : 0 ≤ c) (hn : L c → pcI z ≤ pcI c) (hz : z = all → L c → pcI all ≤ pcI c) : FWc L all z (c + 1) := by
  obtain ⟨a1, a2, a3, a4⟩ := a
  refine ⟨a1, a2, fun s p q r => ?_, ?_⟩
  · by_cases e : s = c
    · subst e; exact hn r
    · exact a3 s p (by omega) r
  · rcases a4 with ⟨b1, b2⟩ | ⟨b1, b2⟩
    · refine Or.inl ⟨b1, fun s p q r => ?_⟩
      by_cases e : s = c
      · subst e; exact hz b1 r
      · exact b2 s p (by omega) r
    · exact Or.inr ⟨by omega, b2⟩
theorem FWc.yes {L : Int → Prop} {all z c : Int} (a : FWc L all z c) (h0 : 0 ≤ c ∧ c ≤ all) (hl : L c) (hp : pcI c < pcI z) : FWc L all c (c + 1) := by
  obtain ⟨a1, a2, a3, a4⟩ := a
  refine ⟨h0, hl, fun s p q r => ?_, Or.inr ⟨by omega, fun s p q r => ?_⟩⟩
  · by_cases e : s = c
    · subst e; exact Int.le_refl _
    · have := a3 s p (by omega) r; omega
  · have := a3 s p q r; omega
