/-! the reference's fleets: five numbers a kite, from an offset -/
def kap (h : kH) (o : Nat) : Nat → Int := fun j => h 187 (o + j)
theorem kap_0 (h : kH) : kap h 0 = h 187 := funext fun j => by unfold kap; rw [Nat.zero_add]
theorem kap_of {h h' : kH} {o : Nat} (e : h' 187 = h 187) : kap h' o = kap h o := by unfold kap; rw [e]
theorem kap_u (h : kH) (o i j : Nat) (v : Int) : kap (kU h 187 (o + i) v) o j = if j = i then v else kap h o j := by
  unfold kap
  rw [kU_s]
  by_cases e : j = i
  · rw [if_pos (by omega), if_pos e]
  · rw [if_neg (by omega), if_neg e]
theorem FK0 {h : kH} {n : Int} (a : FK (h 187) n) : FK (kap h 0) n := by rw [kap_0]; exact a
def egK (k wd : Nat → Int) (i : Nat) : Int := k (5 * i + 4) * (kAbs (wd (k (5 * i + 3)).toNat) + 1)
def drK (k : Nat → Int) (i j : Nat) : Int := (k (5 * i + 2) - k (5 * i + 1)) * k (5 * j + 3) - (k (5 * j + 2) - k (5 * j + 1)) * k (5 * i + 3)
def crK (k : Nat → Int) (i j : Nat) : Prop := crM (k (5 * i + 1)) (k (5 * i + 2)) (k (5 * i + 3)) (k (5 * j + 1)) (k (5 * j + 2)) (k (5 * j + 3))
theorem cr_pos {sA xA hA sB xB hB : Int} (h : 0 < sA - sB) : crM sA xA hA sB xB hB ↔ thM sA xA hA sB xB hB ≤ 0 := by unfold crM; rw [if_pos h]
theorem cr_neg {sA xA hA sB xB hB : Int} (h : ¬ 0 < sA - sB) : crM sA xA hA sB xB hB ↔ 0 ≤ thM sA xA hA sB xB hB := by unfold crM; rw [if_neg h]
/-- the kite p cuts the kite q -/
def FpK (k wd : Nat → Int) (p q : Nat) : Prop := k (5 * p) ≠ k (5 * q) ∧ egK k wd q < egK k wd p ∧ crK k p q
def CKI (k wd : Nat → Int) (n z a b : Int) : Prop := ∀ j : Int, 0 ≤ j → j ≤ 31 → (tb z j = true ↔ ∃ p q : Nat, ((p : Int) < n ∧ (q : Int) < n ∧ ((p : Int) < a ∨ ((p : Int) = a ∧ (q : Int) < b))) ∧ FpK k wd p q ∧ j = q)
def CtK (k wd : Nat → Int) (n z : Int) : Prop := ∀ j : Int, 0 ≤ j → j ≤ 31 → (tb z j = true ↔ ∃ p q : Nat, ((p : Int) < n ∧ (q : Int) < n) ∧ FpK k wd p q ∧ j = q)
section CK
variable {k wd : Nat → Int} {n z a b : Int}
theorem CKI.zero : CKI k wd n 0 0 0 := fun j h0 h1 => by
  rw [tbc_0 h0 h1]
  refine ⟨fun e => absurd e Bool.false_ne_true, ?_⟩
  rintro ⟨p, q, h2, -, -⟩
  omega
theorem CKI.next (c : CKI k wd n z a b) (hb : n ≤ b) : CKI k wd n z (a + 1) 0 := fun j h0 h1 => by
  rw [c j h0 h1]
  constructor
  · rintro ⟨p, q, ⟨h2, h3, h4⟩, h5⟩
    exact ⟨p, q, ⟨h2, h3, by omega⟩, h5⟩
  · rintro ⟨p, q, ⟨h2, h3, h4⟩, h5⟩
    exact ⟨p, q, ⟨h2, h3, by omega⟩, h5⟩
theorem CKI.skip (c : CKI k wd n z a b) (ha : 0 ≤ a) (hb : 0 ≤ b) (hn : ¬ FpK k wd a.toNat b.toNat) : CKI k wd n (kOr z 0) a (b + 1) := fun j h0 h1 => by
  rw [bt_or, tbc_0 h0 h1, Bool.or_false, c j h0 h1]
  constructor
  · rintro ⟨p, q, ⟨h2, h3, h4⟩, h5⟩
    exact ⟨p, q, ⟨h2, h3, by omega⟩, h5⟩
  · rintro ⟨p, q, ⟨h2, h3, h4⟩, h5⟩
    by_cases e : (p : Int) = a ∧ (q : Int) = b
    · have e1 : a.toNat = p := by omega
      have e2 : b.toNat = q := by omega
      rw [e1, e2] at hn
      exact absurd h5.1 hn
    · exact ⟨p, q, ⟨h2, h3, by omega⟩, h5⟩
theorem CKI.hit (c : CKI k wd n z a b) (ha : 0 ≤ a ∧ a < n) (hb : 0 ≤ b ∧ b < n) (h31 : b ≤ 31) (hF : FpK k wd a.toNat b.toNat) : CKI k wd n (kOr z (kShl 1 b)) a (b + 1) := fun j h0 h1 => by
  rw [bt_or, Bool.or_eq_true, c j h0 h1, tbc_shl ⟨hb.1, h31⟩ h0 h1]
  constructor
  · rintro (⟨p, q, ⟨h2, h3, h4⟩, h5⟩ | e)
    · exact ⟨p, q, ⟨h2, h3, by omega⟩, h5⟩
    · exact ⟨a.toNat, b.toNat, ⟨by omega, by omega, by omega⟩, hF, by omega⟩
  · rintro ⟨p, q, ⟨h2, h3, h4⟩, h5, h6⟩
    by_cases e : (p : Int) = a ∧ (q : Int) = b
    · exact Or.inr (by omega)
    · exact Or.inl ⟨p, q, ⟨h2, h3, by omega⟩, h5, h6⟩
theorem CKI.end (c : CKI k wd n z a b) (ha : n ≤ a) : CtK k wd n z := fun j h0 h1 => by
  rw [c j h0 h1]
  constructor
  · rintro ⟨p, q, ⟨h2, h3, h4⟩, h5⟩
    exact ⟨p, q, ⟨h2, h3⟩, h5⟩
  · rintro ⟨p, q, ⟨h2, h3⟩, h5⟩
    exact ⟨p, q, ⟨h2, h3, by omega⟩, h5⟩
end CK
/-- the wind moves the first x kites -/
def BXK (k k' wd : Nat → Int) (x : Int) : Prop := ∀ j : Nat, k' j = if j % 5 = 2 ∧ ((j / 5 : Nat) : Int) < x then max 0 (min 40 (k j + wd (k (j + 1)).toNat)) else k j
theorem BXK.z {k wd : Nat → Int} : BXK k k wd 0 := fun j => by rw [if_neg (by omega)]
theorem BXK.st {k wd : Nat → Int} {h1 : kH} {o i : Nat} {x v : Int} (a : BXK k (kap h1 o) wd x) (hx : 0 ≤ x) (hi : i = o + (5 * x.toNat + 2)) (hv : v = max 0 (min 40 (k (5 * x.toNat + 2) + wd (k (5 * x.toNat + 3)).toNat))) : BXK k (kap (kU h1 187 i v) o) wd (x + 1) := fun j => by
  subst hi
  rw [kap_u]
  by_cases e : j = 5 * x.toNat + 2
  · rw [if_pos e, if_pos (by omega), hv, e]
  · rw [if_neg e, a j]
    by_cases q : j % 5 = 2 ∧ ((j / 5 : Nat) : Int) < x
    · rw [if_pos q, if_pos (by omega)]
    · rw [if_neg q, if_neg (by omega)]
theorem BXK.ot {k k' wd : Nat → Int} {x : Int} (a : BXK k k' wd x) {j : Nat} (h : j % 5 ≠ 2) : k' j = k j := by rw [a j, if_neg (by omega)]
theorem BXK.ge {k k' wd : Nat → Int} {x : Int} (a : BXK k k' wd x) {i : Nat} (h : x ≤ i) : k' (5 * i + 2) = k (5 * i + 2) := by rw [a, if_neg (by omega)]
theorem BXK.lt {k k' wd : Nat → Int} {x : Int} (a : BXK k k' wd x) {i : Nat} (h : (i : Int) < x) : k' (5 * i + 2) = max 0 (min 40 (k (5 * i + 2) + wd (k (5 * i + 3)).toNat)) := by rw [a, if_pos (by omega)]
theorem FK.blow {k k' wd : Nat → Int} {n x : Int} (a : FK k n) (b : BXK k k' wd x) : FK k' n := by
  intro i hi
  obtain ⟨h1, h2, h3, h4⟩ := a i hi
  rw [b.ot (j := 5 * i + 1) (by omega), b.ot (j := 5 * i + 3) (by omega)]
  refine ⟨h1, ?_, h3, fun j hj hne => ?_⟩
  · rw [b (5 * i + 2)]
    split <;> omega
  · rw [b.ot (j := 5 * j + 1) (by omega)]; exact h4 j hj hne
/-- those that p keeps move up -/
def THK (k k' : Nat → Int) (p : Nat → Bool) (n : Int) : Prop := ∀ i a : Nat, (i : Int) < n → p i = true → a < 5 → k' (5 * kc p i + a) = k (5 * i + a)
theorem FK.thin {k k' : Nat → Int} {p : Nat → Bool} {n : Int} (a : FK k n) (t : THK k k' p n) (hn : 0 ≤ n) : FK k' (kc p n.toNat) := by
  intro i hi
  obtain ⟨j, j1, j2, j3⟩ := kc_on p (show i < kc p n.toNat by omega)
  obtain ⟨h1, h2, h3, h4⟩ := a j (by omega)
  rw [← j3, t j 1 (by omega) j2 (by omega), t j 2 (by omega) j2 (by omega), t j 3 (by omega) j2 (by omega)]
  refine ⟨h1, h2, h3, fun i' hi' hne => ?_⟩
  obtain ⟨l, l1, l2, l3⟩ := kc_on p (show i' < kc p n.toNat by omega)
  rw [← l3, t l 1 (by omega) l2 (by omega)]
  exact h4 l (by omega) (fun e => hne (by rw [← l3, e, j3]))
def LVK (k k' : Nat → Int) (p : Nat → Bool) (x : Nat) : Prop := (∀ j a : Nat, j < x → p j = true → a < 5 → k' (5 * kc p j + a) = k (5 * j + a)) ∧ ∀ j, 5 * x ≤ j → k' j = k j
theorem LVK.z {k : Nat → Int} {p : Nat → Bool} : LVK k k p 0 := ⟨fun j a hj => absurd hj (by omega), fun _ _ => rfl⟩
theorem LVK.no {k k' : Nat → Int} {p : Nat → Bool} {x : Nat} (a : LVK k k' p x) (hp : p x = false) : LVK k k' p (x + 1) := by
  refine ⟨fun j c hj hpj hc => ?_, fun j hj => a.2 j (by omega)⟩
  by_cases e : j = x
  · rw [e, hp] at hpj; exact absurd hpj Bool.false_ne_true
  · exact a.1 j c (by omega) hpj hc
def LVKi (k k' : Nat → Int) (p : Nat → Bool) (x m : Nat) : Prop := LVK k k' p x ∧ ∀ a, a < m → k' (5 * kc p x + a) = k (5 * x + a)
theorem LVK.i {k k' : Nat → Int} {p : Nat → Bool} {x : Nat} (a : LVK k k' p x) : LVKi k k' p x 0 := ⟨a, fun c hc => absurd hc (by omega)⟩
theorem LVKi.st {k : Nat → Int} {h1 : kH} {o i : Nat} {p : Nat → Bool} {x m : Nat} {v : Int} (a : LVKi k (kap h1 o) p x m) (hm : m < 5) (hi : i = o + (5 * kc p x + m)) (hv : v = kap h1 o (5 * x + m)) : LVKi k (kap (kU h1 187 i v) o) p x (m + 1) := by
  subst hi
  have hle := kc_le p x
  have hvk : v = k (5 * x + m) := by rw [hv]; exact a.1.2 _ (by omega)
  refine ⟨⟨fun j c hj hpj hc => ?_, fun j hj => ?_⟩, fun c hc => ?_⟩
  · have := kc_lt p hj hpj
    rw [kap_u, if_neg (by omega)]
    exact a.1.1 j c hj hpj hc
  · rw [kap_u]
    by_cases e : j = 5 * kc p x + m
    · rw [if_pos e, hvk, show 5 * x + m = j by omega]
    · rw [if_neg e]; exact a.1.2 j hj
  · rw [kap_u]
    by_cases e : c = m
    · rw [if_pos (by omega), hvk, e]
    · rw [if_neg (by omega)]; exact a.2 c (by omega)
theorem LVKi.end {k k' : Nat → Int} {p : Nat → Bool} {x : Nat} (a : LVKi k k' p x 5) : LVK k k' p (x + 1) := by
  refine ⟨fun j c hj hpj hc => ?_, fun j hj => a.1.2 j (by omega)⟩
  by_cases e : j = x
  · rw [e]; exact a.2 c hc
  · exact a.1.1 j c (by omega) hpj hc
theorem cw_le (b : Int) (tn : Nat → Int) (t : Int) : ∀ k : Nat, 0 ≤ cw b tn t k ∧ cw b tn t k ≤ k := by
  intro k
  induction k with
  | zero => exact ⟨Int.le_refl 0, Int.le_refl 0⟩
  | succ k ih => rw [cw]; split <;> omega
/-- what is gained: the first x are looked at -/
def GN (g g' : Nat → Int) (b : Int) (tn : Nat → Int) (x : Int) : Prop := ∀ t : Nat, t < 2 → g' t = g t + cw b tn t x.toNat
theorem GN.z {g : Nat → Int} {b : Int} {tn : Nat → Int} : GN g g b tn 0 := fun t _ => by simp [cw]
theorem GN.no {g g' : Nat → Int} {b x : Int} {tn : Nat → Int} (a : GN g g' b tn x) (hx : 0 ≤ x) (hb : tb b x = false) : GN g g' b tn (x + 1) := fun t ht => by
  rw [a t ht, show (x + 1).toNat = x.toNat + 1 by omega, cw, show ((x.toNat : Nat) : Int) = x by omega, hb]
  simp
theorem GN.yes {g : Nat → Int} {h1 : kH} {b x v w : Int} {tn : Nat → Int} {l : Nat} (a : GN g (h1 192) b tn x) (hx : 0 ≤ x) (hb : tb b x = true) (hl : (l : Int) = 1 - tn x.toNat) (hv : v = h1 192 l) (hw : w = v + 1) : GN g (kU h1 192 l w 192) b tn (x + 1) := fun t ht => by
  rw [show (x + 1).toNat = x.toNat + 1 by omega, cw, show ((x.toNat : Nat) : Int) = x by omega, kU_s]
  by_cases e : t = l
  · subst e
    rw [if_pos rfl, if_pos ⟨hb, by omega⟩, hw, hv, a t ht]
    omega
  · rw [if_neg e, if_neg (by rintro ⟨-, q⟩; omega), a t ht]
    omega
/-- a gust of the reference -/
def GSK (wd k : Nat → Int) (n : Int) (k' : Nat → Int) (n' z : Int) (d : Nat → Int) : Prop := ∃ km, (kR z ∧ BXK k km wd n ∧ CtK km wd n z ∧ FK km n) ∧ n' = kc (pB z) n.toNat ∧ THK km k' (pB z) n ∧ ∀ t : Nat, t < 2 → d t = cw z (fun i => k (5 * i)) t n.toNat
theorem cw_k {b : Int} {k k' wd : Nat → Int} {n : Int} {t : Int} {m : Nat} (a : BXK k k' wd n) : cw b (fun i => k' (5 * i)) t m = cw b (fun i => k (5 * i)) t m := cw_congr (fun i _ => a.ot (j := 5 * i) (by omega))
/-- gusts of the reference, one behind another -/
def MTK (wd : Nat → Int) : Nat → (Nat → Int) → Int → (Nat → Int) → Int → (Nat → Int) → Prop
  | 0, k, n, k', n', d => k' = k ∧ n' = n ∧ ∀ t : Nat, t < 2 → d t = 0
  | m + 1, k, n, k', n', d => ∃ (k1 : Nat → Int) (n1 : Int) (d1 : Nat → Int) (z : Int) (d2 : Nat → Int), MTK wd m k n k1 n1 d1 ∧ GSK wd k1 n1 k' n' z d2 ∧ ∀ t : Nat, t < 2 → d t = d1 t + d2 t
/-- the act is kept -/
def MR (h h' : kH) : Prop := (h' 184 12 = (h 184 12 + 1) % 16 ∧ h' 184 11 = min 16 (h 184 11 + 1)) ∧ (∀ j, j < 40 → h' 191 (43 * (h 184 12).toNat + j) = h 187 j) ∧
  (h' 191 (43 * (h 184 12).toNat + 40) = h 184 4 ∧ h' 191 (43 * (h 184 12).toNat + 41) = h 189 0 ∧ h' 191 (43 * (h 184 12).toNat + 42) = h 189 1) ∧ ∀ i, i < 43 * (h 184 12).toNat ∨ 43 * (h 184 12).toNat + 43 ≤ i → h' 191 i = h 191 i
theorem MR.of {h h1 h2 : kH} (a : MR h h1) (e : h2 191 = h1 191) (e11 : h2 184 11 = h1 184 11) (e12 : h2 184 12 = h1 184 12) : MR h h2 := by
  unfold MR
  rw [e, e11, e12]
  exact a
def hsM (h : kH) (x : Int) : Prop := ∃ i : Nat, (i : Int) < h 184 4 ∧ h 187 (5 * i + 1) = x
def CMwind (h h' : kH) (x w z : Int) : Prop :=
  ((1 ≤ x ∧ x ≤ 9 ∧ -3 ≤ w ∧ w ≤ 3) ∧ z = h 188 x.toNat + 3 ∧ ∀ j, h' 188 j = if j = x.toNat then w else h 188 j) ∨ (¬ (1 ≤ x ∧ x ≤ 9 ∧ -3 ≤ w ∧ w ≤ 3) ∧ z = -2 ∧ h' = h)
def CMrise (h h' : kH) (x n z : Int) : Prop :=
  (¬ (0 ≤ x ∧ x < h 184 4) ∧ z = -1 ∧ h' = h) ∨ ((0 ≤ x ∧ x < h 184 4) ∧ ¬ (-8 ≤ n ∧ n ≤ 8 ∧ 1 ≤ h 187 (5 * x.toNat + 3) + n ∧ h 187 (5 * x.toNat + 3) + n ≤ 9) ∧ z = -2 ∧ h' = h) ∨
  ((0 ≤ x ∧ x < h 184 4) ∧ (-8 ≤ n ∧ n ≤ 8 ∧ 1 ≤ h 187 (5 * x.toNat + 3) + n ∧ h 187 (5 * x.toNat + 3) + n ≤ 9) ∧ z = h 187 (5 * x.toNat + 3) + n ∧ MR h h' ∧ ∀ j, h' 187 j = if j = 5 * x.toNat + 3 then h 187 (5 * x.toNat + 3) + n else h 187 j)
def CMrun (h h' : kH) (x s z : Int) : Prop :=
  (¬ (0 ≤ x ∧ x < h 184 4) ∧ z = -1 ∧ h' = h) ∨ ((0 ≤ x ∧ x < h 184 4) ∧ ¬ (0 ≤ s ∧ s ≤ 40) ∧ z = -2 ∧ h' = h) ∨ ((0 ≤ x ∧ x < h 184 4) ∧ (0 ≤ s ∧ s ≤ 40) ∧ hsM h s ∧ z = -3 ∧ h' = h) ∨
  ((0 ≤ x ∧ x < h 184 4) ∧ (0 ≤ s ∧ s ≤ 40) ∧ ¬ hsM h s ∧ z = kAbs (s - h 187 (5 * x.toNat + 1)) ∧ MR h h' ∧ ∀ j, h' 187 j = if j = 5 * x.toNat + 1 then s else h 187 j)
/-- one kite more -/
def AK (k k' : Nat → Int) (n : Nat) (t s e gl : Int) : Prop := (∀ j, j < 5 * n → k' j = k j) ∧ k' (5 * n) = t ∧ k' (5 * n + 1) = s ∧ k' (5 * n + 2) = s ∧ k' (5 * n + 3) = e ∧ k' (5 * n + 4) = gl
def CMlaunch (h h' : kH) (t s e gl z : Int) : Prop :=
  (¬ ((0 ≤ t ∧ t ≤ 1) ∧ (0 ≤ s ∧ s ≤ 40) ∧ (1 ≤ e ∧ e ≤ 9) ∧ 0 ≤ gl ∧ gl ≤ 9) ∧ z = -2 ∧ h' = h) ∨ (((0 ≤ t ∧ t ≤ 1) ∧ (0 ≤ s ∧ s ≤ 40) ∧ (1 ≤ e ∧ e ≤ 9) ∧ 0 ≤ gl ∧ gl ≤ 9) ∧ hsM h s ∧ z = -3 ∧ h' = h) ∨
  (((0 ≤ t ∧ t ≤ 1) ∧ (0 ≤ s ∧ s ≤ 40) ∧ (1 ≤ e ∧ e ≤ 9) ∧ 0 ≤ gl ∧ gl ≤ 9) ∧ ¬ hsM h s ∧ h 184 4 = 8 ∧ z = -4 ∧ h' = h) ∨
  (((0 ≤ t ∧ t ≤ 1) ∧ (0 ≤ s ∧ s ≤ 40) ∧ (1 ≤ e ∧ e ≤ 9) ∧ 0 ≤ gl ∧ gl ≤ 9) ∧ ¬ hsM h s ∧ h 184 4 ≤ 7 ∧ z = h 184 4 ∧ MR h h' ∧ h' 184 4 = h 184 4 + 1 ∧ AK (h 187) (h' 187) (h 184 4).toNat t s e gl)
def CMtakeIn (h h' : kH) (x z : Int) : Prop := (¬ (0 ≤ x ∧ x < h 184 4) ∧ z = -1 ∧ h' = h) ∨
  ((0 ≤ x ∧ x < h 184 4) ∧ z = h' 184 4 ∧ h' 184 4 = h 184 4 - 1 ∧ MR h h' ∧ (∀ j, j < 5 * x.toNat → h' 187 j = h 187 j) ∧ ∀ j : Nat, 5 * x.toNat ≤ j → (j : Int) < 5 * (h 184 4 - 1) → h' 187 j = h 187 (j + 5))
def CMgust (h h' : kH) (z : Int) : Prop := MR h h' ∧ ∃ d : Nat → Int, GSK (h 188) (h 187) (h 184 4) (h' 187) (h' 184 4) z d ∧ h' 189 0 = h 189 0 + d 0 ∧ h' 189 1 = h 189 1 + d 1
def CMundo (h h' : kH) (z : Int) : Prop := (h 184 11 = 0 ∧ z = -3 ∧ h' = h) ∨ (h 184 11 ≠ 0 ∧ z = h 184 11 - 1 ∧ h' 184 12 = (h 184 12 + 15) % 16 ∧ h' 184 11 = h 184 11 - 1 ∧ (∀ j, j < 40 → h' 187 j = h 191 (43 * ((h 184 12 + 15) % 16).toNat + j)) ∧
  h' 184 4 = h 191 (43 * ((h 184 12 + 15) % 16).toNat + 40) ∧ h' 189 0 = h 191 (43 * ((h 184 12 + 15) % 16).toNat + 41) ∧ h' 189 1 = h 191 (43 * ((h 184 12 + 15) % 16).toNat + 42))
def CMkeep (h h' : kH) (x z : Int) : Prop := (¬ (0 ≤ x ∧ x ≤ 1) ∧ z = -1 ∧ h' = h) ∨
  ((0 ≤ x ∧ x ≤ 1) ∧ z = h 184 4 ∧ (∀ j, h' 199 j = if j = x.toNat then 1 else h 199 j) ∧ (∀ j, j < 40 → h' 200 (53 * x.toNat + j) = h 187 j) ∧ (∀ i, i < 10 → h' 200 (53 * x.toNat + 40 + i) = h 188 i) ∧ (h' 200 (53 * x.toNat + 50) = h 184 4 ∧ h' 200 (53 * x.toNat + 51) = h 189 0 ∧ h' 200 (53 * x.toNat + 52) = h 189 1) ∧
   ∀ i, i < 53 * x.toNat ∨ 53 * x.toNat + 53 ≤ i → h' 200 i = h 200 i)
def CMagain (h h' : kH) (x z : Int) : Prop := (¬ (0 ≤ x ∧ x ≤ 1) ∧ z = -1 ∧ h' = h) ∨ ((0 ≤ x ∧ x ≤ 1) ∧ h 199 x.toNat = 0 ∧ z = -3 ∧ h' = h) ∨
  ((0 ≤ x ∧ x ≤ 1) ∧ h 199 x.toNat ≠ 0 ∧ z = h' 184 4 ∧ (∀ j, j < 40 → h' 187 j = h 200 (53 * x.toNat + j)) ∧ (∀ i, i < 10 → h' 188 i = h 200 (53 * x.toNat + 40 + i)) ∧ (h' 184 4 = h 200 (53 * x.toNat + 50) ∧ h' 189 0 = h 200 (53 * x.toNat + 51) ∧ h' 189 1 = h 200 (53 * x.toNat + 52)) ∧ h' 184 11 = 0)
def CMwar (h h' : kH) (z : Int) : Prop := ∃ fl : Int, FaultIs (h 190) (h 184 8) fl ∧ ((fl ≠ -9 ∧ z = -3 ∧ (h' 187 = h 187 ∧ h' 188 = h 188 ∧ h' 189 = h 189 ∧ h' 199 = h 199) ∧ h' 184 4 = h 184 4 ∧ h' 184 11 = h 184 11) ∨
  (fl = -9 ∧ z = h' 184 4 ∧ 10 + 8 * h' 184 4 = h 184 8 ∧ (∀ k : Nat, (k : Int) < h' 184 4 → h' 187 (5 * k) = h 190 (10 + 8 * k + 1) - 48 ∧ h' 187 (5 * k + 1) = prI (h 190) (10 + (k : Int) * 8 + 2) ∧ h' 187 (5 * k + 2) = prI (h 190) (10 + (k : Int) * 8 + 4) ∧ h' 187 (5 * k + 3) = h 190 (10 + 8 * k + 6) - 48 ∧ h' 187 (5 * k + 4) = h 190 (10 + 8 * k + 7) - 48) ∧
   ((∀ k : Nat, 1 ≤ k → k < 10 → h' 188 k = h 190 k - 48 - 3) ∧ h' 188 0 = h 188 0) ∧ (h' 189 0 = 0 ∧ h' 189 1 = 0) ∧ h' 184 11 = 0 ∧ h' 199 0 = 0 ∧ h' 199 1 = 0))
def CMsee (h h' : kH) (x y b z : Int) : Prop := (¬ ((0 ≤ x ∧ x < h 184 4 ∧ x < 4) ∧ (0 ≤ y ∧ y < h 184 4 ∧ y < 4)) ∧ z = -1 ∧ h' = h) ∨ (((0 ≤ x ∧ x < h 184 4 ∧ x < 4) ∧ (0 ≤ y ∧ y < h 184 4 ∧ y < 4)) ∧ x = y ∧ z = -2 ∧ h' = h) ∨ (((0 ≤ x ∧ x < h 184 4 ∧ x < 4) ∧ (0 ≤ y ∧ y < h 184 4 ∧ y < 4)) ∧ x ≠ y ∧ 8 ≤ h 184 16 ∧ z = -4 ∧ h' = h) ∨
  (((0 ≤ x ∧ x < h 184 4 ∧ x < 4) ∧ (0 ≤ y ∧ y < h 184 4 ∧ y < 4)) ∧ x ≠ y ∧ h 184 16 < 8 ∧ z = h 184 16 + 1 ∧ h' 184 16 = h 184 16 + 1 ∧ (∀ j, h' 193 j = if j = (h 184 16).toNat then x else h 193 j) ∧ (∀ j, h' 194 j = if j = (h 184 16).toNat then y else h 194 j) ∧ ∀ j, h' 195 j = if j = (h 184 16).toNat then b else h 195 j)
def CMcross (h : kH) (x y z : Int) : Prop :=
  (¬ ((0 ≤ x ∧ x < h 184 4) ∧ 0 ≤ y ∧ y < h 184 4) ∧ z = -1) ∨ (((0 ≤ x ∧ x < h 184 4) ∧ 0 ≤ y ∧ y < h 184 4) ∧ x = y ∧ z = -2) ∨
  (((0 ≤ x ∧ x < h 184 4) ∧ 0 ≤ y ∧ y < h 184 4) ∧ x ≠ y ∧ ((z = 1 ∧ crK (h 187) x.toNat y.toNat) ∨ (z = 0 ∧ ¬ crK (h 187) x.toNat y.toNat)))
theorem kap_uf (h : kH) (o i : Nat) (v : Int) : kap (kU h 187 (o + i) v) o = fun j => if j = i then v else kap h o j := funext fun j => kap_u h o i j v
theorem MTK.st {wd k : Nat → Int} {n : Int} {m : Nat} {ha h1 h2 : kH} {x z l : Int} (p : MTK wd m k n (kap ha 40) x (ha 192)) (hw : ha 188 = wd) (kr : kR z) (bx : BXK (kap ha 40) (kap h1 40) (ha 188) x) (ct : CtK (kap h1 40) (ha 188) x z) (fk : FK (kap h1 40) x) (e192 : h1 192 = ha 192) (hl : l = kc (pB z) x.toNat)
    (th : THK (kap h1 40) (kap h2 40) (pB z) x) (gn : GN (h1 192) (h2 192) z (fun i => kap h1 40 (5 * i)) x) : MTK wd (m + 1) k n (kap h2 40) l (h2 192) := by
  rw [hw] at bx ct
  refine ⟨kap ha 40, x, ha 192, z, fun t => h2 192 t - ha 192 t, p, ⟨kap h1 40, ⟨kr, bx, ct, fk⟩, hl, th, fun t ht => ?_⟩, fun t _ => by dsimp only; omega⟩
  have := gn t ht
  rw [e192, cw_k bx] at this
  dsimp only
  omega
/-- what is gained by m gusts -/
theorem kc_n (p : Nat → Bool) (n : Int) (hn : 0 ≤ n) : 0 ≤ ((kc p n.toNat : Nat) : Int) ∧ ((kc p n.toNat : Nat) : Int) ≤ n := by have := kc_le p n.toNat; omega
theorem MTK.bd {wd : Nat → Int} : ∀ {m : Nat} {k k' : Nat → Int} {n n' : Int} {d : Nat → Int}, 0 ≤ n → n ≤ 8 → MTK wd m k n k' n' d → (0 ≤ n' ∧ n' ≤ n) ∧ ∀ t : Nat, t < 2 → 0 ≤ d t ∧ d t ≤ 8 * m := by
  intro m
  induction m with
  | zero =>
    intro k k' n n' d h0 h8 a
    obtain ⟨a1, a2, a3⟩ := a
    exact ⟨by omega, fun t ht => by rw [a3 t ht]; omega⟩
  | succ m ih =>
    intro k k' n n' d h0 h8 a
    obtain ⟨k1, n1, d1, z, d2, a1, ⟨km, -, a2, -, a3⟩, a4⟩ := a
    obtain ⟨b1, b2⟩ := ih h0 h8 a1
    have hk := kc_n (pB z) n1 b1.1
    refine ⟨by omega, fun t ht => ?_⟩
    have c1 := b2 t ht
    have c2 := cw_le z (fun i => k1 (5 * i)) t n1.toNat
    rw [a4 t ht, a3 t ht]
    omega
theorem FK.copy {h h' : kH} {n : Int} (a : FK (h 187) n) (hn : n ≤ 8) (e : ∀ j, j < 40 → h' 187 (40 + j) = h 187 j) : FK (kap h' 40) n := FK.congr hn (fun j hj => e j hj) a
theorem MOk.u187 {h : kH} {i : Nat} {v : Int} (a : MOk h) (hF : FK (h 187) (h 184 4) → FK (fun j => if j = i then v else h 187 j) (h 184 4)) : MOk (kU h 187 i v) := by
  have e1 : kU h 187 i v 187 = fun j => if j = i then v else h 187 j := by simp [kU]
  have e2 : kU h 187 i v 184 = h 184 := kU_c _ _ _ _ (by decide)
  have e3 : kU h 187 i v 191 = h 191 := kU_c _ _ _ _ (by decide)
  have e4 : kU h 187 i v 200 = h 200 := kU_c _ _ _ _ (by decide)
  unfold MOk
  rw [e1, e2, e3, e4]
  exact ⟨hF a.1, a.2.1, a.2.2⟩
theorem FK.setX {k : Nat → Int} {n : Int} {i : Nat} {v : Int} (a : FK k n) (q : Nat) (hi : i = 5 * q + 2) (hv : 0 ≤ v ∧ v ≤ 40) : FK (fun j => if j = i then v else k j) n := by
  intro p hp
  obtain ⟨h1, h2, h3, h4⟩ := a p hp
  dsimp only
  rw [if_neg (by omega : ¬ 5 * p + 1 = i), if_neg (by omega : ¬ 5 * p + 3 = i)]
  refine ⟨h1, ?_, h3, fun j hj hne => ?_⟩
  · split
    · exact hv
    · exact h2
  · rw [if_neg (by omega)]; exact h4 j hj hne
theorem FK.setH {k : Nat → Int} {n : Int} {i : Nat} {v : Int} (a : FK k n) (q : Nat) (hi : i = 5 * q + 3) (hv : 1 ≤ v ∧ v ≤ 9) : FK (fun j => if j = i then v else k j) n := by
  intro p hp
  obtain ⟨h1, h2, h3, h4⟩ := a p hp
  dsimp only
  rw [if_neg (by omega : ¬ 5 * p + 1 = i), if_neg (by omega : ¬ 5 * p + 2 = i)]
  refine ⟨h1, h2, ?_, fun j hj hne => ?_⟩
  · split
    · exact hv
    · exact h3
  · rw [if_neg (by omega)]; exact h4 j hj hne
theorem FK.setS {k : Nat → Int} {n : Int} {i : Nat} {v : Int} (a : FK k n) (q : Nat) (hi : i = 5 * q + 1) (hv : 0 ≤ v ∧ v ≤ 40) (hd : ∀ j : Nat, (j : Int) < n → k (5 * j + 1) ≠ v) : FK (fun j => if j = i then v else k j) n := by
  intro p hp
  obtain ⟨h1, h2, h3, h4⟩ := a p hp
  dsimp only
  rw [if_neg (by omega : ¬ 5 * p + 2 = i), if_neg (by omega : ¬ 5 * p + 3 = i)]
  refine ⟨?_, h2, h3, fun j hj hne => ?_⟩
  · split
    · exact hv
    · exact h1
  · by_cases e1 : p = q
    · rw [if_pos (by omega), if_neg (by omega)]
      exact fun e => hd j hj e.symm
    · rw [if_neg (by omega)]
      split
      · exact hd p hp
      · exact h4 j hj hne
theorem FK.sub {k k' : Nat → Int} {n n' : Int} (s : Nat → Nat) (a : FK k n) (h1 : ∀ i : Nat, (i : Int) < n' → (s i : Int) < n ∧ k' (5 * i + 1) = k (5 * s i + 1) ∧ k' (5 * i + 2) = k (5 * s i + 2) ∧ k' (5 * i + 3) = k (5 * s i + 3)) (h2 : ∀ i j : Nat, (i : Int) < n' → (j : Int) < n' → i ≠ j → s i ≠ s j) : FK k' n' := by
  intro i hi
  obtain ⟨q0, q1, q2, q3⟩ := h1 i hi
  obtain ⟨p1, p2, p3, p4⟩ := a (s i) q0
  rw [q1, q2, q3]
  refine ⟨p1, p2, p3, fun j hj hne => ?_⟩
  obtain ⟨r0, r1, -, -⟩ := h1 j hj
  rw [r1]
  exact p4 (s j) r0 (h2 j i hj hi hne)
theorem MOk.many {h : kH} {v : Int} (a : MOk h) (hv : v ≤ h 184 4) : MOk (kU h 184 4 v) := by
  have e1 : kU h 184 4 v 187 = h 187 := kU_c _ _ _ _ (by decide)
  have e3 : kU h 184 4 v 191 = h 191 := kU_c _ _ _ _ (by decide)
  have e4 : kU h 184 4 v 200 = h 200 := kU_c _ _ _ _ (by decide)
  unfold MOk
  rw [e1, e3, e4, kU_at, if_pos ⟨rfl, rfl⟩]
  exact ⟨a.1.mono hv, a.2.1, a.2.2⟩
theorem m5 {o a b c : Int} (ho : o = 0 ∨ o = 40) (ha : 0 ≤ a) (hb : 0 ≤ b) (hc : 0 ≤ c) : ((o + (5 * a)) + c).toNat % 5 = ((o + (5 * b)) + c).toNat % 5 := by omega
theorem hi40 {o a c : Int} (ho : o = 40) (ha : 0 ≤ a) (hc : 0 ≤ c) : 40 ≤ ((o + (5 * a)) + c).toNat := by omega
