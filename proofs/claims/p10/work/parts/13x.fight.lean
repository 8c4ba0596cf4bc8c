/-! who cuts whom -/
/-- how sharp the line of the kite k is -/
def eg (h : kH) (s k : Nat) : Int := h (s + 3 + 5) k * (kAbs (h (s + 1) (h (s + 3 + 4) k).toNat) + 1)
theorem eg_of {h h1 : kH} {s : Nat} (e : ∀ c, c ≠ s + 2 → h1 c = h c) (k : Nat) : eg h1 s k = eg h s k := by
  unfold eg
  rw [e (s + 3 + 5) (by omega), e (s + 3 + 4) (by omega), e (s + 1) (by omega)]
theorem eg_r {g : kGh} {h : kH} {s : Nat} (hI : Gd g h) (hs : s ∈ SK) (k : Nat) : 0 ≤ eg h s k ∧ eg h s k ≤ 36 := by
  have h1 := rd_glass hI (sk_fl hs) k
  have h2 := rd_wind hI hs (h (s + 3 + 4) k).toNat
  unfold eg
  have h3 := kAbs_r (a := h (s + 1) (h (s + 3 + 4) k).toNat) (by omega)
  have h4 := mul_bd (A := 9) (B := 4) (a := h (s + 3 + 5) k) (b := kAbs (h (s + 1) (h (s + 3 + 4) k).toNat) + 1) (by omega) (by omega)
  have h5 := Int.mul_nonneg (a := h (s + 3 + 5) k) (b := kAbs (h (s + 1) (h (s + 3 + 4) k).toNat) + 1) (by omega) (by omega)
  omega
theorem mt_of {h h1 : kH} {s : Nat} (e : ∀ c, c ≠ s + 2 → h1 c = h c) (a b : Nat) : mt h1 (s + 3) a b ↔ mt h (s + 3) a b := by
  unfold mt
  rw [e (s + 3 + 2) (by omega), e (s + 3 + 3) (by omega), e (s + 3 + 4) (by omega)]
/-- the kites p and q fight -/
def Fp (h : kH) (s p q : Nat) : Prop := h (s + 3 + 1) p ≠ h (s + 3 + 1) q ∧ eg h s p ≠ eg h s q ∧ mt h (s + 3) p q
/-- the one of them that is cut -/
def lo (h : kH) (s p q : Nat) : Nat := if eg h s p < eg h s q then p else q
/-- the ones of z: who is cut by the pairs (p, q), p below q, before the pair (a, b) -/
def CI (h : kH) (s : Nat) (n z a b : Int) : Prop := ∀ j : Int, 0 ≤ j → j ≤ 31 → (tb z j = true ↔ ∃ p q : Nat, (p < q ∧ (q : Int) < n ∧ ((p : Int) < a ∨ ((p : Int) = a ∧ (q : Int) < b))) ∧ Fp h s p q ∧ j = lo h s p q)
section CIs
variable {h : kH} {s : Nat} {n z a b : Int}
theorem CI.zero : CI h s n 0 0 0 := fun j h0 h1 => by
  rw [tbc_0 h0 h1]
  refine ⟨fun e => absurd e Bool.false_ne_true, ?_⟩
  rintro ⟨p, q, h2, -, -⟩
  omega
theorem CI.cg (c : CI h s n z a b) {a' b' : Int} (e : ∀ p q : Nat, p < q → (q : Int) < n → (((p : Int) < a ∨ ((p : Int) = a ∧ (q : Int) < b)) ↔ ((p : Int) < a' ∨ ((p : Int) = a' ∧ (q : Int) < b')))) : CI h s n z a' b' := fun j h0 h1 => by
  rw [c j h0 h1]
  constructor
  · rintro ⟨p, q, ⟨h2, h3, h4⟩, h5⟩
    exact ⟨p, q, ⟨h2, h3, (e p q h2 h3).1 h4⟩, h5⟩
  · rintro ⟨p, q, ⟨h2, h3, h4⟩, h5⟩
    exact ⟨p, q, ⟨h2, h3, (e p q h2 h3).2 h4⟩, h5⟩
theorem CI.start (c : CI h s n z a 0) : CI h s n z a (a + 1) := c.cg (fun p q h1 h2 => by omega)
theorem CI.next (c : CI h s n z a b) (hb : n ≤ b) : CI h s n z (a + 1) 0 := c.cg (fun p q h1 h2 => by omega)
theorem CI.skip (c : CI h s n z a b) (ha : 0 ≤ a) (hb : 0 ≤ b) (hn : ¬ Fp h s a.toNat b.toNat) : CI h s n z a (b + 1) := fun j h0 h1 => by
  rw [c j h0 h1]
  constructor
  · rintro ⟨p, q, ⟨h2, h3, h4⟩, h5⟩
    exact ⟨p, q, ⟨h2, h3, by omega⟩, h5⟩
  · rintro ⟨p, q, ⟨h2, h3, h4⟩, h5⟩
    by_cases e : (p : Int) = a ∧ (q : Int) = b
    · have e1 : a.toNat = p := by omega
      have e2 : b.toNat = q := by omega
      rw [e1, e2] at hn
      exact absurd h5.1 hn
    · exact ⟨p, q, ⟨h2, h3, by omega⟩, h5⟩
theorem CI.hit (c : CI h s n z a b) (ha : 0 ≤ a) (hab : a < b) (hb : b < n) (hF : Fp h s a.toNat b.toNat) {t : Int} (ht : t = lo h s a.toNat b.toNat) (ht2 : 0 ≤ t ∧ t ≤ 31) : CI h s n (kOr z (kShl 1 t)) a (b + 1) := fun j h0 h1 => by
  rw [bt_or, Bool.or_eq_true, c j h0 h1, tbc_shl ht2 h0 h1]
  constructor
  · rintro (⟨p, q, ⟨h2, h3, h4⟩, h5⟩ | e)
    · exact ⟨p, q, ⟨h2, h3, by omega⟩, h5⟩
    · exact ⟨a.toNat, b.toNat, ⟨by omega, by omega, by omega⟩, hF, by rw [e, ht]⟩
  · rintro ⟨p, q, ⟨h2, h3, h4⟩, h5, h6⟩
    by_cases e : (p : Int) = a ∧ (q : Int) = b
    · have e1 : a.toNat = p := by omega
      have e2 : b.toNat = q := by omega
      rw [e1, e2] at ht
      exact Or.inr (by rw [h6, ht])
    · exact Or.inl ⟨p, q, ⟨h2, h3, by omega⟩, h5, h6⟩
theorem lo_lt {p q : Nat} (e : eg h s p < eg h s q) : lo h s p q = p := by unfold lo; rw [if_pos e]
theorem lo_ge {p q : Nat} (e : ¬ eg h s p < eg h s q) : lo h s p q = q := by unfold lo; rw [if_neg e]
end CIs
/-- the ones of z: who is cut -/
def CtC (h : kH) (s : Nat) (n z : Int) : Prop := ∀ j : Int, 0 ≤ j → j ≤ 31 → (tb z j = true ↔ ∃ p q : Nat, (p < q ∧ (q : Int) < n) ∧ Fp h s p q ∧ j = lo h s p q)
theorem CI.end {h : kH} {s : Nat} {n z a b : Int} (c : CI h s n z a b) (ha : n ≤ a) : CtC h s n z := fun j h0 h1 => by
  rw [c j h0 h1]
  constructor
  · rintro ⟨p, q, ⟨h2, h3, h4⟩, h5⟩
    exact ⟨p, q, ⟨h2, h3⟩, h5⟩
  · rintro ⟨p, q, ⟨h2, h3⟩, h5⟩
    exact ⟨p, q, ⟨h2, h3, by omega⟩, h5⟩
/-- how many of the first k that b cuts are of the town that the town t fights -/
def cw (b : Int) (tn : Nat → Int) (t : Int) : Nat → Int
  | 0 => 0
  | k + 1 => cw b tn t k + (if tb b k = true ∧ 1 - tn k = t then 1 else 0)
theorem cw_congr {b t : Int} {v v' : Nat → Int} : ∀ {k : Nat}, (∀ i, i < k → v i = v' i) → cw b v t k = cw b v' t k := by
  intro k
  induction k with
  | zero => intro _; rfl
  | succ k ih => intro h; rw [cw, cw, ih (fun i hi => h i (by omega)), h k (by omega)]
/-- where the wind puts the kites -/
def blX (h : kH) (s k : Nat) : Int := max 0 (min 40 (h (s + 3 + 3) k + h (s + 1) (h (s + 3 + 4) k).toNat))
def BX (h h1 : kH) (s : Nat) (x : Int) : Prop := (∀ c, c ≠ s + 3 + 3 → h1 c = h c) ∧ ∀ k : Nat, h1 (s + 3 + 3) k = if (k : Int) < x then blX h s k else h (s + 3 + 3) k
theorem BX.z {h : kH} {s : Nat} : BX h h s 0 := ⟨fun _ _ => rfl, fun k => by rw [if_neg (by omega)]⟩
theorem BX.st {h h1 : kH} {s : Nat} {x v : Int} (a : BX h h1 s x) (hx : 0 ≤ x) (hv : v = blX h s x.toNat) : BX h (kU h1 (s + 3 + 3) x.toNat v) s (x + 1) := by
  refine ⟨fun c hc => (kU_c _ _ _ _ hc).trans (a.1 c hc), fun k => ?_⟩
  rw [kU_at]
  by_cases e : k = x.toNat
  · rw [if_pos ⟨rfl, e⟩, if_pos (by omega), hv, e]
  · rw [if_neg (by omega), a.2 k]
    by_cases q : (k : Int) < x
    · rw [if_pos q, if_pos (by omega)]
    · rw [if_neg q, if_neg (by omega)]
/-- streets won -/
def WN (h h1 : kH) (f : Nat) (b x : Int) : Prop := (∀ c, c ≠ f + 6 → h1 c = h c) ∧ ∀ t : Nat, t < 2 → h1 (f + 6) t = h (f + 6) t + cw b (h (f + 1)) t x.toNat
theorem WN.z {h : kH} {f : Nat} {b : Int} : WN h h f b 0 := ⟨fun _ _ => rfl, fun t _ => by simp [cw]⟩
theorem WN.no {h h1 : kH} {f : Nat} {b x : Int} (a : WN h h1 f b x) (hx : 0 ≤ x) (hb : tb b x = false) : WN h h1 f b (x + 1) := by
  refine ⟨a.1, fun t ht => ?_⟩
  rw [a.2 t ht, show (x + 1).toNat = x.toNat + 1 by omega, cw, show ((x.toNat : Nat) : Int) = x by omega, hb]
  simp
theorem WN.yes {h h1 : kH} {f : Nat} {b x v w : Int} {l : Nat} (a : WN h h1 f b x) (hx : 0 ≤ x) (hb : tb b x = true) (hl : (l : Int) = 1 - h (f + 1) x.toNat) (hl2 : l < 2) (hv : v = h1 (f + 6) l) (hw : w = v + 1) : WN h (kU h1 (f + 6) l w) f b (x + 1) := by
  refine ⟨fun c hc => (kU_c _ _ _ _ hc).trans (a.1 c hc), fun t ht => ?_⟩
  rw [show (x + 1).toNat = x.toNat + 1 by omega, cw, show ((x.toNat : Nat) : Int) = x by omega, kU_at]
  by_cases e : t = l
  · subst e
    rw [if_pos ⟨rfl, rfl⟩, if_pos ⟨hb, by omega⟩, hw, hv, a.2 t ht]
    omega
  · rw [if_neg (by omega), if_neg (by rintro ⟨-, q⟩; omega), a.2 t ht]
    omega
/-- a gust -/
def BLW (h h' : kH) (s : Nat) (z : Int) : Prop := ∃ h1 : kH, ((∀ c, c < s + 10 → c ≠ s + 3 + 3 → h1 c = h c) ∧ (∀ k : Nat, (k : Int) < h (s + 3) 6 → h1 (s + 3 + 3) k = blX h s k)) ∧ CtC h1 s (h (s + 3) 6) z ∧
  h' (s + 3) 6 = kc (pB z) (h (s + 3) 6).toNat ∧ (∀ k a : Nat, (k : Int) < h (s + 3) 6 → pB z k = true → a < 5 → h' (s + 3 + 1 + a) (kc (pB z) k) = h1 (s + 3 + 1 + a) k) ∧ ∀ t : Nat, t < 2 → h' (s + 3 + 6) t = h (s + 3 + 6) t + cw z (h (s + 3 + 1)) t (h (s + 3) 6).toNat
theorem BLW.mk {h h1 h2 h3 h4 : kH} {s : Nat} {z x y : Int} (b : BX h h1 s x) (hx : h (s + 3) 6 ≤ x) (c : CtC h1 s (h1 (s + 3) 6) z) (f : ∀ c, c ≠ s + 2 → h2 c = h1 c) (w : WN h2 h3 (s + 3) z y) (hy : y = h (s + 3) 6) (d : FD h3 h4 (s + 3) (pB z)) : BLW h h4 s z := by
  have e1 : ∀ c, c ≠ s + 3 + 3 → h1 c = h c := b.1
  have n3 : h3 (s + 3) 6 = h (s + 3) 6 := by rw [w.1 _ (by omega), f _ (by omega), e1 _ (by omega)]
  obtain ⟨d1, d2, d3⟩ := d
  refine ⟨h1, ⟨fun c _ hc => e1 c hc, fun k hk => by rw [b.2 k, if_pos (by omega)]⟩, by rw [← e1 (s + 3) (by omega)]; exact c, by rw [d1, n3], fun k a hk hp ha => ?_, fun t ht => ?_⟩
  · rw [d2 k a (by omega) hp ha, w.1 _ (by omega), f _ (by omega)]
  · rw [d3 t, w.2 t ht, f _ (by omega), e1 _ (by omega), f _ (by omega), e1 _ (by omega), hy]
