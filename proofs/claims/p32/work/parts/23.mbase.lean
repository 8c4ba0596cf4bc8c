section
/-! for the reference: longs, bits, its fleets -/
theorem K_eqJ {X : kX} {G : kG} {Z : kZ} {pc : Nat} {lo : List (Nat × Value)} {st : List Value} {h : kH} {a a' : Int} (e : a = a') (k : K X G Z pc lo (kJ a' :: st) h) : K X G Z pc lo (kJ a :: st) h := by
  rw [e]; exact k
theorem ofInt64_toInt {a : Int} (h : -9223372036854775808 ≤ a ∧ a ≤ 9223372036854775807) : (Int64.ofInt a).toInt = a := Int64.toInt_ofInt_of_le (by omega) (by omega)
theorem kLcmp_s {a b : Int} (ha : -9223372036854775808 ≤ a ∧ a ≤ 9223372036854775807) (hb : -9223372036854775808 ≤ b ∧ b ≤ 9223372036854775807) : (kLcmp a b = 1 ∧ b < a) ∨ (kLcmp a b = 0 ∧ a = b) ∨ (kLcmp a b = -1 ∧ a < b) := by
  unfold kLcmp lg_cmp
  by_cases h1 : Int64.ofInt a > Int64.ofInt b
  · rw [if_pos h1]
    rw [gt_iff_lt, Int64.lt_iff_toInt_lt, ofInt64_toInt ha, ofInt64_toInt hb] at h1
    exact Or.inl ⟨rfl, h1⟩
  · rw [if_neg h1]
    rw [gt_iff_lt, Int64.lt_iff_toInt_lt, ofInt64_toInt ha, ofInt64_toInt hb] at h1
    by_cases h2 : Int64.ofInt a = Int64.ofInt b
    · rw [if_pos h2]
      rw [← Int64.toInt_inj, ofInt64_toInt ha, ofInt64_toInt hb] at h2
      exact Or.inr (Or.inl ⟨rfl, h2⟩)
    · rw [if_neg h2]
      rw [← Int64.toInt_inj, ofInt64_toInt ha, ofInt64_toInt hb] at h2
      exact Or.inr (Or.inr ⟨rfl, by omega⟩)
-- the reference's fleets
theorem MOk.hi {h : kH} {i : Nat} {v : Int} (hn : h 184 4 ≤ 8) (hi : 40 ≤ i) (a : MOk h) : MOk (kU h 187 i v) := by
  refine ⟨?_, ?_, ?_⟩
  · rw [kU_at h 187 i v 184 4, if_neg (by omega)]
    exact FK.congr hn (fun j hj => by rw [kU_at, if_neg (by omega)]) a.1
  · have e : kU h 187 i v 191 = h 191 := kU_c _ _ _ _ (by decide)
    rw [e]; exact a.2.1
  · have e : kU h 187 i v 200 = h 200 := kU_c _ _ _ _ (by decide)
    rw [e]; exact a.2.2
theorem FK.mono {k : Nat → Int} {n m : Int} (h : m ≤ n) (a : FK k n) : FK k m := fun i hi => by
  obtain ⟨h1, h2, h3, h4⟩ := a i (by omega)
  exact ⟨h1, h2, h3, fun j hj hne => h4 j (by omega) hne⟩
theorem bK_of {i j : Nat} {v : Int} (h : bK i v) (e : j % 5 = i % 5) : bK j v := by unfold bK at h ⊢; rw [e]; exact h
theorem bR_of {i r j : Nat} {v : Int} (h : bK i v) (hi : i < 40) (e : j = 43 * r + i) : bR j v := by
  have e2 : j % 43 = i := by omega
  unfold bK at h; unfold bR; rw [e2]; exact ⟨fun _ => h, fun q => by omega⟩
theorem bK_ofR {i r j : Nat} {v : Int} (h : bR j v) (hi : i < 40) (e : j = 43 * r + i) : bK i v := by
  have e2 : j % 43 = i := by omega
  unfold bR at h; rw [e2] at h; exact h.1 hi
theorem bP_of {i r j : Nat} {v : Int} (h : bK i v) (hi : i < 40) (e : j = 53 * r + i) : bP j v := by
  have e2 : j % 53 = i := by omega
  unfold bK at h; unfold bP; rw [e2]; exact ⟨fun _ => h, fun q => by omega, fun q => by omega⟩
theorem bK_ofP {i r j : Nat} {v : Int} (h : bP j v) (hi : i < 40) (e : j = 53 * r + i) : bK i v := by
  have e2 : j % 53 = i := by omega
  unfold bP at h; rw [e2] at h; exact h.1 hi
end
section
/-! the reference's fleets: five numbers a kite, from an offset -/
def kap (h : kH) (o : Nat) : Nat → Int := fun j => h 187 (o + j)
theorem kap_0 (h : kH) : kap h 0 = h 187 := funext fun j => by unfold kap; rw [Nat.zero_add]
theorem kap_of {h h' : kH} {o : Nat} (e : h' 187 = h 187) : kap h' o = kap h o := by unfold kap; rw [e]
theorem kap_u (h : kH) (o i j : Nat) (v : Int) : kap (kU h 187 (o + i) v) o j = if j = i then v else kap h o j := by
  unfold kap
  rw [kU_s]
  by_cases e : j = i
  · rw [if_pos (by omega), if_pos e]
  · rw [if_neg (by omega), if_neg e]
theorem FK0 {h : kH} {n : Int} (a : FK (h 187) n) : FK (kap h 0) n := by rw [kap_0]; exact a
def egK (k wd : Nat → Int) (i : Nat) : Int := k (5 * i + 4) * (kAbs (wd (k (5 * i + 3)).toNat) + 1)
def drK (k : Nat → Int) (i j : Nat) : Int := (k (5 * i + 2) - k (5 * i + 1)) * k (5 * j + 3) - (k (5 * j + 2) - k (5 * j + 1)) * k (5 * i + 3)
def crK (k : Nat → Int) (i j : Nat) : Prop := crM (k (5 * i + 1)) (k (5 * i + 2)) (k (5 * i + 3)) (k (5 * j + 1)) (k (5 * j + 2)) (k (5 * j + 3))
theorem cr_pos {sA xA hA sB xB hB : Int} (h : 0 < sA - sB) : crM sA xA hA sB xB hB ↔ thM sA xA hA sB xB hB ≤ 0 := by unfold crM; rw [if_pos h]
theorem cr_neg {sA xA hA sB xB hB : Int} (h : ¬ 0 < sA - sB) : crM sA xA hA sB xB hB ↔ 0 ≤ thM sA xA hA sB xB hB := by unfold crM; rw [if_neg h]
/-- the kite p cuts the kite q -/
def FpK (k wd : Nat → Int) (p q : Nat) : Prop := k (5 * p) ≠ k (5 * q) ∧ egK k wd q < egK k wd p ∧ crK k p q
def CKI (k wd : Nat → Int) (n z a b : Int) : Prop := ∀ j : Int, 0 ≤ j → j ≤ 31 → (tb z j = true ↔ ∃ p q : Nat, ((p : Int) < n ∧ (q : Int) < n ∧ ((p : Int) < a ∨ ((p : Int) = a ∧ (q : Int) < b))) ∧ FpK k wd p q ∧ j = q)
def CtK (k wd : Nat → Int) (n z : Int) : Prop := ∀ j : Int, 0 ≤ j → j ≤ 31 → (tb z j = true ↔ ∃ p q : Nat, ((p : Int) < n ∧ (q : Int) < n) ∧ FpK k wd p q ∧ j = q)
section CK
variable {k wd : Nat → Int} {n z a b : Int}
theorem CKI.zero : CKI k wd n 0 0 0 := fun j h0 h1 => by
  rw [tbc_0 h0 h1]
  refine ⟨fun e => absurd e Bool.false_ne_true, ?_⟩
  rintro ⟨p, q, h2, -, -⟩
  omega
theorem CKI.next (c : CKI k wd n z a b) (hb : n ≤ b) : CKI k wd n z (a + 1) 0 := fun j h0 h1 => by
  rw [c j h0 h1]
  constructor
  · rintro ⟨p, q, ⟨h2, h3, h4⟩, h5⟩
    exact ⟨p, q, ⟨h2, h3, by omega⟩, h5⟩
  · rintro ⟨p, q, ⟨h2, h3, h4⟩, h5⟩
    exact ⟨p, q, ⟨h2, h3, by omega⟩, h5⟩
theorem CKI.skip (c : CKI k wd n z a b) (ha : 0 ≤ a) (hb : 0 ≤ b) (hn : ¬ FpK k wd a.toNat b.toNat) : CKI k wd n (kOr z 0) a (b + 1) := fun j h0 h1 => by
  rw [bt_or, tbc_0 h0 h1, Bool.or_false, c j h0 h1]
  constructor
  · rintro ⟨p, q, ⟨h2, h3, h4⟩, h5⟩
    exact ⟨p, q, ⟨h2, h3, by omega⟩, h5⟩
  · rintro ⟨p, q, ⟨h2, h3, h4⟩, h5⟩
    by_cases e : (p : Int) = a ∧ (q : Int) = b
    · have e1 : a.toNat = p := by omega
      have e2 : b.toNat = q := by omega
      rw [e1, e2] at hn
      exact absurd h5.1 hn
    · exact ⟨p, q, ⟨h2, h3, by omega⟩, h5⟩
theorem CKI.hit (c : CKI k wd n z a b) (ha : 0 ≤ a ∧ a < n) (hb : 0 ≤ b ∧ b < n) (h31 : b ≤ 31) (hF : FpK k wd a.toNat b.toNat) : CKI k wd n (kOr z (kShl 1 b)) a (b + 1) := fun j h0 h1 => by
  rw [bt_or, Bool.or_eq_true, c j h0 h1, tbc_shl ⟨hb.1, h31⟩ h0 h1]
  constructor
  · rintro (⟨p, q, ⟨h2, h3, h4⟩, h5⟩ | e)
    · exact ⟨p, q, ⟨h2, h3, by omega⟩, h5⟩
    · exact ⟨a.toNat, b.toNat, ⟨by omega, by omega, by omega⟩, hF, by omega⟩
  · rintro ⟨p, q, ⟨h2, h3, h4⟩, h5, h6⟩
    by_cases e : (p : Int) = a ∧ (q : Int) = b
    · exact Or.inr (by omega)
    · exact Or.inl ⟨p, q, ⟨h2, h3, by omega⟩, h5, h6⟩
theorem CKI.end (c : CKI k wd n z a b) (ha : n ≤ a) : CtK k wd n z := fun j h0 h1 => by
  rw [c j h0 h1]
  constructor
  · rintro ⟨p, q, ⟨h2, h3, h4⟩, h5⟩
    exact ⟨p, q, ⟨h2, h3⟩, h5⟩
  · rintro ⟨p, q, ⟨h2, h3⟩, h5⟩
    exact ⟨p, q, ⟨h2, h3, by omega⟩, h5⟩
end CK
/-- the wind moves the first x kites -/
def BXK (k k' wd : Nat → Int) (x : Int) : Prop := ∀ j : Nat, k' j = if j % 5 = 2 ∧ ((j / 5 : Nat) : Int) < x then max 0 (min 40 (k j + wd (k (j + 1)).toNat)) else k j
theorem BXK.z {k wd : Nat → Int} : BXK k k wd 0 := fun j => by rw [if_neg (by omega)]
theorem BXK.st {k wd : Nat → Int} {h1 : kH} {o i : Nat} {x v : Int} (a : BXK k (kap h1 o) wd x) (hx : 0 ≤ x) (hi : i = o + (5 * x.toNat + 2)) (hv : v = max 0 (min 40 (k (5 * x.toNat + 2) + wd (k (5 * x.toNat + 3)).toNat))) : BXK k (kap (kU h1 187 i v) o) wd (x + 1) := fun j => by
  subst hi
  rw [kap_u]
  by_cases e : j = 5 * x.toNat + 2
  · rw [if_pos e, if_pos (by omega), hv, e]
  · rw [if_neg e, a j]
    by_cases q : j % 5 = 2 ∧ ((j / 5 : Nat) : Int) < x
    · rw [if_pos q, if_pos (by omega)]
    · rw [if_neg q, if_neg (by omega)]
theorem BXK.ot {k k' wd : Nat → Int} {x : Int} (a : BXK k k' wd x) {j : Nat} (h : j % 5 ≠ 2) : k' j = k j := by rw [a j, if_neg (by omega)]
theorem BXK.ge {k k' wd : Nat → Int} {x : Int} (a : BXK k k' wd x) {i : Nat} (h : x ≤ i) : k' (5 * i + 2) = k (5 * i + 2) := by rw [a, if_neg (by omega)]
theorem BXK.lt {k k' wd : Nat → Int} {x : Int} (a : BXK k k' wd x) {i : Nat} (h : (i : Int) < x) : k' (5 * i + 2) = max 0 (min 40 (k (5 * i + 2) + wd (k (5 * i + 3)).toNat)) := by rw [a, if_pos (by omega)]
theorem FK.blow {k k' wd : Nat → Int} {n x : Int} (a : FK k n) (b : BXK k k' wd x) : FK k' n := by
  intro i hi
  obtain ⟨h1, h2, h3, h4⟩ := a i hi
  rw [b.ot (j := 5 * i + 1) (by omega), b.ot (j := 5 * i + 3) (by omega)]
  refine ⟨h1, ?_, h3, fun j hj hne => ?_⟩
  · rw [b (5 * i + 2)]
    split <;> omega
  · rw [b.ot (j := 5 * j + 1) (by omega)]; exact h4 j hj hne
/-- those that p keeps move up -/
def THK (k k' : Nat → Int) (p : Nat → Bool) (n : Int) : Prop := ∀ i a : Nat, (i : Int) < n → p i = true → a < 5 → k' (5 * kc p i + a) = k (5 * i + a)
theorem FK.thin {k k' : Nat → Int} {p : Nat → Bool} {n : Int} (a : FK k n) (t : THK k k' p n) (hn : 0 ≤ n) : FK k' (kc p n.toNat) := by
  intro i hi
  obtain ⟨j, j1, j2, j3⟩ := kc_on p (show i < kc p n.toNat by omega)
  obtain ⟨h1, h2, h3, h4⟩ := a j (by omega)
  rw [← j3, t j 1 (by omega) j2 (by omega), t j 2 (by omega) j2 (by omega), t j 3 (by omega) j2 (by omega)]
  refine ⟨h1, h2, h3, fun i' hi' hne => ?_⟩
  obtain ⟨l, l1, l2, l3⟩ := kc_on p (show i' < kc p n.toNat by omega)
  rw [← l3, t l 1 (by omega) l2 (by omega)]
  exact h4 l (by omega) (fun e => hne (by rw [← l3, e, j3]))
def LVK (k k' : Nat → Int) (p : Nat → Bool) (x : Nat) : Prop := (∀ j a : Nat, j < x → p j = true → a < 5 → k' (5 * kc p j + a) = k (5 * j + a)) ∧ ∀ j, 5 * x ≤ j → k' j = k j
theorem LVK.z {k : Nat → Int} {p : Nat → Bool} : LVK k k p 0 := ⟨fun j a hj => absurd hj (by omega), fun _ _ => rfl⟩
theorem LVK.no {k k' : Nat → Int} {p : Nat → Bool} {x : Nat} (a : LVK k k' p x) (hp : p x = false) : LVK k k' p (x + 1) := by
  refine ⟨fun j c hj hpj hc => ?_, fun j hj => a.2 j (by omega)⟩
  by_cases e : j = x
  · rw [e, hp] at hpj; exact absurd hpj Bool.false_ne_true
  · exact a.1 j c (by omega) hpj hc
def LVKi (k k' : Nat → Int) (p : Nat → Bool) (x m : Nat) : Prop := LVK k k' p x ∧ ∀ a, a < m → k' (5 * kc p x + a) = k (5 * x + a)
theorem LVK.i {k k' : Nat → Int} {p : Nat → Bool} {x : Nat} (a : LVK k k' p x) : LVKi k k' p x 0 := ⟨a, fun c hc => absurd hc (by omega)⟩
theorem LVKi.st {k : Nat → Int} {h1 : kH} {o i : Nat} {p : Nat → Bool} {x m : Nat} {v : Int} (a : LVKi k (kap h1 o) p x m) (hm : m < 5) (hi : i = o + (5 * kc p x + m)) (hv : v = kap h1 o (5 * x + m)) : LVKi k (kap (kU h1 187 i v) o) p x (m + 1) := by
  subst hi
  have hle := kc_le p x
  have hvk : v = k (5 * x + m) := by rw [hv]; exact a.1.2 _ (by omega)
  refine ⟨⟨fun j c hj hpj hc => ?_, fun j hj => ?_⟩, fun c hc => ?_⟩
  · have := kc_lt p hj hpj
    rw [kap_u, if_neg (by omega)]
    exact a.1.1 j c hj hpj hc
  · rw [kap_u]
    by_cases e : j = 5 * kc p x + m
    · rw [if_pos e, hvk, show 5 * x + m = j by omega]
    · rw [if_neg e]; exact a.1.2 j hj
  · rw [kap_u]
    by_cases e : c = m
    · rw [if_pos (by omega), hvk, e]
    · rw [if_neg (by omega)]; exact a.2 c (by omega)
theorem LVKi.end {k k' : Nat → Int} {p : Nat → Bool} {x : Nat} (a : LVKi k k' p x 5) : LVK k k' p (x + 1) := by
  refine ⟨fun j c hj hpj hc => ?_, fun j hj => a.1.2 j (by omega)⟩
  by_cases e : j = x
  · rw [e]; exact a.2 c hc
  · exact a.1.1 j c (by omega) hpj hc
theorem cw_le (b : Int) (tn : Nat → Int) (t : Int) : ∀ k : Nat, 0 ≤ cw b tn t k ∧ cw b tn t k ≤ k := by
  intro k
  induction k with
  | zero => exact ⟨Int.le_refl 0, Int.le_refl 0⟩
  | succ k ih => rw [cw]; split <;> omega
/-- what is gained: the first x are looked at -/
def GN (g g' : Nat → Int) (b : Int) (tn : Nat → Int) (x : Int) : Prop := ∀ t : Nat, t < 2 → g' t = g t + cw b tn t x.toNat
theorem GN.z {g : Nat → Int} {b : Int} {tn : Nat → Int} : GN g g b tn 0 := fun t _ => by simp [cw]
theorem GN.no {g g' : Nat → Int} {b x : Int} {tn : Nat → Int} (a : GN g g' b tn x) (hx : 0 ≤ x) (hb : tb b x = false) : GN g g' b tn (x + 1) := fun t ht => by
  rw [a t ht, show (x + 1).toNat = x.toNat + 1 by omega, cw, show ((x.toNat : Nat) : Int) = x by omega, hb]
  simp
theorem GN.yes {g : Nat → Int} {h1 : kH} {b x v w : Int} {tn : Nat → Int} {l : Nat} (a : GN g (h1 192) b tn x) (hx : 0 ≤ x) (hb : tb b x = true) (hl : (l : Int) = 1 - tn x.toNat) (hv : v = h1 192 l) (hw : w = v + 1) : GN g (kU h1 192 l w 192) b tn (x + 1) := fun t ht => by
  rw [show (x + 1).toNat = x.toNat + 1 by omega, cw, show ((x.toNat : Nat) : Int) = x by omega, kU_s]
  by_cases e : t = l
  · subst e
    rw [if_pos rfl, if_pos ⟨hb, by omega⟩, hw, hv, a t ht]
    omega
  · rw [if_neg e, if_neg (by rintro ⟨-, q⟩; omega), a t ht]
    omega
/-- a gust of the reference -/
def GSK (wd k : Nat → Int) (n : Int) (k' : Nat → Int) (n' z : Int) (d : Nat → Int) : Prop := ∃ km, (kR z ∧ BXK k km wd n ∧ CtK km wd n z ∧ FK km n) ∧ n' = kc (pB z) n.toNat ∧ THK km k' (pB z) n ∧ ∀ t : Nat, t < 2 → d t = cw z (fun i => k (5 * i)) t n.toNat
theorem cw_k {b : Int} {k k' wd : Nat → Int} {n : Int} {t : Int} {m : Nat} (a : BXK k k' wd n) : cw b (fun i => k' (5 * i)) t m = cw b (fun i => k (5 * i)) t m := cw_congr (fun i _ => a.ot (j := 5 * i) (by omega))
/-- gusts of the reference, one behind another -/
def MTK (wd : Nat → Int) : Nat → (Nat → Int) → Int → (Nat → Int) → Int → (Nat → Int) → Prop
  | 0, k, n, k', n', d => k' = k ∧ n' = n ∧ ∀ t : Nat, t < 2 → d t = 0
  | m + 1, k, n, k', n', d => ∃ (k1 : Nat → Int) (n1 : Int) (d1 : Nat → Int) (z : Int) (d2 : Nat → Int), MTK wd m k n k1 n1 d1 ∧ GSK wd k1 n1 k' n' z d2 ∧ ∀ t : Nat, t < 2 → d t = d1 t + d2 t
/-- the act is kept -/
def MR (h h' : kH) : Prop := (h' 184 12 = (h 184 12 + 1) % 16 ∧ h' 184 11 = min 16 (h 184 11 + 1)) ∧ (∀ j, j < 40 → h' 191 (43 * (h 184 12).toNat + j) = h 187 j) ∧
  (h' 191 (43 * (h 184 12).toNat + 40) = h 184 4 ∧ h' 191 (43 * (h 184 12).toNat + 41) = h 189 0 ∧ h' 191 (43 * (h 184 12).toNat + 42) = h 189 1) ∧ ∀ i, i < 43 * (h 184 12).toNat ∨ 43 * (h 184 12).toNat + 43 ≤ i → h' 191 i = h 191 i
theorem MR.of {h h1 h2 : kH} (a : MR h h1) (e : h2 191 = h1 191) (e11 : h2 184 11 = h1 184 11) (e12 : h2 184 12 = h1 184 12) : MR h h2 := by
  unfold MR
  rw [e, e11, e12]
  exact a
def hsM (h : kH) (x : Int) : Prop := ∃ i : Nat, (i : Int) < h 184 4 ∧ h 187 (5 * i + 1) = x
def CMwind (h h' : kH) (x w z : Int) : Prop :=
  ((1 ≤ x ∧ x ≤ 9 ∧ -3 ≤ w ∧ w ≤ 3) ∧ z = h 188 x.toNat + 3 ∧ ∀ j, h' 188 j = if j = x.toNat then w else h 188 j) ∨ (¬ (1 ≤ x ∧ x ≤ 9 ∧ -3 ≤ w ∧ w ≤ 3) ∧ z = -2 ∧ h' = h)
def CMrise (h h' : kH) (x n z : Int) : Prop :=
  (¬ (0 ≤ x ∧ x < h 184 4) ∧ z = -1 ∧ h' = h) ∨ ((0 ≤ x ∧ x < h 184 4) ∧ ¬ (-8 ≤ n ∧ n ≤ 8 ∧ 1 ≤ h 187 (5 * x.toNat + 3) + n ∧ h 187 (5 * x.toNat + 3) + n ≤ 9) ∧ z = -2 ∧ h' = h) ∨
  ((0 ≤ x ∧ x < h 184 4) ∧ (-8 ≤ n ∧ n ≤ 8 ∧ 1 ≤ h 187 (5 * x.toNat + 3) + n ∧ h 187 (5 * x.toNat + 3) + n ≤ 9) ∧ z = h 187 (5 * x.toNat + 3) + n ∧ MR h h' ∧ ∀ j, h' 187 j = if j = 5 * x.toNat + 3 then h 187 (5 * x.toNat + 3) + n else h 187 j)
def CMrun (h h' : kH) (x s z : Int) : Prop :=
  (¬ (0 ≤ x ∧ x < h 184 4) ∧ z = -1 ∧ h' = h) ∨ ((0 ≤ x ∧ x < h 184 4) ∧ ¬ (0 ≤ s ∧ s ≤ 40) ∧ z = -2 ∧ h' = h) ∨ ((0 ≤ x ∧ x < h 184 4) ∧ (0 ≤ s ∧ s ≤ 40) ∧ hsM h s ∧ z = -3 ∧ h' = h) ∨
  ((0 ≤ x ∧ x < h 184 4) ∧ (0 ≤ s ∧ s ≤ 40) ∧ ¬ hsM h s ∧ z = kAbs (s - h 187 (5 * x.toNat + 1)) ∧ MR h h' ∧ ∀ j, h' 187 j = if j = 5 * x.toNat + 1 then s else h 187 j)
/-- one kite more -/
def AK (k k' : Nat → Int) (n : Nat) (t s e gl : Int) : Prop := (∀ j, j < 5 * n → k' j = k j) ∧ k' (5 * n) = t ∧ k' (5 * n + 1) = s ∧ k' (5 * n + 2) = s ∧ k' (5 * n + 3) = e ∧ k' (5 * n + 4) = gl
def CMlaunch (h h' : kH) (t s e gl z : Int) : Prop :=
  (¬ ((0 ≤ t ∧ t ≤ 1) ∧ (0 ≤ s ∧ s ≤ 40) ∧ (1 ≤ e ∧ e ≤ 9) ∧ 0 ≤ gl ∧ gl ≤ 9) ∧ z = -2 ∧ h' = h) ∨ (((0 ≤ t ∧ t ≤ 1) ∧ (0 ≤ s ∧ s ≤ 40) ∧ (1 ≤ e ∧ e ≤ 9) ∧ 0 ≤ gl ∧ gl ≤ 9) ∧ hsM h s ∧ z = -3 ∧ h' = h) ∨
  (((0 ≤ t ∧ t ≤ 1) ∧ (0 ≤ s ∧ s ≤ 40) ∧ (1 ≤ e ∧ e ≤ 9) ∧ 0 ≤ gl ∧ gl ≤ 9) ∧ ¬ hsM h s ∧ h 184 4 = 8 ∧ z = -4 ∧ h' = h) ∨
  (((0 ≤ t ∧ t ≤ 1) ∧ (0 ≤ s ∧ s ≤ 40) ∧ (1 ≤ e ∧ e ≤ 9) ∧ 0 ≤ gl ∧ gl ≤ 9) ∧ ¬ hsM h s ∧ h 184 4 ≤ 7 ∧ z = h 184 4 ∧ MR h h' ∧ h' 184 4 = h 184 4 + 1 ∧ AK (h 187) (h' 187) (h 184 4).toNat t s e gl)
def CMtakeIn (h h' : kH) (x z : Int) : Prop := (¬ (0 ≤ x ∧ x < h 184 4) ∧ z = -1 ∧ h' = h) ∨
  ((0 ≤ x ∧ x < h 184 4) ∧ z = h' 184 4 ∧ h' 184 4 = h 184 4 - 1 ∧ MR h h' ∧ (∀ j, j < 5 * x.toNat → h' 187 j = h 187 j) ∧ ∀ j : Nat, 5 * x.toNat ≤ j → (j : Int) < 5 * (h 184 4 - 1) → h' 187 j = h 187 (j + 5))
def CMgust (h h' : kH) (z : Int) : Prop := MR h h' ∧ ∃ d : Nat → Int, GSK (h 188) (h 187) (h 184 4) (h' 187) (h' 184 4) z d ∧ h' 189 0 = h 189 0 + d 0 ∧ h' 189 1 = h 189 1 + d 1
def CMundo (h h' : kH) (z : Int) : Prop := (h 184 11 = 0 ∧ z = -3 ∧ h' = h) ∨ (h 184 11 ≠ 0 ∧ z = h 184 11 - 1 ∧ h' 184 12 = (h 184 12 + 15) % 16 ∧ h' 184 11 = h 184 11 - 1 ∧ (∀ j, j < 40 → h' 187 j = h 191 (43 * ((h 184 12 + 15) % 16).toNat + j)) ∧
  h' 184 4 = h 191 (43 * ((h 184 12 + 15) % 16).toNat + 40) ∧ h' 189 0 = h 191 (43 * ((h 184 12 + 15) % 16).toNat + 41) ∧ h' 189 1 = h 191 (43 * ((h 184 12 + 15) % 16).toNat + 42))
def CMkeep (h h' : kH) (x z : Int) : Prop := (¬ (0 ≤ x ∧ x ≤ 1) ∧ z = -1 ∧ h' = h) ∨
  ((0 ≤ x ∧ x ≤ 1) ∧ z = h 184 4 ∧ (∀ j, h' 199 j = if j = x.toNat then 1 else h 199 j) ∧ (∀ j, j < 40 → h' 200 (53 * x.toNat + j) = h 187 j) ∧ (∀ i, i < 10 → h' 200 (53 * x.toNat + 40 + i) = h 188 i) ∧ (h' 200 (53 * x.toNat + 50) = h 184 4 ∧ h' 200 (53 * x.toNat + 51) = h 189 0 ∧ h' 200 (53 * x.toNat + 52) = h 189 1) ∧
   ∀ i, i < 53 * x.toNat ∨ 53 * x.toNat + 53 ≤ i → h' 200 i = h 200 i)
def CMagain (h h' : kH) (x z : Int) : Prop := (¬ (0 ≤ x ∧ x ≤ 1) ∧ z = -1 ∧ h' = h) ∨ ((0 ≤ x ∧ x ≤ 1) ∧ h 199 x.toNat = 0 ∧ z = -3 ∧ h' = h) ∨
  ((0 ≤ x ∧ x ≤ 1) ∧ h 199 x.toNat ≠ 0 ∧ z = h' 184 4 ∧ (∀ j, j < 40 → h' 187 j = h 200 (53 * x.toNat + j)) ∧ (∀ i, i < 10 → h' 188 i = h 200 (53 * x.toNat + 40 + i)) ∧ (h' 184 4 = h 200 (53 * x.toNat + 50) ∧ h' 189 0 = h 200 (53 * x.toNat + 51) ∧ h' 189 1 = h 200 (53 * x.toNat + 52)) ∧ h' 184 11 = 0)
def CMwar (h h' : kH) (z : Int) : Prop := ∃ fl : Int, FaultIs (h 190) (h 184 8) fl ∧ ((fl ≠ -9 ∧ z = -3 ∧ (h' 187 = h 187 ∧ h' 188 = h 188 ∧ h' 189 = h 189 ∧ h' 199 = h 199) ∧ h' 184 4 = h 184 4 ∧ h' 184 11 = h 184 11) ∨
  (fl = -9 ∧ z = h' 184 4 ∧ 10 + 8 * h' 184 4 = h 184 8 ∧ (∀ k : Nat, (k : Int) < h' 184 4 → h' 187 (5 * k) = h 190 (10 + 8 * k + 1) - 48 ∧ h' 187 (5 * k + 1) = prI (h 190) (10 + (k : Int) * 8 + 2) ∧ h' 187 (5 * k + 2) = prI (h 190) (10 + (k : Int) * 8 + 4) ∧ h' 187 (5 * k + 3) = h 190 (10 + 8 * k + 6) - 48 ∧ h' 187 (5 * k + 4) = h 190 (10 + 8 * k + 7) - 48) ∧
   ((∀ k : Nat, 1 ≤ k → k < 10 → h' 188 k = h 190 k - 48 - 3) ∧ h' 188 0 = h 188 0) ∧ (h' 189 0 = 0 ∧ h' 189 1 = 0) ∧ h' 184 11 = 0 ∧ h' 199 0 = 0 ∧ h' 199 1 = 0))
def CMsee (h h' : kH) (x y b z : Int) : Prop := (¬ ((0 ≤ x ∧ x < h 184 4 ∧ x < 4) ∧ (0 ≤ y ∧ y < h 184 4 ∧ y < 4)) ∧ z = -1 ∧ h' = h) ∨ (((0 ≤ x ∧ x < h 184 4 ∧ x < 4) ∧ (0 ≤ y ∧ y < h 184 4 ∧ y < 4)) ∧ x = y ∧ z = -2 ∧ h' = h) ∨ (((0 ≤ x ∧ x < h 184 4 ∧ x < 4) ∧ (0 ≤ y ∧ y < h 184 4 ∧ y < 4)) ∧ x ≠ y ∧ 8 ≤ h 184 16 ∧ z = -4 ∧ h' = h) ∨
  (((0 ≤ x ∧ x < h 184 4 ∧ x < 4) ∧ (0 ≤ y ∧ y < h 184 4 ∧ y < 4)) ∧ x ≠ y ∧ h 184 16 < 8 ∧ z = h 184 16 + 1 ∧ h' 184 16 = h 184 16 + 1 ∧ (∀ j, h' 193 j = if j = (h 184 16).toNat then x else h 193 j) ∧ (∀ j, h' 194 j = if j = (h 184 16).toNat then y else h 194 j) ∧ ∀ j, h' 195 j = if j = (h 184 16).toNat then b else h 195 j)
def CMcross (h : kH) (x y z : Int) : Prop :=
  (¬ ((0 ≤ x ∧ x < h 184 4) ∧ 0 ≤ y ∧ y < h 184 4) ∧ z = -1) ∨ (((0 ≤ x ∧ x < h 184 4) ∧ 0 ≤ y ∧ y < h 184 4) ∧ x = y ∧ z = -2) ∨
  (((0 ≤ x ∧ x < h 184 4) ∧ 0 ≤ y ∧ y < h 184 4) ∧ x ≠ y ∧ ((z = 1 ∧ crK (h 187) x.toNat y.toNat) ∨ (z = 0 ∧ ¬ crK (h 187) x.toNat y.toNat)))
theorem kap_uf (h : kH) (o i : Nat) (v : Int) : kap (kU h 187 (o + i) v) o = fun j => if j = i then v else kap h o j := funext fun j => kap_u h o i j v
theorem MTK.st {wd k : Nat → Int} {n : Int} {m : Nat} {ha h1 h2 : kH} {x z l : Int} (p : MTK wd m k n (kap ha 40) x (ha 192)) (hw : ha 188 = wd) (kr : kR z) (bx : BXK (kap ha 40) (kap h1 40) (ha 188) x) (ct : CtK (kap h1 40) (ha 188) x z) (fk : FK (kap h1 40) x) (e192 : h1 192 = ha 192) (hl : l = kc (pB z) x.toNat)
    (th : THK (kap h1 40) (kap h2 40) (pB z) x) (gn : GN (h1 192) (h2 192) z (fun i => kap h1 40 (5 * i)) x) : MTK wd (m + 1) k n (kap h2 40) l (h2 192) := by
  rw [hw] at bx ct
  refine ⟨kap ha 40, x, ha 192, z, fun t => h2 192 t - ha 192 t, p, ⟨kap h1 40, ⟨kr, bx, ct, fk⟩, hl, th, fun t ht => ?_⟩, fun t _ => by dsimp only; omega⟩
  have := gn t ht
  rw [e192, cw_k bx] at this
  dsimp only
  omega
/-- what is gained by m gusts -/
theorem kc_n (p : Nat → Bool) (n : Int) (hn : 0 ≤ n) : 0 ≤ ((kc p n.toNat : Nat) : Int) ∧ ((kc p n.toNat : Nat) : Int) ≤ n := by have := kc_le p n.toNat; omega
theorem MTK.bd {wd : Nat → Int} : ∀ {m : Nat} {k k' : Nat → Int} {n n' : Int} {d : Nat → Int}, 0 ≤ n → n ≤ 8 → MTK wd m k n k' n' d → (0 ≤ n' ∧ n' ≤ n) ∧ ∀ t : Nat, t < 2 → 0 ≤ d t ∧ d t ≤ 8 * m := by
  intro m
  induction m with
  | zero =>
    intro k k' n n' d h0 h8 a
    obtain ⟨a1, a2, a3⟩ := a
    exact ⟨by omega, fun t ht => by rw [a3 t ht]; omega⟩
  | succ m ih =>
    intro k k' n n' d h0 h8 a
    obtain ⟨k1, n1, d1, z, d2, a1, ⟨km, -, a2, -, a3⟩, a4⟩ := a
    obtain ⟨b1, b2⟩ := ih h0 h8 a1
    have hk := kc_n (pB z) n1 b1.1
    refine ⟨by omega, fun t ht => ?_⟩
    have c1 := b2 t ht
    have c2 := cw_le z (fun i => k1 (5 * i)) t n1.toNat
    rw [a4 t ht, a3 t ht]
    omega
theorem FK.copy {h h' : kH} {n : Int} (a : FK (h 187) n) (hn : n ≤ 8) (e : ∀ j, j < 40 → h' 187 (40 + j) = h 187 j) : FK (kap h' 40) n := FK.congr hn (fun j hj => e j hj) a
theorem MOk.u187 {h : kH} {i : Nat} {v : Int} (a : MOk h) (hF : FK (h 187) (h 184 4) → FK (fun j => if j = i then v else h 187 j) (h 184 4)) : MOk (kU h 187 i v) := by
  have e1 : kU h 187 i v 187 = fun j => if j = i then v else h 187 j := by simp [kU]
  have e2 : kU h 187 i v 184 = h 184 := kU_c _ _ _ _ (by decide)
  have e3 : kU h 187 i v 191 = h 191 := kU_c _ _ _ _ (by decide)
  have e4 : kU h 187 i v 200 = h 200 := kU_c _ _ _ _ (by decide)
  unfold MOk
  rw [e1, e2, e3, e4]
  exact ⟨hF a.1, a.2.1, a.2.2⟩
theorem FK.setX {k : Nat → Int} {n : Int} {i : Nat} {v : Int} (a : FK k n) (q : Nat) (hi : i = 5 * q + 2) (hv : 0 ≤ v ∧ v ≤ 40) : FK (fun j => if j = i then v else k j) n := by
  intro p hp
  obtain ⟨h1, h2, h3, h4⟩ := a p hp
  dsimp only
  rw [if_neg (by omega : ¬ 5 * p + 1 = i), if_neg (by omega : ¬ 5 * p + 3 = i)]
  refine ⟨h1, ?_, h3, fun j hj hne => ?_⟩
  · split
    · exact hv
    · exact h2
  · rw [if_neg (by omega)]; exact h4 j hj hne
theorem FK.setH {k : Nat → Int} {n : Int} {i : Nat} {v : Int} (a : FK k n) (q : Nat) (hi : i = 5 * q + 3) (hv : 1 ≤ v ∧ v ≤ 9) : FK (fun j => if j = i then v else k j) n := by
  intro p hp
  obtain ⟨h1, h2, h3, h4⟩ := a p hp
  dsimp only
  rw [if_neg (by omega : ¬ 5 * p + 1 = i), if_neg (by omega : ¬ 5 * p + 2 = i)]
  refine ⟨h1, h2, ?_, fun j hj hne => ?_⟩
  · split
    · exact hv
    · exact h3
  · rw [if_neg (by omega)]; exact h4 j hj hne
theorem FK.setS {k : Nat → Int} {n : Int} {i : Nat} {v : Int} (a : FK k n) (q : Nat) (hi : i = 5 * q + 1) (hv : 0 ≤ v ∧ v ≤ 40) (hd : ∀ j : Nat, (j : Int) < n → k (5 * j + 1) ≠ v) : FK (fun j => if j = i then v else k j) n := by
  intro p hp
  obtain ⟨h1, h2, h3, h4⟩ := a p hp
  dsimp only
  rw [if_neg (by omega : ¬ 5 * p + 2 = i), if_neg (by omega : ¬ 5 * p + 3 = i)]
  refine ⟨?_, h2, h3, fun j hj hne => ?_⟩
  · split
    · exact hv
    · exact h1
  · by_cases e1 : p = q
    · rw [if_pos (by omega), if_neg (by omega)]
      exact fun e => hd j hj e.symm
    · rw [if_neg (by omega)]
      split
      · exact hd p hp
      · exact h4 j hj hne
theorem FK.sub {k k' : Nat → Int} {n n' : Int} (s : Nat → Nat) (a : FK k n) (h1 : ∀ i : Nat, (i : Int) < n' → (s i : Int) < n ∧ k' (5 * i + 1) = k (5 * s i + 1) ∧ k' (5 * i + 2) = k (5 * s i + 2) ∧ k' (5 * i + 3) = k (5 * s i + 3)) (h2 : ∀ i j : Nat, (i : Int) < n' → (j : Int) < n' → i ≠ j → s i ≠ s j) : FK k' n' := by
  intro i hi
  obtain ⟨q0, q1, q2, q3⟩ := h1 i hi
  obtain ⟨p1, p2, p3, p4⟩ := a (s i) q0
  rw [q1, q2, q3]
  refine ⟨p1, p2, p3, fun j hj hne => ?_⟩
  obtain ⟨r0, r1, -, -⟩ := h1 j hj
  rw [r1]
  exact p4 (s j) r0 (h2 j i hj hi hne)
theorem MOk.many {h : kH} {v : Int} (a : MOk h) (hv : v ≤ h 184 4) : MOk (kU h 184 4 v) := by
  have e1 : kU h 184 4 v 187 = h 187 := kU_c _ _ _ _ (by decide)
  have e3 : kU h 184 4 v 191 = h 191 := kU_c _ _ _ _ (by decide)
  have e4 : kU h 184 4 v 200 = h 200 := kU_c _ _ _ _ (by decide)
  unfold MOk
  rw [e1, e3, e4, kU_at, if_pos ⟨rfl, rfl⟩]
  exact ⟨a.1.mono hv, a.2.1, a.2.2⟩
theorem m5 {o a b c : Int} (ho : o = 0 ∨ o = 40) (ha : 0 ≤ a) (hb : 0 ≤ b) (hc : 0 ≤ c) : ((o + (5 * a)) + c).toNat % 5 = ((o + (5 * b)) + c).toNat % 5 := by omega
theorem hi40 {o a c : Int} (ho : o = 40) (ha : 0 ≤ a) (hc : 0 ≤ c) : 40 ≤ ((o + (5 * a)) + c).toNat := by omega
end
section
/-! the reference's reading of the text: bits, figures, the state of reading -/
/-- the ones of z, a set of the tens t: what is free of the first n stakes read -/
def FrI (h : kH) (t z n : Int) : Prop := ∀ v : Int, 0 ≤ v → v ≤ 31 → (tb z v = true ↔ v ≤ 9 ∧ (t = 4 → v = 0) ∧ ∀ k : Nat, (k : Int) < n → h 185 (5 * k + 1) ≠ 10 * t + v)
theorem FrI.four {h : kH} : FrI h 4 1 0 := fun v h0 h1 => by
  rw [tbc_1 h0 h1]
  exact ⟨fun e => ⟨by omega, fun _ => e, fun k hk => absurd hk (by omega)⟩, fun e => e.2.1 rfl⟩
theorem FrI.oth {h : kH} {t : Int} (ht : t ≠ 4) : FrI h t 1023 0 := fun v h0 h1 => by
  rw [tbc_1023 h0 h1]
  exact ⟨fun e => ⟨e, fun q => absurd q ht, fun k hk => absurd hk (by omega)⟩, fun e => e.1⟩
theorem FrI.up {h : kH} {t z m n : Int} (a : FrI h t z n) (h0 : 0 ≤ n) (hm : ∀ v : Int, 0 ≤ v → v ≤ 31 → v ≤ 9 → (tb m v = true ↔ h 185 (5 * n.toNat + 1) ≠ 10 * t + v)) : FrI h t (kAnd z m) (n + 1) := fun v v0 v1 => by
  rw [bt_and, Bool.and_eq_true, a v v0 v1]
  constructor
  · rintro ⟨⟨q1, q2, q3⟩, q4⟩
    refine ⟨q1, q2, fun k hk => ?_⟩
    by_cases e : k = n.toNat
    · rw [e]; exact (hm v v0 v1 q1).1 q4
    · exact q3 k (by omega)
  · rintro ⟨q1, q2, q3⟩
    exact ⟨⟨q1, q2, fun k hk => q3 k (by omega)⟩, (hm v v0 v1 q1).2 (q3 n.toNat (by omega))⟩
theorem FrI.in {h : kH} {t z n s : Int} (a : FrI h t z n) (h0 : 0 ≤ n) (hs : h 185 (5 * n.toNat + 1) = s) (h1 : 0 ≤ s) (ht : s / 10 = t) : FrI h t (kAnd z (kXor (kShl 1 (s % 10)) (-1))) (n + 1) := a.up h0 (fun v v0 v1 v9 => by
  rw [tbc_not (by omega) v0 v1, hs]
  omega)
theorem FrI.out {h : kH} {t z n s : Int} (a : FrI h t z n) (h0 : 0 ≤ n) (hs : h 185 (5 * n.toNat + 1) = s) (h1 : 0 ≤ s) (ht : s / 10 ≠ t) : FrI h t (kAnd z (-1)) (n + 1) := a.up h0 (fun v v0 v1 v9 => by
  rw [tbc_m1 v0 v1, hs]
  simp
  omega)
theorem FrI.nz {h : kH} {t z n : Int} (a : FrI h t z n) (hz : kR z) : z ≠ 0 ↔ ∃ v : Int, (0 ≤ v ∧ v ≤ 9) ∧ (t = 4 → v = 0) ∧ ∀ k : Nat, (k : Int) < n → h 185 (5 * k + 1) ≠ 10 * t + v := by
  constructor
  · intro hne
    apply Classical.byContradiction
    intro hno
    apply hne
    apply tb_ext hz ⟨by omega, by omega⟩
    intro v h0 h1
    rw [tbc_0 h0 h1, ← Bool.not_eq_true]
    intro e
    have := (a v h0 h1).1 e
    exact hno ⟨v, ⟨h0, this.1⟩, this.2⟩
  · rintro ⟨v, hv, h1, h2⟩ e
    have := (a v hv.1 (by omega)).2 ⟨hv.2, h1, h2⟩
    rw [e, tbc_0 hv.1 (by omega)] at this
    exact Bool.false_ne_true this
/-- what a figure that is read does -/
def FgOk (h : kH) (a : Int) : Prop := h 184 9 < h 184 8 ∧ (0 ≤ h 190 (h 184 9).toNat - 48 ∧ h 190 (h 184 9).toNat - 48 ≤ 9) ∧ tb a (h 190 (h 184 9).toNat - 48) = true
def Fig (h h' : kH) (a z : Int) : Prop :=
  (h 184 10 = -9 ∧ FgOk h a ∧ z = h 190 (h 184 9).toNat - 48 ∧ h' 184 9 = h 184 9 + 1 ∧ h' 184 10 = -9) ∨
  (h 184 10 = -9 ∧ ¬ FgOk h a ∧ h' 184 9 = h 184 9 ∧ h' 184 10 = h 184 9) ∨
  (h 184 10 ≠ -9 ∧ h' 184 9 = h 184 9 ∧ h' 184 10 = h 184 10)
/-- the text is read as far as p, or its fault is found -/
def RS (h : kH) (b : Nat → Int) (len p : Int) : Prop :=
  (h 184 10 = -9 → h 184 9 = p ∧ p ≤ len ∧ ∀ j, 0 ≤ j → j < p → mayS b j) ∧ (h 184 10 ≠ -9 → FaultIs b len (h 184 10))
theorem RS.of {h h' : kH} {b : Nat → Int} {len p : Int} (a : RS h b len p) (e9 : h' 184 9 = h 184 9) (e10 : h' 184 10 = h 184 10) : RS h' b len p := by
  unfold RS; rw [e9, e10]; exact a
theorem RS.st {h : kH} {b : Nat → Int} {len p v : Int} {c i : Nat} (a : RS h b len p) (hc : c ≠ 184) : RS (kU h c i v) b len p := a.of (by rw [kU_c _ _ _ _ (Ne.symm hc)]) (by rw [kU_c _ _ _ _ (Ne.symm hc)])
theorem RS.fig {h h' : kH} {b : Nat → Int} {len p q a z : Int} (r : RS h b len p) (f : Fig h h' a z) (eb : h 190 = b) (el : h 184 8 = len) (h0 : 0 ≤ p) (hq : q = p + 1)
    (hm : h 184 10 = -9 → p < len → (mayS b p ↔ (0 ≤ b p.toNat - 48 ∧ b p.toNat - 48 ≤ 9) ∧ tb a (b p.toNat - 48) = true)) (hn : ¬ (10 ≤ p ∧ (p - 10) % 8 = 0)) :
    RS h' b len q ∧ (h' 184 10 = -9 → h 184 10 = -9 ∧ z = b p.toNat - 48) := by
  subst hq
  rcases f with ⟨f0, f1, f2, f3, f4⟩ | ⟨f0, f1, f2, f3⟩ | ⟨f0, f1, f2⟩
  · obtain ⟨r1, r2, r3⟩ := r.1 f0
    unfold FgOk at f1
    rw [r1, eb, el] at f1
    have hp := (hm f0 f1.1).2 ⟨f1.2.1, f1.2.2⟩
    refine ⟨⟨fun _ => ⟨by omega, by omega, fun j j0 j1 => ?_⟩, fun e => absurd f4 e⟩, fun _ => ⟨f0, by rw [f2, r1, eb]⟩⟩
    by_cases e : j = p
    · rw [e]; exact hp
    · exact r3 j j0 (by omega)
  · obtain ⟨r1, r2, r3⟩ := r.1 f0
    unfold FgOk at f1
    rw [r1, eb, el] at f1
    have e10 : h' 184 10 = p := by rw [f3, r1]
    refine ⟨⟨fun e => absurd e (by omega), fun _ => ?_⟩, fun e => absurd e (by omega)⟩
    rw [e10]
    refine Or.inl ⟨⟨h0, r2⟩, r3, ?_⟩
    by_cases hp : p < len
    · exact Or.inl ⟨hp, fun e => f1 ⟨hp, ((hm f0 hp).1 e).1, ((hm f0 hp).1 e).2⟩⟩
    · exact Or.inr ⟨by omega, fun e => hn (by omega)⟩
  · refine ⟨⟨fun e => absurd e (by omega), fun _ => ?_⟩, fun e => absurd e (by omega)⟩
    rw [f2]; exact r.2 f0
theorem may_tb {b : Nat → Int} {p lo hi a : Int} (e : mayS b p ↔ lo ≤ b p.toNat - 48 ∧ b p.toNat - 48 ≤ hi) (h0 : 0 ≤ lo) (h9 : hi ≤ 9) (ha : ∀ v : Int, 0 ≤ v → v ≤ 9 → (tb a v = true ↔ lo ≤ v ∧ v ≤ hi)) :
    mayS b p ↔ (0 ≤ b p.toNat - 48 ∧ b p.toNat - 48 ≤ 9) ∧ tb a (b p.toNat - 48) = true := by
  rw [e]
  constructor
  · intro q; exact ⟨by omega, (ha _ (by omega) (by omega)).2 q⟩
  · rintro ⟨q1, q2⟩; exact (ha _ q1.1 q1.2).1 q2
/-- the first n kites as the text tells them -/
def Dec (h : kH) (b : Nat → Int) (n : Int) : Prop := ∀ k : Nat, (k : Int) < n → h 185 (5 * k) = b (10 + 8 * k + 1) - 48 ∧ h 185 (5 * k + 1) = prI b (10 + (k : Int) * 8 + 2) ∧ h 185 (5 * k + 2) = prI b (10 + (k : Int) * 8 + 4) ∧ h 185 (5 * k + 3) = b (10 + 8 * k + 6) - 48 ∧ h 185 (5 * k + 4) = b (10 + 8 * k + 7) - 48
theorem Dec.of {h h' : kH} {b : Nat → Int} {n : Int} {m : Nat} (a : Dec h b n) (hn : n ≤ m) (e : ∀ j, j < 5 * m → h' 185 j = h 185 j) : Dec h' b n := fun k hk => by
  rw [e _ (by omega), e _ (by omega), e _ (by omega), e _ (by omega), e _ (by omega)]
  exact a k hk
theorem frS_iff {h : kH} {b : Nat → Int} {n d o : Int} (a : Dec h b n) (hd : 0 ≤ d ∧ d ≤ 4) (ho : 0 ≤ o ∧ o ≤ 9) : frS b n (10 * d + o) ↔ (d = 4 → o = 0) ∧ ∀ k : Nat, (k : Int) < n → h 185 (5 * k + 1) ≠ 10 * d + o := by
  constructor
  · rintro ⟨q1, q2⟩
    refine ⟨fun e => by omega, fun k hk => ?_⟩
    rw [(a k hk).2.1]
    exact q2 k (by omega) hk
  · rintro ⟨q1, q2⟩
    refine ⟨by by_cases e : d = 4; · have := q1 e; omega
               · omega, fun e e0 e1 => ?_⟩
    have := q2 e.toNat (by omega)
    rw [(a e.toNat (by omega)).2.1] at this
    rwa [show ((e.toNat : Nat) : Int) = e by omega] at this
/-- the ones of z: the tens below x whose stakes aren't all taken -/
def OpI (h : kH) (z n x : Int) : Prop := ∀ v : Int, 0 ≤ v → v ≤ 31 → (tb z v = true ↔ v < x ∧ ∃ o : Int, (0 ≤ o ∧ o ≤ 9) ∧ (v = 4 → o = 0) ∧ ∀ k : Nat, (k : Int) < n → h 185 (5 * k + 1) ≠ 10 * v + o)
theorem OpI.z {h : kH} {n : Int} : OpI h 0 n 0 := fun v h0 h1 => by
  rw [tbc_0 h0 h1]
  exact ⟨fun e => absurd e Bool.false_ne_true, fun e => absurd e.1 (by omega)⟩
theorem OpI.up {h : kH} {z n x m : Int} (a : OpI h z n x) (hm : ∀ v : Int, 0 ≤ v → v ≤ 31 → (tb m v = true ↔ v = x ∧ ∃ o : Int, (0 ≤ o ∧ o ≤ 9) ∧ (v = 4 → o = 0) ∧ ∀ k : Nat, (k : Int) < n → h 185 (5 * k + 1) ≠ 10 * v + o)) : OpI h (kOr z m) n (x + 1) := fun v h0 h1 => by
  rw [bt_or, Bool.or_eq_true, a v h0 h1, hm v h0 h1]
  constructor
  · rintro (q | q)
    · exact ⟨by omega, q.2⟩
    · exact ⟨by omega, q.2⟩
  · rintro ⟨q1, q2⟩
    by_cases e : v = x
    · exact Or.inr ⟨e, q2⟩
    · exact Or.inl ⟨by omega, q2⟩
theorem OpI.yes {h : kH} {z n x f : Int} (a : OpI h z n x) (hx : 0 ≤ x ∧ x ≤ 4) (fr : FrI h x f n) (hR : kR f) (hf : f ≠ 0) : OpI h (kOr z (kShl 1 x)) n (x + 1) := a.up (fun v h0 h1 => by
  rw [tbc_shl (by omega) h0 h1]
  exact ⟨fun e => ⟨e, by rw [e]; exact (fr.nz hR).1 hf⟩, fun e => e.1⟩)
theorem OpI.no {h : kH} {z n x f : Int} (a : OpI h z n x) (fr : FrI h x f n) (hR : kR f) (hf : f = 0) : OpI h (kOr z 0) n (x + 1) := a.up (fun v h0 h1 => by
  rw [tbc_0 h0 h1]
  refine ⟨fun e => absurd e Bool.false_ne_true, fun e => ?_⟩
  have := (fr.nz hR).2 (by have := e.2; rwa [e.1] at this)
  exact absurd hf this)
theorem may_2 {h : kH} {b : Nat → Int} {z n p : Int} (a : OpI h z n 5) (d : Dec h b n) (h1 : 10 ≤ p) (h2 : (p - 10) % 8 = 2) (hn : (p - 10) / 8 = n) : mayS b p ↔ (0 ≤ b p.toNat - 48 ∧ b p.toNat - 48 ≤ 9) ∧ tb z (b p.toNat - 48) = true := by
  rw [mayS_r2 h1 h2, hn]
  constructor
  · rintro ⟨q1, o, q2, q3⟩
    refine ⟨by omega, (a _ q1.1 (by omega)).2 ⟨by omega, o, q2, (frS_iff d q1 q2).1 q3⟩⟩
  · rintro ⟨q1, q2⟩
    obtain ⟨q3, o, q4, q5⟩ := (a _ q1.1 (by omega)).1 q2
    exact ⟨by omega, o, q4, (frS_iff d (by omega) q4).2 q5⟩
theorem may_3 {h : kH} {b : Nat → Int} {z n p t : Int} (a : FrI h t z n) (d : Dec h b n) (h1 : 10 ≤ p) (h2 : (p - 10) % 8 = 3) (hn : (p - 10) / 8 = n) (ht : t = b (p - 1).toNat - 48) (ht4 : 0 ≤ t ∧ t ≤ 4) : mayS b p ↔ (0 ≤ b p.toNat - 48 ∧ b p.toNat - 48 ≤ 9) ∧ tb z (b p.toNat - 48) = true := by
  rw [mayS_r3 h1 h2, hn]
  have e : prI b (p - 1) = 10 * t + (b p.toNat - 48) := by unfold prI; rw [show p - 1 + 1 = p by omega, ht]
  rw [e]
  constructor
  · rintro ⟨q1, q2⟩
    exact ⟨q1, (a _ q1.1 (by omega)).2 ⟨q1.2, (frS_iff d ht4 q1).1 q2⟩⟩
  · rintro ⟨q1, q2⟩
    exact ⟨q1, (frS_iff d ht4 q1).2 ((a _ q1.1 (by omega)).1 q2).2⟩
theorem may_5 {b : Nat → Int} {z p t : Int} (h1 : 10 ≤ p) (h2 : (p - 10) % 8 = 5) (ht : t = b (p - 1).toNat - 48) (ht4 : 0 ≤ t ∧ t ≤ 4) (hz : ∀ v : Int, 0 ≤ v → v ≤ 9 → (tb z v = true ↔ (t = 4 → v = 0))) : mayS b p ↔ (0 ≤ b p.toNat - 48 ∧ b p.toNat - 48 ≤ 9) ∧ tb z (b p.toNat - 48) = true := by
  rw [mayS_r5 h1 h2]
  have e : prI b (p - 1) = 10 * t + (b p.toNat - 48) := by unfold prI; rw [show p - 1 + 1 = p by omega, ht]
  rw [e]
  constructor
  · rintro ⟨q1, q2⟩
    exact ⟨q1, (hz _ q1.1 q1.2).2 (fun e => by omega)⟩
  · rintro ⟨q1, q2⟩
    have := (hz _ q1.1 q1.2).1 q2
    exact ⟨q1, by by_cases e : t = 4; · have := this e; omega
                  · omega⟩
end
section
/-! a byte of a long, as the class takes it and as the reference does -/
theorem lbit_s (x b : Int64) {n i : Nat} (hb : (b.toBitVec.smod 64).toNat = n) (hi : n + i < 64) : (x >>> b).toBitVec.getLsbD i = x.toBitVec.getLsbD (n + i) := by
  show (x.toBitVec.sshiftRight (b.toBitVec.smod 64).toNat).getLsbD i = _
  rw [hb, BitVec.getLsbD_sshiftRight]
  have h64 : ¬ 64 ≤ i := by omega
  simp [h64, hi]
theorem lbit_u (x b : UInt64) {n i : Nat} (hb : (b.toBitVec % 64).toNat = n) : (x >>> b).toBitVec.getLsbD i = x.toBitVec.getLsbD (n + i) := by
  show (x.toBitVec >>> (b.toBitVec % 64).toNat).getLsbD i = _
  rw [hb, BitVec.getLsbD_ushiftRight]
theorem bit255_32 : ∀ i, i < 32 → (Int32.ofInt 255).toBitVec.getLsbD i = decide (i < 8) := by decide +kernel
theorem bit255_64 : ∀ i, i < 32 → (Int64.ofInt 255).toBitVec.getLsbD i = decide (i < 8) := by decide +kernel
theorem tr32 (y : Int64) {i : Nat} (hi : i < 32) : bt y.toInt32 i = y.toBitVec.getLsbD i := by
  unfold bt
  rw [Int64.toBitVec_toInt32, BitVec.getLsbD_signExtend]
  simp [hi, show i < 64 by omega]
theorem byt_core (x b : Int64) (c : UInt64) {n : Nat} (hn : n ≤ 56) (hb : (b.toBitVec.smod 64).toNat = n) (hc : (c.toBitVec % 64).toNat = n) : ((x >>> b) &&& Int64.ofInt 255).toInt32 = (x.toUInt64 >>> c).toInt64.toInt32 &&& Int32.ofInt 255 := by
  apply b_ext
  intro i hi
  have e3 : (x.toUInt64 >>> c).toInt64.toBitVec = (x.toUInt64 >>> c).toBitVec := rfl
  have e4 : x.toUInt64.toBitVec = x.toBitVec := rfl
  have e5 : bt (Int32.ofInt 255) i = decide (i < 8) := bit255_32 i hi
  rw [b_and, tr32 _ hi, tr32 _ hi, e5, Int64.toBitVec_and, BitVec.getLsbD_and, bit255_64 i hi, e3]
  by_cases h8 : i < 8
  · rw [lbit_s x b hb (by omega), lbit_u x.toUInt64 c hc, e4]
  · simp [h8]
theorem bytM_eq {v k : Int} (hk : 0 ≤ k ∧ k ≤ 7) : kL2i (kLand (kLshr v (8 * k)) 255) = byt v k := by
  have key : ∀ (b : Int64) (c : UInt64) (n : Nat), n ≤ 56 → (b.toBitVec.smod 64).toNat = n → (c.toBitVec % 64).toNat = n → ((Int64.ofInt (Int64.ofInt v >>> b).toInt &&& Int64.ofInt 255).toInt32) = Int32.ofInt ((Int64.ofInt ((Int64.ofInt v).toUInt64 >>> c).toInt64.toInt).toInt32.toInt) &&& Int32.ofInt 255 := by
    intro b c n hn hb hc
    rw [Int64.ofInt_toInt, Int64.ofInt_toInt, Int32.ofInt_toInt]
    exact byt_core _ b c hn hb hc
  unfold byt kL2i kLand kAnd kLshr kLushr
  rw [Int64.ofInt_toInt (x := Int64.ofInt (Int64.ofInt v >>> ((Int32.ofInt (8 * k)).toInt64 &&& 63)).toInt &&& Int64.ofInt 255)]
  congr 1
  rcases (show k = 0 ∨ k = 1 ∨ k = 2 ∨ k = 3 ∨ k = 4 ∨ k = 5 ∨ k = 6 ∨ k = 7 by omega) with rfl | rfl | rfl | rfl | rfl | rfl | rfl | rfl
  · exact key _ _ 0 (by omega) (by decide +kernel) (by decide +kernel)
  · exact key _ _ 8 (by omega) (by decide +kernel) (by decide +kernel)
  · exact key _ _ 16 (by omega) (by decide +kernel) (by decide +kernel)
  · exact key _ _ 24 (by omega) (by decide +kernel) (by decide +kernel)
  · exact key _ _ 32 (by omega) (by decide +kernel) (by decide +kernel)
  · exact key _ _ 40 (by omega) (by decide +kernel) (by decide +kernel)
  · exact key _ _ 48 (by omega) (by decide +kernel) (by decide +kernel)
  · exact key _ _ 56 (by omega) (by decide +kernel) (by decide +kernel)
end
section
set_option maxHeartbeats 4000000 in
set_option maxRecDepth 100000 in
theorem c_Model_in (G : kG)  {h : kH} {l0 : Int} {l2 : Int} {l4 : Int} (s0 : kR l0) (s2 : kR l2) (s4 : kR l4) : Ctr G y_Model_in X_Model_in 1 [kJ l0, kJ l2, kJ l4] h (kQi (fun z h' => h' = h ∧ ((z = 1 ∧ l2 ≤ l0 ∧ l0 ≤ l4) ∨ (z = 0 ∧ (l0 < l2 ∨ l4 < l0))))) := by
  refine Ctr.ofK (by decide) rfl T_Model_in (Nat.le_of_ble_eq_true rfl) (lo := [(0, kJ l0), (2, kJ l2), (4, kJ l4)]) rfl ?_
  refine K_lload_n (pc := 0) (i := 0) rfl rfl ?_
  refine K_lload_n (pc := 1) (i := 1) rfl rfl ?_
  refine K_lcmp (pc := 2) (i := 2) rfl ?_
  refine K_nm (fun v2 e2 => ?_)
  have r2 := kLcmp_R l0 l2
  rw [← e2] at r2
  have t2 := kLcmp_s (a := l0) (b := l2) (by omega) (by omega)
  rw [← e2] at t2
  first | refine K_if_lt 17 (pc := 3) (i := 3) rfl rfl (by omega) (fun b3 => ?_) (fun b3 => ?_) | refine K_if_lt_an 17 (pc := 3) (i := 3) rfl rfl (fun b3 => ?_) (fun b3 => ?_)
  · skip
    refine K_iconst (pc := 17) (i := 10) rfl ?_
    exact K_retZ (pc := 18) (i := 11) rfl rfl (by omega) ⟨rfl, by omega⟩
  · skip
    refine K_lload_n (pc := 6) (i := 4) rfl rfl ?_
    refine K_lload (pc := 7) (i := 5) rfl rfl ?_
    refine K_lcmp (pc := 9) (i := 6) rfl ?_
    refine K_nm (fun v9 e9 => ?_)
    have r9 := kLcmp_R l0 l4
    rw [← e9] at r9
    have t9 := kLcmp_s (a := l0) (b := l4) (by omega) (by omega)
    rw [← e9] at t9
    first | refine K_if_gt 17 (pc := 10) (i := 7) rfl rfl (by omega) (fun b10 => ?_) (fun b10 => ?_) | refine K_if_gt_an 17 (pc := 10) (i := 7) rfl rfl (fun b10 => ?_) (fun b10 => ?_)
    · skip
      refine K_iconst (pc := 17) (i := 10) rfl ?_
      exact K_retZ (pc := 18) (i := 11) rfl rfl (by omega) ⟨rfl, by omega⟩
    · skip
      refine K_iconst (pc := 13) (i := 8) rfl ?_
      refine K_goto 18 (pc := 14) (i := 9) rfl rfl ?_
      exact K_retZ (pc := 18) (i := 11) rfl rfl (by omega) ⟨rfl, by omega⟩
set_option maxHeartbeats 4000000 in
set_option maxRecDepth 100000 in
theorem c_Model_isKite (G : kG) {g : kGh} {h : kH} {x1 : Int} (s1 : kR x1) (hI : Gd g h) : Ctr G y_Model_isKite X_Model_isKite 2 [.ref (G.2.2.2 184), kI x1] h (kQi (fun z h' => h' = h ∧ ((z = 1 ∧ 0 ≤ x1 ∧ x1 < h 184 4 ∧ h 184 4 ≤ 8) ∨ (z = 0 ∧ ¬ (0 ≤ x1 ∧ x1 < h 184 4))))) := by
  refine Ctr.ofK (by decide) rfl T_Model_isKite (Nat.le_of_ble_eq_true rfl) (lo := [(0, .ref (G.2.2.2 184)), (1, kI x1)]) rfl ?_
  refine K_iload_n (pc := 0) (i := 0) rfl rfl ?_
  refine K_i2l (pc := 1) (i := 1) rfl ?_
  refine K_eqJ (kI2l_eq (a := x1) (by omega)) ?_
  refine K_lconst 0 (pc := 2) (i := 2) rfl rfl ?_
  refine K_aload_n (pc := 3) (i := 3) rfl rfl ?_
  refine K_getI (pc := 4) (i := 4) (j := 4) rfl S_184 rfl (by decide) rfl fw_Model_59 ?_
  refine K_nm (fun v4 e4 => ?_)
  have r4 := rd_many hI
  rw [← e4] at r4
  refine K_iconst (pc := 7) (i := 5) rfl ?_
  refine K_isub (pc := 8) (i := 6) rfl ?_
  refine K_i2l (pc := 9) (i := 7) rfl ?_
  refine K_eqJ (kI2l_eq (a := v4 - 1) (by omega)) ?_
  refine K_cSI (pc := 10) (i := 8) rfl (c_Model_in G (l0 := x1) (l2 := 0) (l4 := v4 - 1) (s0 := by omega) (s2 := by omega) (s4 := by omega)) (ls_Model_65 rfl) rfl rfl rfl rfl (fun v10 h10 q10 => ?_)
  obtain ⟨eh, r10⟩ := q10
  rw [eh]; clear eh
  exact K_retZ (pc := 13) (i := 9) rfl rfl (by omega) ⟨rfl, by omega⟩
theorem egR {a b : Int} (ha : 0 ≤ a ∧ a ≤ 9) (hb : 0 ≤ b ∧ b ≤ 4) : 0 ≤ a * b ∧ a * b ≤ 36 := by
  have h1 := mul_bd (A := 9) (B := 4) (a := a) (b := b) (by omega) (by omega)
  have h2 := Int.mul_nonneg ha.1 hb.1
  omega
set_option maxHeartbeats 4000000 in
set_option maxRecDepth 100000 in
theorem c_Model_edgeOf (G : kG) {g : kGh} {h : kH} {x1 : Int} {x2 : Int} (s1 : x1 = 0 ∨ x1 = 40) (s2 : 0 ≤ x2 ∧ x2 ≤ 7) (hI : Gd g h) : Ctr G y_Model_edgeOf X_Model_edgeOf 1 [.ref (G.2.2.2 184), kI x1, kI x2] h (kQi (fun z h' => h' = h ∧ (0 ≤ z ∧ z ≤ 36) ∧ z = egK (kap h x1.toNat) (h 188) x2.toNat)) := by
  refine Ctr.ofK (by decide) rfl T_Model_edgeOf (Nat.le_of_ble_eq_true rfl) (lo := [(0, .ref (G.2.2.2 184)), (1, kI x1), (2, kI x2)]) rfl ?_
  refine K_aload_n (pc := 0) (i := 0) rfl rfl ?_
  refine K_getR (pc := 1) (i := 1) (j := 5) (d := 188) rfl S_184 rfl (by decide) rfl fw_Model_19 ?_
  refine K_aload_n (pc := 4) (i := 2) rfl rfl ?_
  refine K_getR (pc := 5) (i := 3) (j := 3) (d := 187) rfl S_184 rfl (by decide) rfl fw_Model_16 ?_
  refine K_iload_n (pc := 8) (i := 4) rfl rfl ?_
  refine K_iconst (pc := 9) (i := 5) rfl ?_
  refine K_iload_n (pc := 10) (i := 6) rfl rfl ?_
  refine K_imul (pc := 11) (i := 7) rfl ?_
  refine K_iadd (pc := 12) (i := 8) rfl ?_
  refine K_iconst (pc := 13) (i := 9) rfl ?_
  refine K_iadd (pc := 14) (i := 10) rfl ?_
  refine K_iald (pc := 15) (i := 11) rfl S_187 (by omega) (by omega) (by decide) ?_
  refine K_nm (fun v15 e15 => ?_)
  have r15 := (rd_mkites hI ((x1 + (5 * x2)) + 3).toNat).2.1 (by omega)
  rw [← e15] at r15
  have w15 : kap h x1.toNat (5 * x2.toNat + 3) = v15 := by rw [e15]; unfold kap; congr 1; omega
  refine K_iald (pc := 16) (i := 12) rfl S_188 (by omega) (by omega) (by decide) ?_
  refine K_nm (fun v16 e16 => ?_)
  have r16 := rd_mwinds hI (v15).toNat
  rw [← e16] at r16
  refine K_ist_n (pc := 17) (i := 13) (lo' := [(0, _), (1, _), (2, _), (3, _)]) rfl rfl rfl rfl ?_
  refine K_aload_n (pc := 18) (i := 14) rfl rfl ?_
  refine K_getR (pc := 19) (i := 15) (j := 3) (d := 187) rfl S_184 rfl (by decide) rfl fw_Model_16 ?_
  refine K_iload_n (pc := 22) (i := 16) rfl rfl ?_
  refine K_iconst (pc := 23) (i := 17) rfl ?_
  refine K_iload_n (pc := 24) (i := 18) rfl rfl ?_
  refine K_imul (pc := 25) (i := 19) rfl ?_
  refine K_iadd (pc := 26) (i := 20) rfl ?_
  refine K_iconst (pc := 27) (i := 21) rfl ?_
  refine K_iadd (pc := 28) (i := 22) rfl ?_
  refine K_iald (pc := 29) (i := 23) rfl S_187 (by omega) (by omega) (by decide) ?_
  refine K_nm (fun v29 e29 => ?_)
  have r29 := (rd_mkites hI ((x1 + (5 * x2)) + 4).toNat).2.2 (by omega)
  rw [← e29] at r29
  have w29 : kap h x1.toNat (5 * x2.toNat + 4) = v29 := by rw [e29]; unfold kap; congr 1; omega
  refine K_iload_n (pc := 30) (i := 24) rfl rfl ?_
  first | refine K_if_ge 39 (pc := 31) (i := 25) rfl rfl (by omega) (fun b31 => ?_) (fun b31 => ?_) | refine K_if_ge_an 39 (pc := 31) (i := 25) rfl rfl (fun b31 => ?_) (fun b31 => ?_)
  · skip
    refine K_iload_n (pc := 39) (i := 29) rfl rfl ?_
    refine K_iconst (pc := 40) (i := 30) rfl ?_
    refine K_iadd (pc := 41) (i := 31) rfl ?_
    refine K_imul (pc := 42) (i := 32) rfl ?_
    refine K_nm (fun v42 e42 => ?_)
    have t42 : v42 = egK (kap h x1.toNat) (h 188) x2.toNat := by unfold egK; rw [w29, w15, ← e16, e42]; congr 1; unfold kAbs; split <;> omega
    have u42 : 0 ≤ v42 ∧ v42 ≤ 36 := by rw [e42]; first | exact egR (by omega) (by omega)
    exact K_retI (pc := 43) (i := 33) rfl rfl ⟨rfl, u42, t42⟩
  · skip
    refine K_iload_n (pc := 34) (i := 26) rfl rfl ?_
    refine K_ineg (pc := 35) (i := 27) rfl ?_
    refine K_goto 40 (pc := 36) (i := 28) rfl rfl ?_
    refine K_iconst (pc := 40) (i := 30) rfl ?_
    refine K_iadd (pc := 41) (i := 31) rfl ?_
    refine K_imul (pc := 42) (i := 32) rfl ?_
    refine K_nm (fun v42 e42 => ?_)
    have t42 : v42 = egK (kap h x1.toNat) (h 188) x2.toNat := by unfold egK; rw [w29, w15, ← e16, e42]; congr 1; unfold kAbs; split <;> omega
    have u42 : 0 ≤ v42 ∧ v42 ≤ 36 := by rw [e42]; first | exact egR (by omega) (by omega)
    exact K_retI (pc := 43) (i := 33) rfl rfl ⟨rfl, u42, t42⟩
set_option maxHeartbeats 4000000 in
set_option maxRecDepth 100000 in
theorem c_Model_drift (G : kG) {g : kGh} {h : kH} {x1 : Int} {x2 : Int} {x3 : Int} (s1 : x1 = 0 ∨ x1 = 40) {n : Int} (hn : n ≤ 8) (hk : FK (kap h x1.toNat) n) (s2 : 0 ≤ x2 ∧ x2 < n) (s3 : 0 ≤ x3 ∧ x3 < n) (hI : Gd g h) : Ctr G y_Model_drift X_Model_drift 1 [.ref (G.2.2.2 184), kI x1, kI x2, kI x3] h (kQi (fun z h' => h' = h ∧ z = drK (kap h x1.toNat) x2.toNat x3.toNat ∧ -720 ≤ z ∧ z ≤ 720)) := by
  refine Ctr.ofK (by decide) rfl T_Model_drift (Nat.le_of_ble_eq_true rfl) (lo := [(0, .ref (G.2.2.2 184)), (1, kI x1), (2, kI x2), (3, kI x3)]) rfl ?_
  refine K_iload_n (pc := 0) (i := 0) rfl rfl ?_
  refine K_iconst (pc := 1) (i := 1) rfl ?_
  refine K_iload_n (pc := 2) (i := 2) rfl rfl ?_
  refine K_imul (pc := 3) (i := 3) rfl ?_
  refine K_iadd (pc := 4) (i := 4) rfl ?_
  refine K_ist (pc := 5) (i := 5) (lo' := [(0, _), (1, _), (2, _), (3, _), (4, _)]) rfl rfl rfl rfl ?_
  refine K_iload_n (pc := 7) (i := 6) rfl rfl ?_
  refine K_iconst (pc := 8) (i := 7) rfl ?_
  refine K_iload_n (pc := 9) (i := 8) rfl rfl ?_
  refine K_imul (pc := 10) (i := 9) rfl ?_
  refine K_iadd (pc := 11) (i := 10) rfl ?_
  refine K_ist (pc := 12) (i := 11) (lo' := [(0, _), (1, _), (2, _), (3, _), (4, _), (5, _)]) rfl rfl rfl rfl ?_
  refine K_aload_n (pc := 14) (i := 12) rfl rfl ?_
  refine K_getR (pc := 15) (i := 13) (j := 3) (d := 187) rfl S_184 rfl (by decide) rfl fw_Model_16 ?_
  refine K_iload (pc := 18) (i := 14) rfl rfl ?_
  refine K_iconst (pc := 20) (i := 15) rfl ?_
  refine K_iadd (pc := 21) (i := 16) rfl ?_
  refine K_iald (pc := 22) (i := 17) rfl S_187 (by omega) (by omega) (by decide) ?_
  refine K_nm (fun v22 e22 => ?_)
  have w22 : kap h x1.toNat (5 * x2.toNat + 2) = v22 := by rw [e22]; unfold kap; congr 1; omega
  have u22 := (hk x2.toNat (by omega)).2.1
  rw [w22] at u22
  refine K_aload_n (pc := 23) (i := 18) rfl rfl ?_
  refine K_getR (pc := 24) (i := 19) (j := 3) (d := 187) rfl S_184 rfl (by decide) rfl fw_Model_16 ?_
  refine K_iload (pc := 27) (i := 20) rfl rfl ?_
  refine K_iconst (pc := 29) (i := 21) rfl ?_
  refine K_iadd (pc := 30) (i := 22) rfl ?_
  refine K_iald (pc := 31) (i := 23) rfl S_187 (by omega) (by omega) (by decide) ?_
  refine K_nm (fun v31 e31 => ?_)
  have w31 : kap h x1.toNat (5 * x2.toNat + 1) = v31 := by rw [e31]; unfold kap; congr 1; omega
  have u31 := (hk x2.toNat (by omega)).1
  rw [w31] at u31
  refine K_isub (pc := 32) (i := 24) rfl ?_
  refine K_aload_n (pc := 33) (i := 25) rfl rfl ?_
  refine K_getR (pc := 34) (i := 26) (j := 3) (d := 187) rfl S_184 rfl (by decide) rfl fw_Model_16 ?_
  refine K_iload (pc := 37) (i := 27) rfl rfl ?_
  refine K_iconst (pc := 39) (i := 28) rfl ?_
  refine K_iadd (pc := 40) (i := 29) rfl ?_
  refine K_iald (pc := 41) (i := 30) rfl S_187 (by omega) (by omega) (by decide) ?_
  refine K_nm (fun v41 e41 => ?_)
  have r41 := (rd_mkites hI ((x1 + (5 * x3)) + 3).toNat).2.1 (by omega)
  rw [← e41] at r41
  have w41 : kap h x1.toNat (5 * x3.toNat + 3) = v41 := by rw [e41]; unfold kap; congr 1; omega
  have u41 := (hk x3.toNat (by omega)).2.2.1
  rw [w41] at u41
  refine K_imul (pc := 42) (i := 31) rfl ?_
  refine K_nm (fun v42 e42 => ?_)
  have u42 := mul_bd (A := 40) (B := 9) (a := v22 - v31) (b := v41) (by omega) (by omega)
  rw [← e42] at u42
  refine K_aload_n (pc := 43) (i := 32) rfl rfl ?_
  refine K_getR (pc := 44) (i := 33) (j := 3) (d := 187) rfl S_184 rfl (by decide) rfl fw_Model_16 ?_
  refine K_iload (pc := 47) (i := 34) rfl rfl ?_
  refine K_iconst (pc := 49) (i := 35) rfl ?_
  refine K_iadd (pc := 50) (i := 36) rfl ?_
  refine K_iald (pc := 51) (i := 37) rfl S_187 (by omega) (by omega) (by decide) ?_
  refine K_nm (fun v51 e51 => ?_)
  have w51 : kap h x1.toNat (5 * x3.toNat + 2) = v51 := by rw [e51]; unfold kap; congr 1; omega
  have u51 := (hk x3.toNat (by omega)).2.1
  rw [w51] at u51
  refine K_aload_n (pc := 52) (i := 38) rfl rfl ?_
  refine K_getR (pc := 53) (i := 39) (j := 3) (d := 187) rfl S_184 rfl (by decide) rfl fw_Model_16 ?_
  refine K_iload (pc := 56) (i := 40) rfl rfl ?_
  refine K_iconst (pc := 58) (i := 41) rfl ?_
  refine K_iadd (pc := 59) (i := 42) rfl ?_
  refine K_iald (pc := 60) (i := 43) rfl S_187 (by omega) (by omega) (by decide) ?_
  refine K_nm (fun v60 e60 => ?_)
  have w60 : kap h x1.toNat (5 * x3.toNat + 1) = v60 := by rw [e60]; unfold kap; congr 1; omega
  have u60 := (hk x3.toNat (by omega)).1
  rw [w60] at u60
  refine K_isub (pc := 61) (i := 44) rfl ?_
  refine K_aload_n (pc := 62) (i := 45) rfl rfl ?_
  refine K_getR (pc := 63) (i := 46) (j := 3) (d := 187) rfl S_184 rfl (by decide) rfl fw_Model_16 ?_
  refine K_iload (pc := 66) (i := 47) rfl rfl ?_
  refine K_iconst (pc := 68) (i := 48) rfl ?_
  refine K_iadd (pc := 69) (i := 49) rfl ?_
  refine K_iald (pc := 70) (i := 50) rfl S_187 (by omega) (by omega) (by decide) ?_
  refine K_nm (fun v70 e70 => ?_)
  have r70 := (rd_mkites hI ((x1 + (5 * x2)) + 3).toNat).2.1 (by omega)
  rw [← e70] at r70
  have w70 : kap h x1.toNat (5 * x2.toNat + 3) = v70 := by rw [e70]; unfold kap; congr 1; omega
  have u70 := (hk x2.toNat (by omega)).2.2.1
  rw [w70] at u70
  refine K_imul (pc := 71) (i := 51) rfl ?_
  refine K_nm (fun v71 e71 => ?_)
  have u71 := mul_bd (A := 40) (B := 9) (a := v51 - v60) (b := v70) (by omega) (by omega)
  rw [← e71] at u71
  refine K_isub (pc := 72) (i := 52) rfl ?_
  exact K_retI (pc := 73) (i := 53) rfl rfl ⟨rfl, by unfold drK; rw [w22, w31, w41, w51, w60, w70, e42, e71], by omega⟩
set_option maxHeartbeats 4000000 in
set_option maxRecDepth 100000 in
theorem c_Model_doCross (G : kG) {g : kGh} {h : kH} {x1 : Int} {x2 : Int} {x3 : Int} (s1 : x1 = 0 ∨ x1 = 40) {n : Int} (hn : n ≤ 8) (hk : FK (kap h x1.toNat) n) (s2 : 0 ≤ x2 ∧ x2 < n) (s3 : 0 ≤ x3 ∧ x3 < n) (hI : Gd g h) : Ctr G y_Model_doCross X_Model_doCross 2 [.ref (G.2.2.2 184), kI x1, kI x2, kI x3] h (kQi (fun z h' => h' = h ∧ ((z = 1 ∧ crK (kap h x1.toNat) x2.toNat x3.toNat) ∨ (z = 0 ∧ ¬ crK (kap h x1.toNat) x2.toNat x3.toNat)))) := by
  refine Ctr.ofK (by decide) rfl T_Model_doCross (Nat.le_of_ble_eq_true rfl) (lo := [(0, .ref (G.2.2.2 184)), (1, kI x1), (2, kI x2), (3, kI x3)]) rfl ?_
  refine K_iload_n (pc := 0) (i := 0) rfl rfl ?_
  refine K_iconst (pc := 1) (i := 1) rfl ?_
  refine K_iload_n (pc := 2) (i := 2) rfl rfl ?_
  refine K_imul (pc := 3) (i := 3) rfl ?_
  refine K_iadd (pc := 4) (i := 4) rfl ?_
  refine K_ist (pc := 5) (i := 5) (lo' := [(0, _), (1, _), (2, _), (3, _), (4, _)]) rfl rfl rfl rfl ?_
  refine K_iload_n (pc := 7) (i := 6) rfl rfl ?_
  refine K_iconst (pc := 8) (i := 7) rfl ?_
  refine K_iload_n (pc := 9) (i := 8) rfl rfl ?_
  refine K_imul (pc := 10) (i := 9) rfl ?_
  refine K_iadd (pc := 11) (i := 10) rfl ?_
  refine K_ist (pc := 12) (i := 11) (lo' := [(0, _), (1, _), (2, _), (3, _), (4, _), (5, _)]) rfl rfl rfl rfl ?_
  refine K_aload_n (pc := 14) (i := 12) rfl rfl ?_
  refine K_getR (pc := 15) (i := 13) (j := 3) (d := 187) rfl S_184 rfl (by decide) rfl fw_Model_16 ?_
  refine K_iload (pc := 18) (i := 14) rfl rfl ?_
  refine K_iconst (pc := 20) (i := 15) rfl ?_
  refine K_iadd (pc := 21) (i := 16) rfl ?_
  refine K_iald (pc := 22) (i := 17) rfl S_187 (by omega) (by omega) (by decide) ?_
  refine K_nm (fun v22 e22 => ?_)
  have w22 : kap h x1.toNat (5 * x2.toNat + 1) = v22 := by rw [e22]; unfold kap; congr 1; omega
  have u22 := (hk x2.toNat (by omega)).1
  rw [w22] at u22
  refine K_aload_n (pc := 23) (i := 18) rfl rfl ?_
  refine K_getR (pc := 24) (i := 19) (j := 3) (d := 187) rfl S_184 rfl (by decide) rfl fw_Model_16 ?_
  refine K_iload (pc := 27) (i := 20) rfl rfl ?_
  refine K_iconst (pc := 29) (i := 21) rfl ?_
  refine K_iadd (pc := 30) (i := 22) rfl ?_
  refine K_iald (pc := 31) (i := 23) rfl S_187 (by omega) (by omega) (by decide) ?_
  refine K_nm (fun v31 e31 => ?_)
  have w31 : kap h x1.toNat (5 * x3.toNat + 1) = v31 := by rw [e31]; unfold kap; congr 1; omega
  have u31 := (hk x3.toNat (by omega)).1
  rw [w31] at u31
  refine K_isub (pc := 32) (i := 24) rfl ?_
  refine K_ist (pc := 33) (i := 25) (lo' := [(0, _), (1, _), (2, _), (3, _), (4, _), (5, _), (6, _)]) rfl rfl rfl rfl ?_
  refine K_aload_n (pc := 35) (i := 26) rfl rfl ?_
  refine K_getR (pc := 36) (i := 27) (j := 3) (d := 187) rfl S_184 rfl (by decide) rfl fw_Model_16 ?_
  refine K_iload (pc := 39) (i := 28) rfl rfl ?_
  refine K_iconst (pc := 41) (i := 29) rfl ?_
  refine K_iadd (pc := 42) (i := 30) rfl ?_
  refine K_iald (pc := 43) (i := 31) rfl S_187 (by omega) (by omega) (by decide) ?_
  refine K_nm (fun v43 e43 => ?_)
  have r43 := (rd_mkites hI ((x1 + (5 * x2)) + 3).toNat).2.1 (by omega)
  rw [← e43] at r43
  have w43 : kap h x1.toNat (5 * x2.toNat + 3) = v43 := by rw [e43]; unfold kap; congr 1; omega
  have u43 := (hk x2.toNat (by omega)).2.2.1
  rw [w43] at u43
  refine K_aload_n (pc := 44) (i := 32) rfl rfl ?_
  refine K_getR (pc := 45) (i := 33) (j := 3) (d := 187) rfl S_184 rfl (by decide) rfl fw_Model_16 ?_
  refine K_iload (pc := 48) (i := 34) rfl rfl ?_
  refine K_iconst (pc := 50) (i := 35) rfl ?_
  refine K_iadd (pc := 51) (i := 36) rfl ?_
  refine K_iald (pc := 52) (i := 37) rfl S_187 (by omega) (by omega) (by decide) ?_
  refine K_nm (fun v52 e52 => ?_)
  have r52 := (rd_mkites hI ((x1 + (5 * x3)) + 3).toNat).2.1 (by omega)
  rw [← e52] at r52
  have w52 : kap h x1.toNat (5 * x3.toNat + 3) = v52 := by rw [e52]; unfold kap; congr 1; omega
  have u52 := (hk x3.toNat (by omega)).2.2.1
  rw [w52] at u52
  first | refine K_icmp_ge 68 (pc := 53) (i := 38) rfl rfl (by omega) (by omega) (fun b53 => ?_) (fun b53 => ?_) | refine K_icmp_ge_an 68 (pc := 53) (i := 38) rfl rfl (fun b53 => ?_) (fun b53 => ?_)
  · skip
    refine K_aload_n (pc := 68) (i := 46) rfl rfl ?_
    refine K_getR (pc := 69) (i := 47) (j := 3) (d := 187) rfl S_184 rfl (by decide) rfl fw_Model_16 ?_
    refine K_iload (pc := 72) (i := 48) rfl rfl ?_
    refine K_iconst (pc := 74) (i := 49) rfl ?_
    refine K_iadd (pc := 75) (i := 50) rfl ?_
    refine K_iald (pc := 76) (i := 51) rfl S_187 (by omega) (by omega) (by decide) ?_
    refine K_nm (fun v76 e76 => ?_)
    have r76 := (rd_mkites hI ((x1 + (5 * x3)) + 3).toNat).2.1 (by omega)
    rw [← e76] at r76
    have w76 : kap h x1.toNat (5 * x3.toNat + 3) = v76 := by rw [e76]; unfold kap; congr 1; omega
    have u76 := (hk x3.toNat (by omega)).2.2.1
    rw [w76] at u76
    refine K_ist (pc := 77) (i := 52) (lo' := [(0, _), (1, _), (2, _), (3, _), (4, _), (5, _), (6, _), (7, _)]) rfl rfl rfl rfl ?_
    refine K_iload (pc := 79) (i := 53) rfl rfl ?_
    refine K_aload_n (pc := 81) (i := 54) rfl rfl ?_
    refine K_getR (pc := 82) (i := 55) (j := 3) (d := 187) rfl S_184 rfl (by decide) rfl fw_Model_16 ?_
    refine K_iload (pc := 85) (i := 56) rfl rfl ?_
    refine K_iconst (pc := 87) (i := 57) rfl ?_
    refine K_iadd (pc := 88) (i := 58) rfl ?_
    refine K_iald (pc := 89) (i := 59) rfl S_187 (by omega) (by omega) (by decide) ?_
    refine K_nm (fun v89 e89 => ?_)
    have r89 := (rd_mkites hI ((x1 + (5 * x2)) + 3).toNat).2.1 (by omega)
    rw [← e89] at r89
    have w89 : kap h x1.toNat (5 * x2.toNat + 3) = v89 := by rw [e89]; unfold kap; congr 1; omega
    have u89 := (hk x2.toNat (by omega)).2.2.1
    rw [w89] at u89
    refine K_imul (pc := 90) (i := 60) rfl ?_
    refine K_nm (fun v90 e90 => ?_)
    have u90 := mul_bd (A := 40) (B := 9) (a := v22 - v31) (b := v89) (by omega) (by omega)
    rw [← e90] at u90
    refine K_aload_n (pc := 91) (i := 61) rfl rfl ?_
    refine K_getR (pc := 92) (i := 62) (j := 3) (d := 187) rfl S_184 rfl (by decide) rfl fw_Model_16 ?_
    refine K_iload (pc := 95) (i := 63) rfl rfl ?_
    refine K_iconst (pc := 97) (i := 64) rfl ?_
    refine K_iadd (pc := 98) (i := 65) rfl ?_
    refine K_iald (pc := 99) (i := 66) rfl S_187 (by omega) (by omega) (by decide) ?_
    refine K_nm (fun v99 e99 => ?_)
    have r99 := (rd_mkites hI ((x1 + (5 * x3)) + 3).toNat).2.1 (by omega)
    rw [← e99] at r99
    have w99 : kap h x1.toNat (5 * x3.toNat + 3) = v99 := by rw [e99]; unfold kap; congr 1; omega
    have u99 := (hk x3.toNat (by omega)).2.2.1
    rw [w99] at u99
    refine K_imul (pc := 100) (i := 67) rfl ?_
    refine K_nm (fun v100 e100 => ?_)
    have u100 := mul_bd (A := 360) (B := 9) (a := v90) (b := v99) (by omega) (by omega)
    rw [← e100] at u100
    refine K_aload_n (pc := 101) (i := 68) rfl rfl ?_
    refine K_iload_n (pc := 102) (i := 69) rfl rfl ?_
    refine K_iload_n (pc := 103) (i := 70) rfl rfl ?_
    refine K_iload_n (pc := 104) (i := 71) rfl rfl ?_
    refine K_cVI (pc := 105) (i := 72) rfl (c_Model_drift G (x1 := x1) (x2 := x2) (x3 := x3) (hk := hk) (hI := hI) (hn := by omega) (s1 := by omega) (s2 := by omega) (s3 := by omega)) S_184 rfl (lv_Model_133 rfl) rfl rfl rfl rfl rfl (fun v105 h105 q105 => ?_)
    obtain ⟨eh, r105⟩ := q105
    rw [eh]; clear eh
    refine K_iload (pc := 108) (i := 73) rfl rfl ?_
    refine K_imul (pc := 110) (i := 74) rfl ?_
    refine K_nm (fun v110 e110 => ?_)
    have u110 := mul_bd (A := 720) (B := 9) (a := v105) (b := v76) (by omega) (by omega)
    rw [← e110] at u110
    refine K_iadd (pc := 111) (i := 75) rfl ?_
    have t111 : v100 + v110 = thM (kap h x1.toNat (5 * x2.toNat + 1)) (kap h x1.toNat (5 * x2.toNat + 2)) (kap h x1.toNat (5 * x2.toNat + 3)) (kap h x1.toNat (5 * x3.toNat + 1)) (kap h x1.toNat (5 * x3.toNat + 2)) (kap h x1.toNat (5 * x3.toNat + 3)) := by unfold thM; rw [e110, e100, e90, r105.1]; unfold drK; rw [w22, w31, w43, w52, show v89 = v43 from w89.symm.trans w43, show v99 = v52 from w99.symm.trans w52]; first | rw [show v64 = v43 from w64.symm.trans w43, if_pos (by omega)] | rw [show v76 = v52 from w76.symm.trans w52, if_neg (by omega)]
    refine K_ist (pc := 112) (i := 76) (lo' := [(0, _), (1, _), (2, _), (3, _), (4, _), (5, _), (6, _), (7, _), (8, _)]) rfl rfl rfl rfl ?_
    refine K_iload (pc := 114) (i := 77) rfl rfl ?_
    first | refine K_if_le 132 (pc := 116) (i := 78) rfl rfl (by omega) (fun b116 => ?_) (fun b116 => ?_) | refine K_if_le_an 132 (pc := 116) (i := 78) rfl rfl (fun b116 => ?_) (fun b116 => ?_)
    · skip
      refine K_iload (pc := 132) (i := 85) rfl rfl ?_
      first | refine K_if_lt 141 (pc := 134) (i := 86) rfl rfl (by omega) (fun b134 => ?_) (fun b134 => ?_) | refine K_if_lt_an 141 (pc := 134) (i := 86) rfl rfl (fun b134 => ?_) (fun b134 => ?_)
      · skip
        refine K_iconst (pc := 141) (i := 89) rfl ?_
        exact K_retZ (pc := 142) (i := 90) rfl rfl (by omega) (by first | exact ⟨rfl, Or.inl ⟨rfl, (cr_pos (by rw [w22, w31]; omega)).2 (by rw [← t111]; omega)⟩⟩ | exact ⟨rfl, Or.inr ⟨rfl, fun q => absurd ((cr_pos (by rw [w22, w31]; omega)).1 q) (by rw [← t111]; omega)⟩⟩ | exact ⟨rfl, Or.inl ⟨rfl, (cr_neg (by rw [w22, w31]; omega)).2 (by rw [← t111]; omega)⟩⟩ | exact ⟨rfl, Or.inr ⟨rfl, fun q => absurd ((cr_neg (by rw [w22, w31]; omega)).1 q) (by rw [← t111]; omega)⟩⟩)
      · skip
        refine K_iconst (pc := 137) (i := 87) rfl ?_
        refine K_goto 142 (pc := 138) (i := 88) rfl rfl ?_
        exact K_retZ (pc := 142) (i := 90) rfl rfl (by omega) (by first | exact ⟨rfl, Or.inl ⟨rfl, (cr_pos (by rw [w22, w31]; omega)).2 (by rw [← t111]; omega)⟩⟩ | exact ⟨rfl, Or.inr ⟨rfl, fun q => absurd ((cr_pos (by rw [w22, w31]; omega)).1 q) (by rw [← t111]; omega)⟩⟩ | exact ⟨rfl, Or.inl ⟨rfl, (cr_neg (by rw [w22, w31]; omega)).2 (by rw [← t111]; omega)⟩⟩ | exact ⟨rfl, Or.inr ⟨rfl, fun q => absurd ((cr_neg (by rw [w22, w31]; omega)).1 q) (by rw [← t111]; omega)⟩⟩)
    · skip
      refine K_iload (pc := 119) (i := 79) rfl rfl ?_
      first | refine K_if_gt 128 (pc := 121) (i := 80) rfl rfl (by omega) (fun b121 => ?_) (fun b121 => ?_) | refine K_if_gt_an 128 (pc := 121) (i := 80) rfl rfl (fun b121 => ?_) (fun b121 => ?_)
      · skip
        refine K_iconst (pc := 128) (i := 83) rfl ?_
        refine K_goto 142 (pc := 129) (i := 84) rfl rfl ?_
        exact K_retZ (pc := 142) (i := 90) rfl rfl (by omega) (by first | exact ⟨rfl, Or.inl ⟨rfl, (cr_pos (by rw [w22, w31]; omega)).2 (by rw [← t111]; omega)⟩⟩ | exact ⟨rfl, Or.inr ⟨rfl, fun q => absurd ((cr_pos (by rw [w22, w31]; omega)).1 q) (by rw [← t111]; omega)⟩⟩ | exact ⟨rfl, Or.inl ⟨rfl, (cr_neg (by rw [w22, w31]; omega)).2 (by rw [← t111]; omega)⟩⟩ | exact ⟨rfl, Or.inr ⟨rfl, fun q => absurd ((cr_neg (by rw [w22, w31]; omega)).1 q) (by rw [← t111]; omega)⟩⟩)
      · skip
        refine K_iconst (pc := 124) (i := 81) rfl ?_
        refine K_goto 142 (pc := 125) (i := 82) rfl rfl ?_
        exact K_retZ (pc := 142) (i := 90) rfl rfl (by omega) (by first | exact ⟨rfl, Or.inl ⟨rfl, (cr_pos (by rw [w22, w31]; omega)).2 (by rw [← t111]; omega)⟩⟩ | exact ⟨rfl, Or.inr ⟨rfl, fun q => absurd ((cr_pos (by rw [w22, w31]; omega)).1 q) (by rw [← t111]; omega)⟩⟩ | exact ⟨rfl, Or.inl ⟨rfl, (cr_neg (by rw [w22, w31]; omega)).2 (by rw [← t111]; omega)⟩⟩ | exact ⟨rfl, Or.inr ⟨rfl, fun q => absurd ((cr_neg (by rw [w22, w31]; omega)).1 q) (by rw [← t111]; omega)⟩⟩)
  · skip
    refine K_aload_n (pc := 56) (i := 39) rfl rfl ?_
    refine K_getR (pc := 57) (i := 40) (j := 3) (d := 187) rfl S_184 rfl (by decide) rfl fw_Model_16 ?_
    refine K_iload (pc := 60) (i := 41) rfl rfl ?_
    refine K_iconst (pc := 62) (i := 42) rfl ?_
    refine K_iadd (pc := 63) (i := 43) rfl ?_
    refine K_iald (pc := 64) (i := 44) rfl S_187 (by omega) (by omega) (by decide) ?_
    refine K_nm (fun v64 e64 => ?_)
    have r64 := (rd_mkites hI ((x1 + (5 * x2)) + 3).toNat).2.1 (by omega)
    rw [← e64] at r64
    have w64 : kap h x1.toNat (5 * x2.toNat + 3) = v64 := by rw [e64]; unfold kap; congr 1; omega
    have u64 := (hk x2.toNat (by omega)).2.2.1
    rw [w64] at u64
    refine K_goto 77 (pc := 65) (i := 45) rfl rfl ?_
    refine K_ist (pc := 77) (i := 52) (lo' := [(0, _), (1, _), (2, _), (3, _), (4, _), (5, _), (6, _), (7, _)]) rfl rfl rfl rfl ?_
    refine K_iload (pc := 79) (i := 53) rfl rfl ?_
    refine K_aload_n (pc := 81) (i := 54) rfl rfl ?_
    refine K_getR (pc := 82) (i := 55) (j := 3) (d := 187) rfl S_184 rfl (by decide) rfl fw_Model_16 ?_
    refine K_iload (pc := 85) (i := 56) rfl rfl ?_
    refine K_iconst (pc := 87) (i := 57) rfl ?_
    refine K_iadd (pc := 88) (i := 58) rfl ?_
    refine K_iald (pc := 89) (i := 59) rfl S_187 (by omega) (by omega) (by decide) ?_
    refine K_nm (fun v89 e89 => ?_)
    have r89 := (rd_mkites hI ((x1 + (5 * x2)) + 3).toNat).2.1 (by omega)
    rw [← e89] at r89
    have w89 : kap h x1.toNat (5 * x2.toNat + 3) = v89 := by rw [e89]; unfold kap; congr 1; omega
    have u89 := (hk x2.toNat (by omega)).2.2.1
    rw [w89] at u89
    refine K_imul (pc := 90) (i := 60) rfl ?_
    refine K_nm (fun v90 e90 => ?_)
    have u90 := mul_bd (A := 40) (B := 9) (a := v22 - v31) (b := v89) (by omega) (by omega)
    rw [← e90] at u90
    refine K_aload_n (pc := 91) (i := 61) rfl rfl ?_
    refine K_getR (pc := 92) (i := 62) (j := 3) (d := 187) rfl S_184 rfl (by decide) rfl fw_Model_16 ?_
    refine K_iload (pc := 95) (i := 63) rfl rfl ?_
    refine K_iconst (pc := 97) (i := 64) rfl ?_
    refine K_iadd (pc := 98) (i := 65) rfl ?_
    refine K_iald (pc := 99) (i := 66) rfl S_187 (by omega) (by omega) (by decide) ?_
    refine K_nm (fun v99 e99 => ?_)
    have r99 := (rd_mkites hI ((x1 + (5 * x3)) + 3).toNat).2.1 (by omega)
    rw [← e99] at r99
    have w99 : kap h x1.toNat (5 * x3.toNat + 3) = v99 := by rw [e99]; unfold kap; congr 1; omega
    have u99 := (hk x3.toNat (by omega)).2.2.1
    rw [w99] at u99
    refine K_imul (pc := 100) (i := 67) rfl ?_
    refine K_nm (fun v100 e100 => ?_)
    have u100 := mul_bd (A := 360) (B := 9) (a := v90) (b := v99) (by omega) (by omega)
    rw [← e100] at u100
    refine K_aload_n (pc := 101) (i := 68) rfl rfl ?_
    refine K_iload_n (pc := 102) (i := 69) rfl rfl ?_
    refine K_iload_n (pc := 103) (i := 70) rfl rfl ?_
    refine K_iload_n (pc := 104) (i := 71) rfl rfl ?_
    refine K_cVI (pc := 105) (i := 72) rfl (c_Model_drift G (x1 := x1) (x2 := x2) (x3 := x3) (hk := hk) (hI := hI) (hn := by omega) (s1 := by omega) (s2 := by omega) (s3 := by omega)) S_184 rfl (lv_Model_133 rfl) rfl rfl rfl rfl rfl (fun v105 h105 q105 => ?_)
    obtain ⟨eh, r105⟩ := q105
    rw [eh]; clear eh
    refine K_iload (pc := 108) (i := 73) rfl rfl ?_
    refine K_imul (pc := 110) (i := 74) rfl ?_
    refine K_nm (fun v110 e110 => ?_)
    have u110 := mul_bd (A := 720) (B := 9) (a := v105) (b := v64) (by omega) (by omega)
    rw [← e110] at u110
    refine K_iadd (pc := 111) (i := 75) rfl ?_
    have t111 : v100 + v110 = thM (kap h x1.toNat (5 * x2.toNat + 1)) (kap h x1.toNat (5 * x2.toNat + 2)) (kap h x1.toNat (5 * x2.toNat + 3)) (kap h x1.toNat (5 * x3.toNat + 1)) (kap h x1.toNat (5 * x3.toNat + 2)) (kap h x1.toNat (5 * x3.toNat + 3)) := by unfold thM; rw [e110, e100, e90, r105.1]; unfold drK; rw [w22, w31, w43, w52, show v89 = v43 from w89.symm.trans w43, show v99 = v52 from w99.symm.trans w52]; first | rw [show v64 = v43 from w64.symm.trans w43, if_pos (by omega)] | rw [show v76 = v52 from w76.symm.trans w52, if_neg (by omega)]
    refine K_ist (pc := 112) (i := 76) (lo' := [(0, _), (1, _), (2, _), (3, _), (4, _), (5, _), (6, _), (7, _), (8, _)]) rfl rfl rfl rfl ?_
    refine K_iload (pc := 114) (i := 77) rfl rfl ?_
    first | refine K_if_le 132 (pc := 116) (i := 78) rfl rfl (by omega) (fun b116 => ?_) (fun b116 => ?_) | refine K_if_le_an 132 (pc := 116) (i := 78) rfl rfl (fun b116 => ?_) (fun b116 => ?_)
    · skip
      refine K_iload (pc := 132) (i := 85) rfl rfl ?_
      first | refine K_if_lt 141 (pc := 134) (i := 86) rfl rfl (by omega) (fun b134 => ?_) (fun b134 => ?_) | refine K_if_lt_an 141 (pc := 134) (i := 86) rfl rfl (fun b134 => ?_) (fun b134 => ?_)
      · skip
        refine K_iconst (pc := 141) (i := 89) rfl ?_
        exact K_retZ (pc := 142) (i := 90) rfl rfl (by omega) (by first | exact ⟨rfl, Or.inl ⟨rfl, (cr_pos (by rw [w22, w31]; omega)).2 (by rw [← t111]; omega)⟩⟩ | exact ⟨rfl, Or.inr ⟨rfl, fun q => absurd ((cr_pos (by rw [w22, w31]; omega)).1 q) (by rw [← t111]; omega)⟩⟩ | exact ⟨rfl, Or.inl ⟨rfl, (cr_neg (by rw [w22, w31]; omega)).2 (by rw [← t111]; omega)⟩⟩ | exact ⟨rfl, Or.inr ⟨rfl, fun q => absurd ((cr_neg (by rw [w22, w31]; omega)).1 q) (by rw [← t111]; omega)⟩⟩)
      · skip
        refine K_iconst (pc := 137) (i := 87) rfl ?_
        refine K_goto 142 (pc := 138) (i := 88) rfl rfl ?_
        exact K_retZ (pc := 142) (i := 90) rfl rfl (by omega) (by first | exact ⟨rfl, Or.inl ⟨rfl, (cr_pos (by rw [w22, w31]; omega)).2 (by rw [← t111]; omega)⟩⟩ | exact ⟨rfl, Or.inr ⟨rfl, fun q => absurd ((cr_pos (by rw [w22, w31]; omega)).1 q) (by rw [← t111]; omega)⟩⟩ | exact ⟨rfl, Or.inl ⟨rfl, (cr_neg (by rw [w22, w31]; omega)).2 (by rw [← t111]; omega)⟩⟩ | exact ⟨rfl, Or.inr ⟨rfl, fun q => absurd ((cr_neg (by rw [w22, w31]; omega)).1 q) (by rw [← t111]; omega)⟩⟩)
    · skip
      refine K_iload (pc := 119) (i := 79) rfl rfl ?_
      first | refine K_if_gt 128 (pc := 121) (i := 80) rfl rfl (by omega) (fun b121 => ?_) (fun b121 => ?_) | refine K_if_gt_an 128 (pc := 121) (i := 80) rfl rfl (fun b121 => ?_) (fun b121 => ?_)
      · skip
        refine K_iconst (pc := 128) (i := 83) rfl ?_
        refine K_goto 142 (pc := 129) (i := 84) rfl rfl ?_
        exact K_retZ (pc := 142) (i := 90) rfl rfl (by omega) (by first | exact ⟨rfl, Or.inl ⟨rfl, (cr_pos (by rw [w22, w31]; omega)).2 (by rw [← t111]; omega)⟩⟩ | exact ⟨rfl, Or.inr ⟨rfl, fun q => absurd ((cr_pos (by rw [w22, w31]; omega)).1 q) (by rw [← t111]; omega)⟩⟩ | exact ⟨rfl, Or.inl ⟨rfl, (cr_neg (by rw [w22, w31]; omega)).2 (by rw [← t111]; omega)⟩⟩ | exact ⟨rfl, Or.inr ⟨rfl, fun q => absurd ((cr_neg (by rw [w22, w31]; omega)).1 q) (by rw [← t111]; omega)⟩⟩)
      · skip
        refine K_iconst (pc := 124) (i := 81) rfl ?_
        refine K_goto 142 (pc := 125) (i := 82) rfl rfl ?_
        exact K_retZ (pc := 142) (i := 90) rfl rfl (by omega) (by first | exact ⟨rfl, Or.inl ⟨rfl, (cr_pos (by rw [w22, w31]; omega)).2 (by rw [← t111]; omega)⟩⟩ | exact ⟨rfl, Or.inr ⟨rfl, fun q => absurd ((cr_pos (by rw [w22, w31]; omega)).1 q) (by rw [← t111]; omega)⟩⟩ | exact ⟨rfl, Or.inl ⟨rfl, (cr_neg (by rw [w22, w31]; omega)).2 (by rw [← t111]; omega)⟩⟩ | exact ⟨rfl, Or.inr ⟨rfl, fun q => absurd ((cr_neg (by rw [w22, w31]; omega)).1 q) (by rw [← t111]; omega)⟩⟩)
end
section
set_option maxHeartbeats 4000000 in
set_option maxRecDepth 100000 in
theorem c_Model_blow40 (G : kG) {g : kGh} {h : kH} {x1 : Int} {x2 : Int} (s1 : x1 = 40) (s2 : 0 ≤ x2 ∧ x2 ≤ 8) (hk : FK (kap h x1.toNat) x2) (hI : Gd g h) : Ctr G y_Model_blow X_Model_blow 3 [.ref (G.2.2.2 184), kI x1, kI x2] h (kQi (fun z h' => Fx (fun c i => (c = 187 ∧ 40 ≤ i)) h h' ∧ (Gd g h' ∧ kR z ∧ BXK (kap h x1.toNat) (kap h' x1.toNat) (h 188) x2 ∧ CtK (kap h' x1.toNat) (h 188) x2 z ∧ FK (kap h' x1.toNat) x2))) := by
  refine Ctr.ofK (by decide) rfl T_Model_blow (Nat.le_of_ble_eq_true rfl) (lo := [(0, .ref (G.2.2.2 184)), (1, kI x1), (2, kI x2)]) rfl ?_
  have fx : Fx (fun c i => (c = 187 ∧ 40 ≤ i)) h h := Fx.rf
  refine K_iconst (pc := 0) (i := 0) rfl ?_
  refine K_ist_n (pc := 1) (i := 1) (lo' := [(0, _), (1, _), (2, _), (3, _)]) rfl rfl rfl rfl ?_
  have L2 : ∀ (n : Nat) (x3 : Int) (ha : kH), (8 - x3).toNat < n → (Gd g ha) → (Fx (fun c i => (c = 187 ∧ 40 ≤ i)) h ha) → ((0 ≤ x3 ∧ x3 ≤ x2) ∧ BXK (kap h x1.toNat) (kap ha x1.toNat) (h 188) x3) → K X_Model_blow G (kZm G 3 (kQi (fun z h' => Fx (fun c i => (c = 187 ∧ 40 ≤ i)) h h' ∧ (Gd g h' ∧ kR z ∧ BXK (kap h x1.toNat) (kap h' x1.toNat) (h 188) x2 ∧ CtK (kap h' x1.toNat) (h 188) x2 z ∧ FK (kap h' x1.toNat) x2)))) 2 [(0, .ref (G.2.2.2 184)), (1, kI x1), (2, kI x2), (3, kI x3)] [] ha := by
    intro n
    induction n with
    | zero => intro x3 ha hm; exact absurd hm (Nat.not_lt_zero _)
    | succ n ih2 =>
      intro x3 ha hm2 hI fx hV2
      refine K_iload_n (pc := 2) (i := 2) rfl rfl ?_
      refine K_iload_n (pc := 3) (i := 3) rfl rfl ?_
      first | refine K_icmp_ge 80 (pc := 4) (i := 4) rfl rfl (by omega) (by omega) (fun b4 => ?_) (fun b4 => ?_) | refine K_icmp_ge_an 80 (pc := 4) (i := 4) rfl rfl (fun b4 => ?_) (fun b4 => ?_)
      · skip
        have bx80 : BXK (kap h x1.toNat) (kap ha x1.toNat) (h 188) x2 := by have q := hV2.2; rwa [show x3 = x2 by omega] at q
        have fk80 : FK (kap ha x1.toNat) x2 := hk.blow bx80
        have w80 : ha 188 = h 188 := fx.cell 188 (fun i => (by first | (dsimp only; omega) | omega | exact not_false))
        refine K_iconst (pc := 80) (i := 52) rfl ?_
        refine K_ist_n (pc := 81) (i := 53) (lo' := [(0, _), (1, _), (2, _), (3, _)]) rfl rfl rfl rfl ?_
        refine K_iconst (pc := 82) (i := 54) rfl ?_
        refine K_ist (pc := 83) (i := 55) (lo' := [(0, _), (1, _), (2, _), (3, _), (4, _)]) rfl rfl rfl rfl ?_
        have L85 : ∀ (n : Nat) (x3 : Int) (x4 : Int), (8 - x4).toNat < n → ((0 ≤ x4 ∧ x4 ≤ x2) ∧ kR x3 ∧ CKI (kap ha x1.toNat) (ha 188) x2 x3 x4 0) → K X_Model_blow G (kZm G 3 (kQi (fun z h' => Fx (fun c i => (c = 187 ∧ 40 ≤ i)) h h' ∧ (Gd g h' ∧ kR z ∧ BXK (kap h x1.toNat) (kap h' x1.toNat) (h 188) x2 ∧ CtK (kap h' x1.toNat) (h 188) x2 z ∧ FK (kap h' x1.toNat) x2)))) 85 [(0, .ref (G.2.2.2 184)), (1, kI x1), (2, kI x2), (3, kI x3), (4, kI x4)] [] ha := by
          intro n
          induction n with
          | zero => intro x3 x4 hm; exact absurd hm (Nat.not_lt_zero _)
          | succ n ih85 =>
            intro x3 x4 hm85 hV85
            refine K_iload (pc := 85) (i := 56) rfl rfl ?_
            refine K_iload_n (pc := 87) (i := 57) rfl rfl ?_
            first | refine K_icmp_ge 189 (pc := 88) (i := 58) rfl rfl (by omega) (by omega) (fun b88 => ?_) (fun b88 => ?_) | refine K_icmp_ge_an 189 (pc := 88) (i := 58) rfl rfl (fun b88 => ?_) (fun b88 => ?_)
            · skip
              refine K_iload_n (pc := 189) (i := 114) rfl rfl ?_
              exact K_retI (pc := 190) (i := 115) rfl rfl ⟨fx, ⟨hI, by omega, bx80, by rw [← w80]; exact hV85.2.2.end (by omega), fk80⟩⟩
            · skip
              refine K_iconst (pc := 91) (i := 59) rfl ?_
              refine K_ist (pc := 92) (i := 60) (lo' := [(0, _), (1, _), (2, _), (3, _), (4, _), (5, _)]) rfl rfl rfl rfl ?_
              have L94 : ∀ (n : Nat) (x3 : Int) (x5 : Int), (8 - x5).toNat < n → ((0 ≤ x5 ∧ x5 ≤ x2) ∧ kR x3 ∧ CKI (kap ha x1.toNat) (ha 188) x2 x3 x4 x5) → K X_Model_blow G (kZm G 3 (kQi (fun z h' => Fx (fun c i => (c = 187 ∧ 40 ≤ i)) h h' ∧ (Gd g h' ∧ kR z ∧ BXK (kap h x1.toNat) (kap h' x1.toNat) (h 188) x2 ∧ CtK (kap h' x1.toNat) (h 188) x2 z ∧ FK (kap h' x1.toNat) x2)))) 94 [(0, .ref (G.2.2.2 184)), (1, kI x1), (2, kI x2), (3, kI x3), (4, kI x4), (5, kI x5)] [] ha := by
                intro n
                induction n with
                | zero => intro x3 x5 hm; exact absurd hm (Nat.not_lt_zero _)
                | succ n ih94 =>
                  intro x3 x5 hm94 hV94
                  refine K_iload (pc := 94) (i := 61) rfl rfl ?_
                  refine K_iload_n (pc := 96) (i := 62) rfl rfl ?_
                  first | refine K_icmp_ge 183 (pc := 97) (i := 63) rfl rfl (by omega) (by omega) (fun b97 => ?_) (fun b97 => ?_) | refine K_icmp_ge_an 183 (pc := 97) (i := 63) rfl rfl (fun b97 => ?_) (fun b97 => ?_)
                  · skip
                    refine K_inc (pc := 183) (i := 112) (q := 4) (lo' := [(0, _), (1, _), (2, _), (3, _), (4, _), (5, _)]) rfl rfl rfl rfl rfl ?_
                    refine K_goto 85 (pc := 186) (i := 113) rfl rfl ?_
                    refine K_drop (lo' := [(0, .ref (G.2.2.2 184)), (1, kI x1), (2, kI x2), (3, kI x3), (4, kI (x4 + 1))]) [0, 1, 2, 3, 4] rfl ?_
                    exact ih85 x3 (x4 + 1) (by omega) ⟨by omega, by omega, hV94.2.2.next (by omega)⟩
                  · skip
                    refine K_aload_n (pc := 100) (i := 64) rfl rfl ?_
                    refine K_getR (pc := 101) (i := 65) (j := 3) (d := 187) rfl S_184 rfl (by decide) rfl fw_Model_16 ?_
                    refine K_iload_n (pc := 104) (i := 66) rfl rfl ?_
                    refine K_iconst (pc := 105) (i := 67) rfl ?_
                    refine K_iload (pc := 106) (i := 68) rfl rfl ?_
                    refine K_imul (pc := 108) (i := 69) rfl ?_
                    refine K_iadd (pc := 109) (i := 70) rfl ?_
                    refine K_iald (pc := 110) (i := 71) rfl S_187 (by omega) (by omega) (by decide) ?_
                    refine K_nm (fun v110 e110 => ?_)
                    have r110 := (rd_mkites hI (x1 + (5 * x4)).toNat).1 (by omega)
                    rw [← e110] at r110
                    have w110 : kap ha x1.toNat (5 * x4.toNat) = v110 := by rw [e110]; unfold kap; congr 1; omega
                    refine K_aload_n (pc := 111) (i := 72) rfl rfl ?_
                    refine K_getR (pc := 112) (i := 73) (j := 3) (d := 187) rfl S_184 rfl (by decide) rfl fw_Model_16 ?_
                    refine K_iload_n (pc := 115) (i := 74) rfl rfl ?_
                    refine K_iconst (pc := 116) (i := 75) rfl ?_
                    refine K_iload (pc := 117) (i := 76) rfl rfl ?_
                    refine K_imul (pc := 119) (i := 77) rfl ?_
                    refine K_iadd (pc := 120) (i := 78) rfl ?_
                    refine K_iald (pc := 121) (i := 79) rfl S_187 (by omega) (by omega) (by decide) ?_
                    refine K_nm (fun v121 e121 => ?_)
                    have r121 := (rd_mkites hI (x1 + (5 * x5)).toNat).1 (by omega)
                    rw [← e121] at r121
                    have w121 : kap ha x1.toNat (5 * x5.toNat) = v121 := by rw [e121]; unfold kap; congr 1; omega
                    first | refine K_icmp_eq 158 (pc := 122) (i := 80) rfl rfl (by omega) (by omega) (fun b122 => ?_) (fun b122 => ?_) | refine K_icmp_eq_an 158 (pc := 122) (i := 80) rfl rfl (fun b122 => ?_) (fun b122 => ?_)
                    · skip
                      refine K_iconst (pc := 158) (i := 98) rfl ?_
                      refine K_ist (pc := 159) (i := 99) (lo' := [(0, _), (1, _), (2, _), (3, _), (4, _), (5, _), (6, _)]) rfl rfl rfl rfl ?_
                      refine K_iload_n (pc := 161) (i := 100) rfl rfl ?_
                      refine K_iload (pc := 162) (i := 101) rfl rfl ?_
                      refine K_if_eq 174 (pc := 164) (i := 102) rfl rfl (by omega) (fun _ => ?_) (fun b164 => False.elim (by omega))
                      refine K_iconst (pc := 174) (i := 107) rfl ?_
                      refine K_ior (pc := 175) (i := 108) rfl ?_
                      refine K_nm (fun v175 e175 => ?_)
                      have r175 := kOr_R x3 0
                      rw [← e175] at r175
                      refine K_ist_n (pc := 176) (i := 109) (lo' := [(0, _), (1, _), (2, _), (3, _), (4, _), (5, _), (6, _)]) rfl rfl rfl rfl ?_
                      refine K_inc (pc := 177) (i := 110) (q := 5) (lo' := [(0, _), (1, _), (2, _), (3, _), (4, _), (5, _), (6, _)]) rfl rfl rfl rfl rfl ?_
                      refine K_goto 94 (pc := 180) (i := 111) rfl rfl ?_
                      refine K_drop (lo' := [(0, .ref (G.2.2.2 184)), (1, kI x1), (2, kI x2), (3, kI v175), (4, kI x4), (5, kI (x5 + 1))]) [0, 1, 2, 3, 4, 5] rfl ?_
                      exact ih94 v175 (x5 + 1) (by omega) ⟨by omega, by omega, by rw [e175]; first | exact hV94.2.2.skip hV85.1.1 hV94.1.1 (fun q => q.1 (by rw [w110, w121]; exact b122)) | exact hV94.2.2.skip hV85.1.1 hV94.1.1 (fun q => absurd q.2.1 (by rw [← r129.2, ← r136.2]; omega)) | exact hV94.2.2.skip hV85.1.1 hV94.1.1 (fun q => r148.elim (fun e => absurd e.1 (by omega)) (fun e => e.2 q.2.2)) | (rw [e170]; exact hV94.2.2.hit (by omega) (by omega) (by omega) ⟨by rw [w110, w121]; exact b122, by rw [← r129.2, ← r136.2]; omega, r148.elim (fun q => q.2) (fun q => absurd q.1 (by omega))⟩)⟩
                    · skip
                      refine K_aload_n (pc := 125) (i := 81) rfl rfl ?_
                      refine K_iload_n (pc := 126) (i := 82) rfl rfl ?_
                      refine K_iload (pc := 127) (i := 83) rfl rfl ?_
                      refine K_cVI (pc := 129) (i := 84) rfl (c_Model_edgeOf G (x1 := x1) (x2 := x4) (hI := hI) (s1 := by omega) (s2 := by omega)) S_184 rfl (lv_Model_108 rfl) rfl rfl rfl rfl rfl (fun v129 h129 q129 => ?_)
                      obtain ⟨eh, r129⟩ := q129
                      rw [eh]; clear eh
                      refine K_aload_n (pc := 132) (i := 85) rfl rfl ?_
                      refine K_iload_n (pc := 133) (i := 86) rfl rfl ?_
                      refine K_iload (pc := 134) (i := 87) rfl rfl ?_
                      refine K_cVI (pc := 136) (i := 88) rfl (c_Model_edgeOf G (x1 := x1) (x2 := x5) (hI := hI) (s1 := by omega) (s2 := by omega)) S_184 rfl (lv_Model_108 rfl) rfl rfl rfl rfl rfl (fun v136 h136 q136 => ?_)
                      obtain ⟨eh, r136⟩ := q136
                      rw [eh]; clear eh
                      first | refine K_icmp_le 158 (pc := 139) (i := 89) rfl rfl (by omega) (by omega) (fun b139 => ?_) (fun b139 => ?_) | refine K_icmp_le_an 158 (pc := 139) (i := 89) rfl rfl (fun b139 => ?_) (fun b139 => ?_)
                      · skip
                        refine K_iconst (pc := 158) (i := 98) rfl ?_
                        refine K_ist (pc := 159) (i := 99) (lo' := [(0, _), (1, _), (2, _), (3, _), (4, _), (5, _), (6, _)]) rfl rfl rfl rfl ?_
                        refine K_iload_n (pc := 161) (i := 100) rfl rfl ?_
                        refine K_iload (pc := 162) (i := 101) rfl rfl ?_
                        refine K_if_eq 174 (pc := 164) (i := 102) rfl rfl (by omega) (fun _ => ?_) (fun b164 => False.elim (by omega))
                        refine K_iconst (pc := 174) (i := 107) rfl ?_
                        refine K_ior (pc := 175) (i := 108) rfl ?_
                        refine K_nm (fun v175 e175 => ?_)
                        have r175 := kOr_R x3 0
                        rw [← e175] at r175
                        refine K_ist_n (pc := 176) (i := 109) (lo' := [(0, _), (1, _), (2, _), (3, _), (4, _), (5, _), (6, _)]) rfl rfl rfl rfl ?_
                        refine K_inc (pc := 177) (i := 110) (q := 5) (lo' := [(0, _), (1, _), (2, _), (3, _), (4, _), (5, _), (6, _)]) rfl rfl rfl rfl rfl ?_
                        refine K_goto 94 (pc := 180) (i := 111) rfl rfl ?_
                        refine K_drop (lo' := [(0, .ref (G.2.2.2 184)), (1, kI x1), (2, kI x2), (3, kI v175), (4, kI x4), (5, kI (x5 + 1))]) [0, 1, 2, 3, 4, 5] rfl ?_
                        exact ih94 v175 (x5 + 1) (by omega) ⟨by omega, by omega, by rw [e175]; first | exact hV94.2.2.skip hV85.1.1 hV94.1.1 (fun q => q.1 (by rw [w110, w121]; exact b122)) | exact hV94.2.2.skip hV85.1.1 hV94.1.1 (fun q => absurd q.2.1 (by rw [← r129.2, ← r136.2]; omega)) | exact hV94.2.2.skip hV85.1.1 hV94.1.1 (fun q => r148.elim (fun e => absurd e.1 (by omega)) (fun e => e.2 q.2.2)) | (rw [e170]; exact hV94.2.2.hit (by omega) (by omega) (by omega) ⟨by rw [w110, w121]; exact b122, by rw [← r129.2, ← r136.2]; omega, r148.elim (fun q => q.2) (fun q => absurd q.1 (by omega))⟩)⟩
                      · skip
                        refine K_aload_n (pc := 142) (i := 90) rfl rfl ?_
                        refine K_iload_n (pc := 143) (i := 91) rfl rfl ?_
                        refine K_iload (pc := 144) (i := 92) rfl rfl ?_
                        refine K_iload (pc := 146) (i := 93) rfl rfl ?_
                        refine K_cVI (pc := 148) (i := 94) rfl (c_Model_doCross G (x1 := x1) (x2 := x4) (x3 := x5) (hk := fk80) (hI := hI) (hn := by omega) (s1 := by omega) (s2 := by omega) (s3 := by omega)) S_184 rfl (lv_Model_137 rfl) rfl rfl rfl rfl rfl (fun v148 h148 q148 => ?_)
                        obtain ⟨eh, r148⟩ := q148
                        rw [eh]; clear eh
                        first | refine K_if_eq 158 (pc := 151) (i := 95) rfl rfl (by omega) (fun b151 => ?_) (fun b151 => ?_) | refine K_if_eq_an 158 (pc := 151) (i := 95) rfl rfl (fun b151 => ?_) (fun b151 => ?_)
                        · skip
                          refine K_iconst (pc := 158) (i := 98) rfl ?_
                          refine K_ist (pc := 159) (i := 99) (lo' := [(0, _), (1, _), (2, _), (3, _), (4, _), (5, _), (6, _)]) rfl rfl rfl rfl ?_
                          refine K_iload_n (pc := 161) (i := 100) rfl rfl ?_
                          refine K_iload (pc := 162) (i := 101) rfl rfl ?_
                          refine K_if_eq 174 (pc := 164) (i := 102) rfl rfl (by omega) (fun _ => ?_) (fun b164 => False.elim (by omega))
                          refine K_iconst (pc := 174) (i := 107) rfl ?_
                          refine K_ior (pc := 175) (i := 108) rfl ?_
                          refine K_nm (fun v175 e175 => ?_)
                          have r175 := kOr_R x3 0
                          rw [← e175] at r175
                          refine K_ist_n (pc := 176) (i := 109) (lo' := [(0, _), (1, _), (2, _), (3, _), (4, _), (5, _), (6, _)]) rfl rfl rfl rfl ?_
                          refine K_inc (pc := 177) (i := 110) (q := 5) (lo' := [(0, _), (1, _), (2, _), (3, _), (4, _), (5, _), (6, _)]) rfl rfl rfl rfl rfl ?_
                          refine K_goto 94 (pc := 180) (i := 111) rfl rfl ?_
                          refine K_drop (lo' := [(0, .ref (G.2.2.2 184)), (1, kI x1), (2, kI x2), (3, kI v175), (4, kI x4), (5, kI (x5 + 1))]) [0, 1, 2, 3, 4, 5] rfl ?_
                          exact ih94 v175 (x5 + 1) (by omega) ⟨by omega, by omega, by rw [e175]; first | exact hV94.2.2.skip hV85.1.1 hV94.1.1 (fun q => q.1 (by rw [w110, w121]; exact b122)) | exact hV94.2.2.skip hV85.1.1 hV94.1.1 (fun q => absurd q.2.1 (by rw [← r129.2, ← r136.2]; omega)) | exact hV94.2.2.skip hV85.1.1 hV94.1.1 (fun q => r148.elim (fun e => absurd e.1 (by omega)) (fun e => e.2 q.2.2)) | (rw [e170]; exact hV94.2.2.hit (by omega) (by omega) (by omega) ⟨by rw [w110, w121]; exact b122, by rw [← r129.2, ← r136.2]; omega, r148.elim (fun q => q.2) (fun q => absurd q.1 (by omega))⟩)⟩
                        · skip
                          refine K_iconst (pc := 154) (i := 96) rfl ?_
                          refine K_goto 159 (pc := 155) (i := 97) rfl rfl ?_
                          refine K_ist (pc := 159) (i := 99) (lo' := [(0, _), (1, _), (2, _), (3, _), (4, _), (5, _), (6, _)]) rfl rfl rfl rfl ?_
                          refine K_iload_n (pc := 161) (i := 100) rfl rfl ?_
                          refine K_iload (pc := 162) (i := 101) rfl rfl ?_
                          refine K_if_eq 174 (pc := 164) (i := 102) rfl rfl (by omega) (fun b164 => False.elim (by omega)) (fun _ => ?_)
                          refine K_iconst (pc := 167) (i := 103) rfl ?_
                          refine K_iload (pc := 168) (i := 104) rfl rfl ?_
                          refine K_ishl (pc := 170) (i := 105) rfl ?_
                          refine K_nm (fun v170 e170 => ?_)
                          have r170 := kShl_R 1 x5
                          rw [← e170] at r170
                          refine K_goto 175 (pc := 171) (i := 106) rfl rfl ?_
                          refine K_ior (pc := 175) (i := 108) rfl ?_
                          refine K_nm (fun v175 e175 => ?_)
                          have r175 := kOr_R x3 v170
                          rw [← e175] at r175
                          refine K_ist_n (pc := 176) (i := 109) (lo' := [(0, _), (1, _), (2, _), (3, _), (4, _), (5, _), (6, _)]) rfl rfl rfl rfl ?_
                          refine K_inc (pc := 177) (i := 110) (q := 5) (lo' := [(0, _), (1, _), (2, _), (3, _), (4, _), (5, _), (6, _)]) rfl rfl rfl rfl rfl ?_
                          refine K_goto 94 (pc := 180) (i := 111) rfl rfl ?_
                          refine K_drop (lo' := [(0, .ref (G.2.2.2 184)), (1, kI x1), (2, kI x2), (3, kI v175), (4, kI x4), (5, kI (x5 + 1))]) [0, 1, 2, 3, 4, 5] rfl ?_
                          exact ih94 v175 (x5 + 1) (by omega) ⟨by omega, by omega, by rw [e175]; first | exact hV94.2.2.skip hV85.1.1 hV94.1.1 (fun q => q.1 (by rw [w110, w121]; exact b122)) | exact hV94.2.2.skip hV85.1.1 hV94.1.1 (fun q => absurd q.2.1 (by rw [← r129.2, ← r136.2]; omega)) | exact hV94.2.2.skip hV85.1.1 hV94.1.1 (fun q => r148.elim (fun e => absurd e.1 (by omega)) (fun e => e.2 q.2.2)) | (rw [e170]; exact hV94.2.2.hit (by omega) (by omega) (by omega) ⟨by rw [w110, w121]; exact b122, by rw [← r129.2, ← r136.2]; omega, r148.elim (fun q => q.2) (fun q => absurd q.1 (by omega))⟩)⟩
              exact L94 _ x3 0 (Nat.lt_succ_self _) ⟨by omega, by omega, hV85.2.2⟩
        exact L85 _ 0 0 (Nat.lt_succ_self _) ⟨by omega, by omega, CKI.zero⟩
      · skip
        refine K_aload_n (pc := 7) (i := 5) rfl rfl ?_
        refine K_getR (pc := 8) (i := 6) (j := 3) (d := 187) rfl S_184 rfl (by decide) rfl fw_Model_16 ?_
        refine K_iload_n (pc := 11) (i := 7) rfl rfl ?_
        refine K_iconst (pc := 12) (i := 8) rfl ?_
        refine K_iload_n (pc := 13) (i := 9) rfl rfl ?_
        refine K_imul (pc := 14) (i := 10) rfl ?_
        refine K_iadd (pc := 15) (i := 11) rfl ?_
        refine K_iconst (pc := 16) (i := 12) rfl ?_
        refine K_iadd (pc := 17) (i := 13) rfl ?_
        refine K_iald (pc := 18) (i := 14) rfl S_187 (by omega) (by omega) (by decide) ?_
        refine K_nm (fun v18 e18 => ?_)
        have w18 : kap ha x1.toNat (5 * x3.toNat + 2) = v18 := by rw [e18]; unfold kap; congr 1; omega
        have y18 : kap h x1.toNat (5 * x3.toNat + 2) = v18 := by rw [← w18]; exact (hV2.2.ge (by omega)).symm
        have u18 := (hk x3.toNat (by omega)).2.1
        rw [y18] at u18
        refine K_aload_n (pc := 19) (i := 15) rfl rfl ?_
        refine K_getR (pc := 20) (i := 16) (j := 5) (d := 188) rfl S_184 rfl (by decide) rfl fw_Model_19 ?_
        refine K_aload_n (pc := 23) (i := 17) rfl rfl ?_
        refine K_getR (pc := 24) (i := 18) (j := 3) (d := 187) rfl S_184 rfl (by decide) rfl fw_Model_16 ?_
        refine K_iload_n (pc := 27) (i := 19) rfl rfl ?_
        refine K_iconst (pc := 28) (i := 20) rfl ?_
        refine K_iload_n (pc := 29) (i := 21) rfl rfl ?_
        refine K_imul (pc := 30) (i := 22) rfl ?_
        refine K_iadd (pc := 31) (i := 23) rfl ?_
        refine K_iconst (pc := 32) (i := 24) rfl ?_
        refine K_iadd (pc := 33) (i := 25) rfl ?_
        refine K_iald (pc := 34) (i := 26) rfl S_187 (by omega) (by omega) (by decide) ?_
        refine K_nm (fun v34 e34 => ?_)
        have r34 := (rd_mkites hI ((x1 + (5 * x3)) + 3).toNat).2.1 (by omega)
        rw [← e34] at r34
        have w34 : kap ha x1.toNat (5 * x3.toNat + 3) = v34 := by rw [e34]; unfold kap; congr 1; omega
        have y34 : kap h x1.toNat (5 * x3.toNat + 3) = v34 := by rw [← w34]; exact (hV2.2.ot (by omega)).symm
        refine K_iald (pc := 35) (i := 27) rfl S_188 (by omega) (by omega) (by decide) ?_
        refine K_nm (fun v35 e35 => ?_)
        have r35 := rd_mwinds hI (v34).toNat
        rw [← e35] at r35
        have y35 : v35 = h 188 v34.toNat := by rw [e35, fx.cell 188 (fun i => (by first | (dsimp only; omega) | omega | exact not_false))]
        refine K_iadd (pc := 36) (i := 28) rfl ?_
        refine K_ist (pc := 37) (i := 29) (lo' := [(0, _), (1, _), (2, _), (3, _), (4, _)]) rfl rfl rfl rfl ?_
        refine K_aload_n (pc := 39) (i := 30) rfl rfl ?_
        refine K_getR (pc := 40) (i := 31) (j := 3) (d := 187) rfl S_184 rfl (by decide) rfl fw_Model_16 ?_
        refine K_iload_n (pc := 43) (i := 32) rfl rfl ?_
        refine K_iconst (pc := 44) (i := 33) rfl ?_
        refine K_iload_n (pc := 45) (i := 34) rfl rfl ?_
        refine K_imul (pc := 46) (i := 35) rfl ?_
        refine K_iadd (pc := 47) (i := 36) rfl ?_
        refine K_iconst (pc := 48) (i := 37) rfl ?_
        refine K_iadd (pc := 49) (i := 38) rfl ?_
        refine K_iload (pc := 50) (i := 39) rfl rfl ?_
        first | refine K_if_ge 59 (pc := 52) (i := 40) rfl rfl (by omega) (fun b52 => ?_) (fun b52 => ?_) | refine K_if_ge_an 59 (pc := 52) (i := 40) rfl rfl (fun b52 => ?_) (fun b52 => ?_)
        · skip
          refine K_iload (pc := 59) (i := 43) rfl rfl ?_
          refine K_bipush (pc := 61) (i := 44) rfl rfl ?_
          first | refine K_icmp_le 71 (pc := 63) (i := 45) rfl rfl (by omega) (by omega) (fun b63 => ?_) (fun b63 => ?_) | refine K_icmp_le_an 71 (pc := 63) (i := 45) rfl rfl (fun b63 => ?_) (fun b63 => ?_)
          · skip
            refine K_iload (pc := 71) (i := 48) rfl rfl ?_
            refine K_iast (pc := 73) (i := 49) rfl S_187 (by omega) (by omega) (by decide) ?_
            have hI := st_mkites hI (i := ((x1 + (5 * x3)) + 2).toNat) (v := v18 + v35) (by unfold bK; omega) (fun _ a => a.hi (rd_many hI).2 (by omega))
            have fx := Fx.st (c := 187) (i := ((x1 + (5 * x3)) + 2).toNat) (v := v18 + v35) fx (by first | (dsimp only; omega) | omega | exact not_false)
            have bx73 := BXK.st (i := ((x1 + (5 * x3)) + 2).toNat) (v := v18 + v35) hV2.2 (by omega) (by omega) (by rw [y18, y34, ← y35]; omega)
            refine K_inc (pc := 74) (i := 50) (q := 3) (lo' := [(0, _), (1, _), (2, _), (3, _), (4, _)]) rfl rfl rfl rfl rfl ?_
            refine K_goto 2 (pc := 77) (i := 51) rfl rfl ?_
            refine K_drop (lo' := [(0, .ref (G.2.2.2 184)), (1, kI x1), (2, kI x2), (3, kI (x3 + 1))]) [0, 1, 2, 3] rfl ?_
            exact ih2 (x3 + 1) _ (by omega) hI fx ⟨by omega, bx73⟩
          · skip
            refine K_bipush (pc := 66) (i := 46) rfl rfl ?_
            refine K_goto 73 (pc := 68) (i := 47) rfl rfl ?_
            refine K_iast (pc := 73) (i := 49) rfl S_187 (by omega) (by omega) (by decide) ?_
            have hI := st_mkites hI (i := ((x1 + (5 * x3)) + 2).toNat) (v := 40) (by unfold bK; omega) (fun _ a => a.hi (rd_many hI).2 (by omega))
            have fx := Fx.st (c := 187) (i := ((x1 + (5 * x3)) + 2).toNat) (v := 40) fx (by first | (dsimp only; omega) | omega | exact not_false)
            have bx73 := BXK.st (i := ((x1 + (5 * x3)) + 2).toNat) (v := 40) hV2.2 (by omega) (by omega) (by rw [y18, y34, ← y35]; omega)
            refine K_inc (pc := 74) (i := 50) (q := 3) (lo' := [(0, _), (1, _), (2, _), (3, _), (4, _)]) rfl rfl rfl rfl rfl ?_
            refine K_goto 2 (pc := 77) (i := 51) rfl rfl ?_
            refine K_drop (lo' := [(0, .ref (G.2.2.2 184)), (1, kI x1), (2, kI x2), (3, kI (x3 + 1))]) [0, 1, 2, 3] rfl ?_
            exact ih2 (x3 + 1) _ (by omega) hI fx ⟨by omega, bx73⟩
        · skip
          refine K_iconst (pc := 55) (i := 41) rfl ?_
          refine K_goto 73 (pc := 56) (i := 42) rfl rfl ?_
          refine K_iast (pc := 73) (i := 49) rfl S_187 (by omega) (by omega) (by decide) ?_
          have hI := st_mkites hI (i := ((x1 + (5 * x3)) + 2).toNat) (v := 0) (by unfold bK; omega) (fun _ a => a.hi (rd_many hI).2 (by omega))
          have fx := Fx.st (c := 187) (i := ((x1 + (5 * x3)) + 2).toNat) (v := 0) fx (by first | (dsimp only; omega) | omega | exact not_false)
          have bx73 := BXK.st (i := ((x1 + (5 * x3)) + 2).toNat) (v := 0) hV2.2 (by omega) (by omega) (by rw [y18, y34, ← y35]; omega)
          refine K_inc (pc := 74) (i := 50) (q := 3) (lo' := [(0, _), (1, _), (2, _), (3, _), (4, _)]) rfl rfl rfl rfl rfl ?_
          refine K_goto 2 (pc := 77) (i := 51) rfl rfl ?_
          refine K_drop (lo' := [(0, .ref (G.2.2.2 184)), (1, kI x1), (2, kI x2), (3, kI (x3 + 1))]) [0, 1, 2, 3] rfl ?_
          exact ih2 (x3 + 1) _ (by omega) hI fx ⟨by omega, bx73⟩
  exact L2 _ 0 _ (Nat.lt_succ_self _) hI fx ⟨by omega, BXK.z⟩
end
section
set_option maxHeartbeats 4000000 in
set_option maxRecDepth 100000 in
theorem c_Model_leave40 (G : kG) {g : kGh} {h : kH} {x1 : Int} {x2 : Int} {x3 : Int} (s1 : x1 = 40) (s2 : 0 ≤ x2 ∧ x2 ≤ 8) (hI : Gd g h) : Ctr G y_Model_leave X_Model_leave 1 [.ref (G.2.2.2 184), kI x1, kI x2, kI x3] h (kQi (fun z h' => Fx (fun c i => (c = 187 ∧ 40 ≤ i) ∨ c = 192) h h' ∧ (Gd g h' ∧ (0 ≤ z ∧ z ≤ x2) ∧ z = kc (pB x3) x2.toNat ∧ THK (kap h x1.toNat) (kap h' x1.toNat) (pB x3) x2 ∧ GN (h 192) (h' 192) x3 (fun i => kap h x1.toNat (5 * i)) x2))) := by
  refine Ctr.ofK (by decide) rfl T_Model_leave (Nat.le_of_ble_eq_true rfl) (lo := [(0, .ref (G.2.2.2 184)), (1, kI x1), (2, kI x2), (3, kI x3)]) rfl ?_
  have fx : Fx (fun c i => (c = 187 ∧ 40 ≤ i) ∨ c = 192) h h := Fx.rf
  refine K_iconst (pc := 0) (i := 0) rfl ?_
  refine K_ist (pc := 1) (i := 1) (lo' := [(0, _), (1, _), (2, _), (3, _), (4, _)]) rfl rfl rfl rfl ?_
  refine K_iconst (pc := 3) (i := 2) rfl ?_
  refine K_ist (pc := 4) (i := 3) (lo' := [(0, _), (1, _), (2, _), (3, _), (4, _), (5, _)]) rfl rfl rfl rfl ?_
  have L6 : ∀ (n : Nat) (x4 : Int) (x5 : Int) (ha : kH), (8 - x5).toNat < n → (Gd g ha) → (Fx (fun c i => (c = 187 ∧ 40 ≤ i) ∨ c = 192) h ha) → ((0 ≤ x4 ∧ x4 ≤ x5 ∧ x5 ≤ x2) ∧ x4 = kc (pB x3) x5.toNat ∧ LVK (kap h x1.toNat) (kap ha x1.toNat) (pB x3) x5.toNat ∧ GN (h 192) (ha 192) x3 (fun i => kap h x1.toNat (5 * i)) x5) → K X_Model_leave G (kZm G 1 (kQi (fun z h' => Fx (fun c i => (c = 187 ∧ 40 ≤ i) ∨ c = 192) h h' ∧ (Gd g h' ∧ (0 ≤ z ∧ z ≤ x2) ∧ z = kc (pB x3) x2.toNat ∧ THK (kap h x1.toNat) (kap h' x1.toNat) (pB x3) x2 ∧ GN (h 192) (h' 192) x3 (fun i => kap h x1.toNat (5 * i)) x2)))) 6 [(0, .ref (G.2.2.2 184)), (1, kI x1), (2, kI x2), (3, kI x3), (4, kI x4), (5, kI x5)] [] ha := by
    intro n
    induction n with
    | zero => intro x4 x5 ha hm; exact absurd hm (Nat.not_lt_zero _)
    | succ n ih6 =>
      intro x4 x5 ha hm6 hI fx hV6
      refine K_iload (pc := 6) (i := 4) rfl rfl ?_
      refine K_iload_n (pc := 8) (i := 5) rfl rfl ?_
      first | refine K_icmp_ge 99 (pc := 9) (i := 6) rfl rfl (by omega) (by omega) (fun b9 => ?_) (fun b9 => ?_) | refine K_icmp_ge_an 99 (pc := 9) (i := 6) rfl rfl (fun b9 => ?_) (fun b9 => ?_)
      · skip
        refine K_iload (pc := 99) (i := 62) rfl rfl ?_
        exact K_retI (pc := 101) (i := 63) rfl rfl ⟨fx, ⟨hI, by omega, by rw [hV6.2.1, show x5 = x2 by omega], fun i a hi hp ha9 => hV6.2.2.1.1 i a (by omega) hp ha9, by have q := hV6.2.2.2; rwa [show x5 = x2 by omega] at q⟩⟩
      · skip
        refine K_iload_n (pc := 12) (i := 7) rfl rfl ?_
        refine K_iload (pc := 13) (i := 8) rfl rfl ?_
        refine K_ishr (pc := 15) (i := 9) rfl ?_
        refine K_nm (fun v15 e15 => ?_)
        have r15 := kShr_R x3 x5
        rw [← e15] at r15
        refine K_iconst (pc := 16) (i := 10) rfl ?_
        refine K_iand (pc := 17) (i := 11) rfl ?_
        refine K_nm (fun v17 e17 => ?_)
        have r17 := kAnd_1 v15
        rw [← e17] at r17
        have t17 : v17 = if tb x3 x5 then 1 else 0 := by rw [e17, e15]; exact kbit (by omega)
        refine K_iconst (pc := 18) (i := 12) rfl ?_
        first | refine K_icmp_ne 47 (pc := 19) (i := 13) rfl rfl (by omega) (by omega) (fun b19 => ?_) (fun b19 => ?_) | refine K_icmp_ne_an 47 (pc := 19) (i := 13) rfl rfl (fun b19 => ?_) (fun b19 => ?_)
        · skip
          refine K_iconst (pc := 47) (i := 32) rfl ?_
          refine K_ist (pc := 48) (i := 33) (lo' := [(0, _), (1, _), (2, _), (3, _), (4, _), (5, _), (6, _)]) rfl rfl rfl rfl ?_
          have L50 : ∀ (n : Nat) (x6 : Int) (hb : kH), (5 - x6).toNat < n → (Gd g hb) → (Fx (fun c i => (c = 187 ∧ 40 ≤ i) ∨ c = 192) h hb) → ((0 ≤ x6 ∧ x6 ≤ 5) ∧ LVKi (kap h x1.toNat) (kap hb x1.toNat) (pB x3) x5.toNat x6.toNat ∧ hb 192 = ha 192) → K X_Model_leave G (kZm G 1 (kQi (fun z h' => Fx (fun c i => (c = 187 ∧ 40 ≤ i) ∨ c = 192) h h' ∧ (Gd g h' ∧ (0 ≤ z ∧ z ≤ x2) ∧ z = kc (pB x3) x2.toNat ∧ THK (kap h x1.toNat) (kap h' x1.toNat) (pB x3) x2 ∧ GN (h 192) (h' 192) x3 (fun i => kap h x1.toNat (5 * i)) x2)))) 50 [(0, .ref (G.2.2.2 184)), (1, kI x1), (2, kI x2), (3, kI x3), (4, kI x4), (5, kI x5), (6, kI x6)] [] hb := by
            intro n
            induction n with
            | zero => intro x6 hb hm; exact absurd hm (Nat.not_lt_zero _)
            | succ n ih50 =>
              intro x6 hb hm50 hI fx hV50
              refine K_iload (pc := 50) (i := 34) rfl rfl ?_
              refine K_iconst (pc := 52) (i := 35) rfl ?_
              first | refine K_icmp_ge 90 (pc := 53) (i := 36) rfl rfl (by omega) (by omega) (fun b53 => ?_) (fun b53 => ?_) | refine K_icmp_ge_an 90 (pc := 53) (i := 36) rfl rfl (fun b53 => ?_) (fun b53 => ?_)
              · skip
                have lv90 : LVK (kap h x1.toNat) (kap hb x1.toNat) (pB x3) (x5 + 1).toNat := by have q := hV50.2.1; rw [show x6.toNat = 5 by omega] at q; rw [show (x5 + 1).toNat = x5.toNat + 1 by omega]; exact q.end
                have kc90 : x4 + 1 = kc (pB x3) (x5 + 1).toNat := by rw [show (x5 + 1).toNat = x5.toNat + 1 by omega, kc, pB_t (by omega) t17 (by omega)]; simp; omega
                have gn90 : GN (h 192) (hb 192) x3 (fun i => kap h x1.toNat (5 * i)) (x5 + 1) := by rw [hV50.2.2]; exact hV6.2.2.2.no (by omega) (tbf t17 (by omega))
                refine K_inc (pc := 90) (i := 59) (q := 4) (lo' := [(0, _), (1, _), (2, _), (3, _), (4, _), (5, _), (6, _)]) rfl rfl rfl rfl rfl ?_
                refine K_inc (pc := 93) (i := 60) (q := 5) (lo' := [(0, _), (1, _), (2, _), (3, _), (4, _), (5, _), (6, _)]) rfl rfl rfl rfl rfl ?_
                refine K_goto 6 (pc := 96) (i := 61) rfl rfl ?_
                refine K_drop (lo' := [(0, .ref (G.2.2.2 184)), (1, kI x1), (2, kI x2), (3, kI x3), (4, kI (x4 + 1)), (5, kI (x5 + 1))]) [0, 1, 2, 3, 4, 5] rfl ?_
                exact ih6 (x4 + 1) (x5 + 1) _ (by omega) hI fx (by first | exact ⟨by omega, kc43, lv43, gn43⟩ | exact ⟨by omega, kc90, lv90, gn90⟩)
              · skip
                refine K_aload_n (pc := 56) (i := 37) rfl rfl ?_
                refine K_getR (pc := 57) (i := 38) (j := 3) (d := 187) rfl S_184 rfl (by decide) rfl fw_Model_16 ?_
                refine K_iload_n (pc := 60) (i := 39) rfl rfl ?_
                refine K_iconst (pc := 61) (i := 40) rfl ?_
                refine K_iload (pc := 62) (i := 41) rfl rfl ?_
                refine K_imul (pc := 64) (i := 42) rfl ?_
                refine K_iadd (pc := 65) (i := 43) rfl ?_
                refine K_iload (pc := 66) (i := 44) rfl rfl ?_
                refine K_iadd (pc := 68) (i := 45) rfl ?_
                refine K_aload_n (pc := 69) (i := 46) rfl rfl ?_
                refine K_getR (pc := 70) (i := 47) (j := 3) (d := 187) rfl S_184 rfl (by decide) rfl fw_Model_16 ?_
                refine K_iload_n (pc := 73) (i := 48) rfl rfl ?_
                refine K_iconst (pc := 74) (i := 49) rfl ?_
                refine K_iload (pc := 75) (i := 50) rfl rfl ?_
                refine K_imul (pc := 77) (i := 51) rfl ?_
                refine K_iadd (pc := 78) (i := 52) rfl ?_
                refine K_iload (pc := 79) (i := 53) rfl rfl ?_
                refine K_iadd (pc := 81) (i := 54) rfl ?_
                refine K_iald (pc := 82) (i := 55) rfl S_187 (by omega) (by omega) (by decide) ?_
                refine K_nm (fun v82 e82 => ?_)
                have r82 := rd_mkites hI ((x1 + (5 * x5)) + x6).toNat
                rw [← e82] at r82
                have w82 : kap hb x1.toNat (5 * x5.toNat + x6.toNat) = v82 := by rw [e82]; unfold kap; congr 1; omega
                refine K_iast (pc := 83) (i := 56) rfl S_187 (by omega) (by omega) (by decide) ?_
                have hI := st_mkites hI (i := ((x1 + (5 * x4)) + x6).toNat) (v := v82) (bK_of r82 (m5 (by omega) hV6.1.1 (by omega) hV50.1.1)) (fun _ a => a.hi (rd_many hI).2 (hi40 s1 hV6.1.1 hV50.1.1))
                have fx := Fx.st (c := 187) (i := ((x1 + (5 * x4)) + x6).toNat) (v := v82) fx (Or.inl ⟨rfl, hi40 s1 hV6.1.1 hV50.1.1⟩)
                have li83 := LVKi.st (i := ((x1 + (5 * x4)) + x6).toNat) (v := v82) hV50.2.1 (by omega) (by omega) (by rw [← w82])
                rw [show x6.toNat + 1 = (x6 + 1).toNat by omega] at li83
                refine K_inc (pc := 84) (i := 57) (q := 6) (lo' := [(0, _), (1, _), (2, _), (3, _), (4, _), (5, _), (6, _)]) rfl rfl rfl rfl rfl ?_
                refine K_goto 50 (pc := 87) (i := 58) rfl rfl ?_
                exact ih50 (x6 + 1) _ (by omega) hI fx ⟨by omega, li83, (kU_c _ _ _ _ (by decide)).trans hV50.2.2⟩
          exact L50 _ 0 _ (Nat.lt_succ_self _) hI fx ⟨by omega, hV6.2.2.1.i, rfl⟩
        · skip
          refine K_aload_n (pc := 22) (i := 14) rfl rfl ?_
          refine K_getR (pc := 23) (i := 15) (j := 14) (d := 192) rfl S_184 rfl (by decide) rfl fw_Model_31 ?_
          refine K_iconst (pc := 26) (i := 16) rfl ?_
          refine K_aload_n (pc := 27) (i := 17) rfl rfl ?_
          refine K_getR (pc := 28) (i := 18) (j := 3) (d := 187) rfl S_184 rfl (by decide) rfl fw_Model_16 ?_
          refine K_iload_n (pc := 31) (i := 19) rfl rfl ?_
          refine K_iconst (pc := 32) (i := 20) rfl ?_
          refine K_iload (pc := 33) (i := 21) rfl rfl ?_
          refine K_imul (pc := 35) (i := 22) rfl ?_
          refine K_iadd (pc := 36) (i := 23) rfl ?_
          refine K_iald (pc := 37) (i := 24) rfl S_187 (by omega) (by omega) (by decide) ?_
          refine K_nm (fun v37 e37 => ?_)
          have r37 := (rd_mkites hI (x1 + (5 * x5)).toNat).1 (by omega)
          rw [← e37] at r37
          have w37 : kap ha x1.toNat (5 * x5.toNat) = v37 := by rw [e37]; unfold kap; congr 1; omega
          have y37 : kap h x1.toNat (5 * x5.toNat) = v37 := by rw [← w37]; exact (hV6.2.2.1.2 _ (by omega)).symm
          refine K_isub (pc := 38) (i := 25) rfl ?_
          refine K_dup2 (pc := 39) (i := 26) rfl rfl rfl ?_
          refine K_iald (pc := 40) (i := 27) rfl S_192 (by omega) (by omega) (by decide) ?_
          refine K_nm (fun v40 e40 => ?_)
          refine K_iconst (pc := 41) (i := 28) rfl ?_
          refine K_iadd (pc := 42) (i := 29) rfl ?_
          refine K_iast (pc := 43) (i := 30) rfl S_192 (by omega) (by omega) (by decide) ?_
          have hI := st_free (c := 192) hI (by decide +kernel) (by decide) (i := (1 - v37).toNat) (v := v40 + 1)
          have fx := Fx.st (c := 192) (i := (1 - v37).toNat) (v := v40 + 1) fx (Or.inr rfl)
          have gn43 := GN.yes (l := (1 - v37).toNat) (w := v40 + 1) hV6.2.2.2 (by omega) (tbx t17 (by omega)) (by rw [y37]; omega) e40 rfl
          have lv43 : LVK (kap h x1.toNat) (kap (kU ha 192 ((1 - v37).toNat) (v40 + 1)) x1.toNat) (pB x3) (x5 + 1).toNat := by rw [show (x5 + 1).toNat = x5.toNat + 1 by omega, kap_of (kU_c _ _ _ _ (by decide))]; exact hV6.2.2.1.no (pB_f (by omega) t17 (by omega))
          have kc43 : x4 = kc (pB x3) (x5 + 1).toNat := by rw [show (x5 + 1).toNat = x5.toNat + 1 by omega, kc, pB_f (by omega) t17 (by omega)]; simp; omega
          refine K_goto 93 (pc := 44) (i := 31) rfl rfl ?_
          refine K_inc (pc := 93) (i := 60) (q := 5) (lo' := [(0, _), (1, _), (2, _), (3, _), (4, _), (5, _)]) rfl rfl rfl rfl rfl ?_
          refine K_goto 6 (pc := 96) (i := 61) rfl rfl ?_
          exact ih6 x4 (x5 + 1) _ (by omega) hI fx (by first | exact ⟨by omega, kc43, lv43, gn43⟩ | exact ⟨by omega, kc90, lv90, gn90⟩)
  exact L6 _ 0 0 _ (Nat.lt_succ_self _) hI fx ⟨by omega, rfl, LVK.z, GN.z⟩
end
section
set_option maxHeartbeats 4000000 in
set_option maxRecDepth 100000 in
theorem c_Model_copy (G : kG) {g : kGh} {h : kH}  (hI : Gd g h) : Ctr G y_Model_copy X_Model_copy 1 [.ref (G.2.2.2 184)] h (kQv (fun h' => Fx (fun c i => (c = 187 ∧ 40 ≤ i)) h h' ∧ (Gd g h' ∧ ∀ j : Nat, j < 40 → h' 187 (40 + j) = h 187 j))) := by
  refine Ctr.ofK (by decide) rfl T_Model_copy (Nat.le_of_ble_eq_true rfl) (lo := [(0, .ref (G.2.2.2 184))]) rfl ?_
  have fx : Fx (fun c i => (c = 187 ∧ 40 ≤ i)) h h := Fx.rf
  refine K_iconst (pc := 0) (i := 0) rfl ?_
  refine K_ist_n (pc := 1) (i := 1) (lo' := [(0, _), (1, _)]) rfl rfl rfl rfl ?_
  have L2 : ∀ (n : Nat) (x1 : Int) (ha : kH), (40 - x1).toNat < n → (Gd g ha) → (Fx (fun c i => (c = 187 ∧ 40 ≤ i)) h ha) → ((0 ≤ x1 ∧ x1 ≤ 40) ∧ ∀ j : Nat, (j : Int) < x1 → ha 187 (40 + j) = h 187 j) → K X_Model_copy G (kZm G 1 (kQv (fun h' => Fx (fun c i => (c = 187 ∧ 40 ≤ i)) h h' ∧ (Gd g h' ∧ ∀ j : Nat, j < 40 → h' 187 (40 + j) = h 187 j)))) 2 [(0, .ref (G.2.2.2 184)), (1, kI x1)] [] ha := by
    intro n
    induction n with
    | zero => intro x1 ha hm; exact absurd hm (Nat.not_lt_zero _)
    | succ n ih2 =>
      intro x1 ha hm2 hI fx hV2
      refine K_iload_n (pc := 2) (i := 2) rfl rfl ?_
      refine K_bipush (pc := 3) (i := 3) rfl rfl ?_
      first | refine K_icmp_ge 29 (pc := 5) (i := 4) rfl rfl (by omega) (by omega) (fun b5 => ?_) (fun b5 => ?_) | refine K_icmp_ge_an 29 (pc := 5) (i := 4) rfl rfl (fun b5 => ?_) (fun b5 => ?_)
      · skip
        exact K_retV (pc := 29) (i := 17) rfl rfl ⟨fx, ⟨hI, fun j hj => hV2.2 j (by omega)⟩⟩
      · skip
        refine K_aload_n (pc := 8) (i := 5) rfl rfl ?_
        refine K_getR (pc := 9) (i := 6) (j := 3) (d := 187) rfl S_184 rfl (by decide) rfl fw_Model_16 ?_
        refine K_bipush (pc := 12) (i := 7) rfl rfl ?_
        refine K_iload_n (pc := 14) (i := 8) rfl rfl ?_
        refine K_iadd (pc := 15) (i := 9) rfl ?_
        refine K_aload_n (pc := 16) (i := 10) rfl rfl ?_
        refine K_getR (pc := 17) (i := 11) (j := 3) (d := 187) rfl S_184 rfl (by decide) rfl fw_Model_16 ?_
        refine K_iload_n (pc := 20) (i := 12) rfl rfl ?_
        refine K_iald (pc := 21) (i := 13) rfl S_187 (by omega) (by omega) (by decide) ?_
        refine K_nm (fun v21 e21 => ?_)
        have r21 := rd_mkites hI (x1).toNat
        rw [← e21] at r21
        have t21 : v21 = h 187 x1.toNat := by rw [e21]; exact fx 187 x1.toNat (by first | (dsimp only; omega) | omega | exact not_false)
        refine K_iast (pc := 22) (i := 14) rfl S_187 (by omega) (by omega) (by decide) ?_
        have hI := st_mkites hI (i := (40 + x1).toNat) (v := v21) (bK_of r21 (by omega)) (fun _ a => a.hi (rd_many hI).2 (by omega))
        have fx := Fx.st (c := 187) (i := (40 + x1).toNat) (v := v21) fx (by first | (dsimp only; omega) | omega | exact not_false)
        have cp22 : ∀ j : Nat, (j : Int) < x1 + 1 → (kU ha 187 ((40 + x1).toNat) v21) 187 (40 + j) = h 187 j := fun j hj => by rw [kU_s]; by_cases q : j = x1.toNat; (rw [if_pos (by omega), t21, q]); (rw [if_neg (by omega)]; exact hV2.2 j (by omega))
        refine K_inc (pc := 23) (i := 15) (q := 1) (lo' := [(0, _), (1, _)]) rfl rfl rfl rfl rfl ?_
        refine K_goto 2 (pc := 26) (i := 16) rfl rfl ?_
        exact ih2 (x1 + 1) _ (by omega) hI fx ⟨by omega, cp22⟩
  exact L2 _ 0 _ (Nat.lt_succ_self _) hI fx ⟨by omega, fun j hj => absurd hj (by omega)⟩
set_option maxHeartbeats 4000000 in
set_option maxRecDepth 100000 in
theorem c_Model_blowAll (G : kG) {g : kGh} {h : kH} {x1 : Int} {x2 : Int} (s1 : 0 ≤ x1 ∧ x1 ≤ 8) (s2 : 0 ≤ x2 ∧ x2 ≤ 20) (hk : FK (kap h 40) x1) (hI : Gd g h) : Ctr G y_Model_blowAll X_Model_blowAll 4 [.ref (G.2.2.2 184), kI x1, kI x2] h (kQv (fun h' => Fx (fun c i => (c = 187 ∧ 40 ≤ i) ∨ c = 192) h h' ∧ (Gd g h' ∧ (∀ t : Nat, t < 2 → 0 ≤ h' 192 t ∧ h' 192 t ≤ 8 * x2) ∧ ∃ (k' : Nat → Int) (n' : Int), MTK (h 188) x2.toNat (kap h 40) x1 k' n' (h' 192)))) := by
  refine Ctr.ofK (by decide) rfl T_Model_blowAll (Nat.le_of_ble_eq_true rfl) (lo := [(0, .ref (G.2.2.2 184)), (1, kI x1), (2, kI x2)]) rfl ?_
  have fx : Fx (fun c i => (c = 187 ∧ 40 ≤ i) ∨ c = 192) h h := Fx.rf
  refine K_iload_n (pc := 0) (i := 0) rfl rfl ?_
  refine K_ist_n (pc := 1) (i := 1) (lo' := [(0, _), (1, _), (2, _), (3, _)]) rfl rfl rfl rfl ?_
  refine K_aload_n (pc := 2) (i := 2) rfl rfl ?_
  refine K_getR (pc := 3) (i := 3) (j := 14) (d := 192) rfl S_184 rfl (by decide) rfl fw_Model_31 ?_
  refine K_iconst (pc := 6) (i := 4) rfl ?_
  refine K_iconst (pc := 7) (i := 5) rfl ?_
  refine K_iast (pc := 8) (i := 6) rfl S_192 (by omega) (by omega) (by decide) ?_
  have hI := st_free (c := 192) hI (by decide +kernel) (by decide) (i := (0 : Int).toNat) (v := 0)
  have fx := Fx.st (c := 192) (i := (0 : Int).toNat) (v := 0) fx (by first | (dsimp only; omega) | omega | exact not_false)
  refine K_aload_n (pc := 9) (i := 7) rfl rfl ?_
  refine K_getR (pc := 10) (i := 8) (j := 14) (d := 192) rfl S_184 rfl (by decide) rfl fw_Model_31 ?_
  refine K_iconst (pc := 13) (i := 9) rfl ?_
  refine K_iconst (pc := 14) (i := 10) rfl ?_
  refine K_iast (pc := 15) (i := 11) rfl S_192 (by omega) (by omega) (by decide) ?_
  have hI := st_free (c := 192) hI (by decide +kernel) (by decide) (i := (1 : Int).toNat) (v := 0)
  have fx := Fx.st (c := 192) (i := (1 : Int).toNat) (v := 0) fx (by first | (dsimp only; omega) | omega | exact not_false)
  have kp15 : kap (kU (kU h 192 ((0 : Int).toNat) 0) 192 ((1 : Int).toNat) 0) 40 = kap h 40 := kap_of ((kU_c _ _ _ _ (by decide)).trans (kU_c _ _ _ _ (by decide)))
  have ga15 : ∀ t : Nat, t < 2 → (kU (kU h 192 ((0 : Int).toNat) 0) 192 ((1 : Int).toNat) 0) 192 t = 0 := fun t ht => by rcases (show t = 0 ∨ t = 1 by omega) with rfl | rfl <;> simp [kU]
  refine K_iconst (pc := 16) (i := 12) rfl ?_
  refine K_ist (pc := 17) (i := 13) (lo' := [(0, _), (1, _), (2, _), (3, _), (4, _)]) rfl rfl rfl rfl ?_
  have L19 : ∀ (n : Nat) (x3 : Int) (x4 : Int) (ha : kH), (20 - x4).toNat < n → (Gd g ha) → (Fx (fun c i => (c = 187 ∧ 40 ≤ i) ∨ c = 192) h ha) → ((0 ≤ x3 ∧ x3 ≤ 8) ∧ (0 ≤ x4 ∧ x4 ≤ x2) ∧ FK (kap ha 40) x3 ∧ MTK (h 188) x4.toNat (kap h 40) x1 (kap ha 40) x3 (ha 192)) → K X_Model_blowAll G (kZm G 4 (kQv (fun h' => Fx (fun c i => (c = 187 ∧ 40 ≤ i) ∨ c = 192) h h' ∧ (Gd g h' ∧ (∀ t : Nat, t < 2 → 0 ≤ h' 192 t ∧ h' 192 t ≤ 8 * x2) ∧ ∃ (k' : Nat → Int) (n' : Int), MTK (h 188) x2.toNat (kap h 40) x1 k' n' (h' 192))))) 19 [(0, .ref (G.2.2.2 184)), (1, kI x1), (2, kI x2), (3, kI x3), (4, kI x4)] [] ha := by
    intro n
    induction n with
    | zero => intro x3 x4 ha hm; exact absurd hm (Nat.not_lt_zero _)
    | succ n ih19 =>
      intro x3 x4 ha hm19 hI fx hV19
      refine K_iload (pc := 19) (i := 14) rfl rfl ?_
      refine K_iload_n (pc := 21) (i := 15) rfl rfl ?_
      first | refine K_icmp_ge 50 (pc := 22) (i := 16) rfl rfl (by omega) (by omega) (fun b22 => ?_) (fun b22 => ?_) | refine K_icmp_ge_an 50 (pc := 22) (i := 16) rfl rfl (fun b22 => ?_) (fun b22 => ?_)
      · skip
        exact K_retV (pc := 50) (i := 30) rfl rfl ⟨fx, ⟨hI, fun t ht => by have q := ((hV19.2.2.2).bd (by omega) (by omega)).2 t ht; omega, _, _, by have q := hV19.2.2.2; rwa [show x4 = x2 by omega] at q⟩⟩
      · skip
        refine K_aload_n (pc := 25) (i := 17) rfl rfl ?_
        refine K_bipush (pc := 26) (i := 18) rfl rfl ?_
        refine K_iload_n (pc := 28) (i := 19) rfl rfl ?_
        have fx0 := fx
        refine K_cVI (pc := 29) (i := 20) rfl (c_Model_blow40 G (x1 := 40) (x2 := x3) (hk := hV19.2.2.1) (hI := hI) (s1 := by omega) (s2 := by omega)) S_184 rfl (lv_Model_141 rfl) rfl rfl rfl rfl rfl (fun v29 h29 q29 => ?_)
        obtain ⟨fx29, q29⟩ := q29
        obtain ⟨hI, r29, bx29, ct29, fk29⟩ := q29
        have fx := fx.tr fx29 (fun c i q => (by first | (dsimp only at q ⊢; omega) | omega))
        refine K_ist (pc := 32) (i := 21) (lo' := [(0, _), (1, _), (2, _), (3, _), (4, _), (5, _)]) rfl rfl rfl rfl ?_
        refine K_aload_n (pc := 34) (i := 22) rfl rfl ?_
        refine K_bipush (pc := 35) (i := 23) rfl rfl ?_
        refine K_iload_n (pc := 37) (i := 24) rfl rfl ?_
        refine K_iload (pc := 38) (i := 25) rfl rfl ?_
        refine K_cVI (pc := 40) (i := 26) rfl (c_Model_leave40 G (x1 := 40) (x2 := x3) (x3 := v29) (hI := hI) (s1 := by omega) (s2 := by omega)) S_184 rfl (lv_Model_144 rfl) rfl rfl rfl rfl rfl (fun v40 h40 q40 => ?_)
        obtain ⟨fx40, q40⟩ := q40
        obtain ⟨hI, r40, kc40, th40, gn40⟩ := q40
        have fx := fx.tr fx40 (fun c i q => (by first | (dsimp only at q ⊢; omega) | omega))
        have w40 : ha 188 = h 188 := fx0.cell 188 (fun i => (by first | (dsimp only; omega) | omega | exact not_false))
        have mt40 := MTK.st (h1 := h29) (h2 := h40) (l := v40) hV19.2.2.2 w40 r29 bx29 ct29 fk29 (fx29.cell 192 (fun i => (by first | (dsimp only; omega) | omega | exact not_false))) kc40 th40 gn40
        have fk40 : FK (kap h40 40) v40 := by rw [kc40]; exact FK.thin fk29 th40 (by omega)
        rw [show x4.toNat + 1 = (x4 + 1).toNat by omega] at mt40
        refine K_ist_n (pc := 43) (i := 27) (lo' := [(0, _), (1, _), (2, _), (3, _), (4, _), (5, _)]) rfl rfl rfl rfl ?_
        refine K_inc (pc := 44) (i := 28) (q := 4) (lo' := [(0, _), (1, _), (2, _), (3, _), (4, _), (5, _)]) rfl rfl rfl rfl rfl ?_
        refine K_goto 19 (pc := 47) (i := 29) rfl rfl ?_
        refine K_drop (lo' := [(0, .ref (G.2.2.2 184)), (1, kI x1), (2, kI x2), (3, kI v40), (4, kI (x4 + 1))]) [0, 1, 2, 3, 4] rfl ?_
        exact ih19 v40 (x4 + 1) _ (by omega) hI fx ⟨by omega, by omega, fk40, mt40⟩
  exact L19 _ x1 0 _ (Nat.lt_succ_self _) hI fx ⟨by omega, by omega, by rw [kp15]; exact hk, kp15, rfl, ga15⟩
set_option maxHeartbeats 4000000 in
set_option maxRecDepth 100000 in
theorem c_Model_kitesOf (G : kG) {g : kGh} {h : kH} {x1 : Int} (s1 : kR x1) (hI : Gd g h) : Ctr G y_Model_kitesOf X_Model_kitesOf 1 [.ref (G.2.2.2 184), kI x1] h (kQi (fun z h' => h' = h ∧ (0 ≤ z ∧ z ≤ 8) ∧ z = cnt (fun i => h 187 (5 * i)) x1 (h 184 4).toNat)) := by
  refine Ctr.ofK (by decide) rfl T_Model_kitesOf (Nat.le_of_ble_eq_true rfl) (lo := [(0, .ref (G.2.2.2 184)), (1, kI x1)]) rfl ?_
  refine K_iconst (pc := 0) (i := 0) rfl ?_
  refine K_ist_n (pc := 1) (i := 1) (lo' := [(0, _), (1, _), (2, _)]) rfl rfl rfl rfl ?_
  refine K_iconst (pc := 2) (i := 2) rfl ?_
  refine K_ist_n (pc := 3) (i := 3) (lo' := [(0, _), (1, _), (2, _), (3, _)]) rfl rfl rfl rfl ?_
  have L4 : ∀ (n : Nat) (x2 : Int) (x3 : Int), (8 - x3).toNat < n → ((0 ≤ x2 ∧ x2 ≤ x3 ∧ x3 ≤ 8) ∧ x3 ≤ h 184 4 ∧ x2 = cnt (fun i => h 187 (5 * i)) x1 x3.toNat) → K X_Model_kitesOf G (kZm G 1 (kQi (fun z h' => h' = h ∧ (0 ≤ z ∧ z ≤ 8) ∧ z = cnt (fun i => h 187 (5 * i)) x1 (h 184 4).toNat))) 4 [(0, .ref (G.2.2.2 184)), (1, kI x1), (2, kI x2), (3, kI x3)] [] h := by
    intro n
    induction n with
    | zero => intro x2 x3 hm; exact absurd hm (Nat.not_lt_zero _)
    | succ n ih4 =>
      intro x2 x3 hm4 hV4
      refine K_iload_n (pc := 4) (i := 4) rfl rfl ?_
      refine K_aload_n (pc := 5) (i := 5) rfl rfl ?_
      refine K_getI (pc := 6) (i := 6) (j := 4) rfl S_184 rfl (by decide) rfl fw_Model_59 ?_
      refine K_nm (fun v6 e6 => ?_)
      have r6 := rd_many hI
      rw [← e6] at r6
      first | refine K_icmp_ge 38 (pc := 9) (i := 7) rfl rfl (by omega) (by omega) (fun b9 => ?_) (fun b9 => ?_) | refine K_icmp_ge_an 38 (pc := 9) (i := 7) rfl rfl (fun b9 => ?_) (fun b9 => ?_)
      · skip
        refine K_iload_n (pc := 38) (i := 24) rfl rfl ?_
        exact K_retI (pc := 39) (i := 25) rfl rfl ⟨rfl, by omega, by rw [show (h 184 4).toNat = x3.toNat by omega]; exact hV4.2.2⟩
      · skip
        refine K_iload_n (pc := 12) (i := 8) rfl rfl ?_
        refine K_aload_n (pc := 13) (i := 9) rfl rfl ?_
        refine K_getR (pc := 14) (i := 10) (j := 3) (d := 187) rfl S_184 rfl (by decide) rfl fw_Model_16 ?_
        refine K_iconst (pc := 17) (i := 11) rfl ?_
        refine K_iload_n (pc := 18) (i := 12) rfl rfl ?_
        refine K_imul (pc := 19) (i := 13) rfl ?_
        refine K_iald (pc := 20) (i := 14) rfl S_187 (by omega) (by omega) (by decide) ?_
        refine K_nm (fun v20 e20 => ?_)
        have r20 := (rd_mkites hI (5 * x3).toNat).1 (by omega)
        rw [← e20] at r20
        have w20 : h 187 (5 * x3.toNat) = v20 := by rw [e20]; congr 1; omega
        refine K_iload_n (pc := 21) (i := 15) rfl rfl ?_
        first | refine K_icmp_ne 29 (pc := 22) (i := 16) rfl rfl (by omega) (by omega) (fun b22 => ?_) (fun b22 => ?_) | refine K_icmp_ne_an 29 (pc := 22) (i := 16) rfl rfl (fun b22 => ?_) (fun b22 => ?_)
        · skip
          refine K_iconst (pc := 29) (i := 19) rfl ?_
          refine K_iadd (pc := 30) (i := 20) rfl ?_
          have c30 : ∀ w : Int, (w = x2 + 1 ∧ v20 = x1) ∨ (w = x2 + 0 ∧ v20 ≠ x1) → w = cnt (fun i => h 187 (5 * i)) x1 (x3 + 1).toNat := fun w q => by rw [show (x3 + 1).toNat = x3.toNat + 1 by omega, cnt, w20]; split <;> omega
          refine K_ist_n (pc := 31) (i := 21) (lo' := [(0, _), (1, _), (2, _), (3, _)]) rfl rfl rfl rfl ?_
          refine K_inc (pc := 32) (i := 22) (q := 3) (lo' := [(0, _), (1, _), (2, _), (3, _)]) rfl rfl rfl rfl rfl ?_
          refine K_goto 4 (pc := 35) (i := 23) rfl rfl ?_
          exact ih4 (x2 + 0) (x3 + 1) (by omega) ⟨by omega, by omega, c30 _ (by omega)⟩
        · skip
          refine K_iconst (pc := 25) (i := 17) rfl ?_
          refine K_goto 30 (pc := 26) (i := 18) rfl rfl ?_
          refine K_iadd (pc := 30) (i := 20) rfl ?_
          have c30 : ∀ w : Int, (w = x2 + 1 ∧ v20 = x1) ∨ (w = x2 + 0 ∧ v20 ≠ x1) → w = cnt (fun i => h 187 (5 * i)) x1 (x3 + 1).toNat := fun w q => by rw [show (x3 + 1).toNat = x3.toNat + 1 by omega, cnt, w20]; split <;> omega
          refine K_ist_n (pc := 31) (i := 21) (lo' := [(0, _), (1, _), (2, _), (3, _)]) rfl rfl rfl rfl ?_
          refine K_inc (pc := 32) (i := 22) (q := 3) (lo' := [(0, _), (1, _), (2, _), (3, _)]) rfl rfl rfl rfl rfl ?_
          refine K_goto 4 (pc := 35) (i := 23) rfl rfl ?_
          exact ih4 (x2 + 1) (x3 + 1) (by omega) ⟨by omega, by omega, c30 _ (by omega)⟩
  exact L4 _ 0 0 (Nat.lt_succ_self _) ⟨by omega, by have := rd_many hI; omega, rfl⟩
/-- powers of three -/
def p3 : Nat → Int
  | 0 => 1
  | n + 1 => 3 * p3 n
theorem p3_0 : p3 0 = 1 := rfl
theorem p3_bd : ∀ n, n < 9 → 1 ≤ p3 n ∧ p3 n ≤ 6561 := by decide
set_option maxHeartbeats 4000000 in
set_option maxRecDepth 100000 in
theorem c_Model_threeTo (G : kG)  {h : kH} {x0 : Int} (s0 : 0 ≤ x0 ∧ x0 ≤ 8) : Ctr G y_Model_threeTo X_Model_threeTo 1 [kI x0] h (kQi (fun z h' => h' = h ∧ (1 ≤ z ∧ z ≤ 6561) ∧ z = p3 x0.toNat)) := by
  refine Ctr.ofK (by decide) rfl T_Model_threeTo (Nat.le_of_ble_eq_true rfl) (lo := [(0, kI x0)]) rfl ?_
  refine K_iconst (pc := 0) (i := 0) rfl ?_
  refine K_ist_n (pc := 1) (i := 1) (lo' := [(0, _), (1, _)]) rfl rfl rfl rfl ?_
  refine K_iconst (pc := 2) (i := 2) rfl ?_
  refine K_ist_n (pc := 3) (i := 3) (lo' := [(0, _), (1, _), (2, _)]) rfl rfl rfl rfl ?_
  have L4 : ∀ (n : Nat) (x1 : Int) (x2 : Int), (8 - x2).toNat < n → ((0 ≤ x2 ∧ x2 ≤ x0) ∧ x1 = p3 x2.toNat) → K X_Model_threeTo G (kZm G 1 (kQi (fun z h' => h' = h ∧ (1 ≤ z ∧ z ≤ 6561) ∧ z = p3 x0.toNat))) 4 [(0, kI x0), (1, kI x1), (2, kI x2)] [] h := by
    intro n
    induction n with
    | zero => intro x1 x2 hm; exact absurd hm (Nat.not_lt_zero _)
    | succ n ih4 =>
      intro x1 x2 hm4 hV4
      have pb := p3_bd x2.toNat (by omega)
      rw [← hV4.2] at pb
      refine K_iload_n (pc := 4) (i := 4) rfl rfl ?_
      refine K_iload_n (pc := 5) (i := 5) rfl rfl ?_
      first | refine K_icmp_ge 19 (pc := 6) (i := 6) rfl rfl (by omega) (by omega) (fun b6 => ?_) (fun b6 => ?_) | refine K_icmp_ge_an 19 (pc := 6) (i := 6) rfl rfl (fun b6 => ?_) (fun b6 => ?_)
      · skip
        refine K_iload_n (pc := 19) (i := 13) rfl rfl ?_
        exact K_retI (pc := 20) (i := 14) rfl rfl ⟨rfl, by omega, by rw [show x0 = x2 by omega]; exact hV4.2⟩
      · skip
        refine K_iload_n (pc := 9) (i := 7) rfl rfl ?_
        refine K_iconst (pc := 10) (i := 8) rfl ?_
        refine K_imul (pc := 11) (i := 9) rfl ?_
        refine K_ist_n (pc := 12) (i := 10) (lo' := [(0, _), (1, _), (2, _)]) rfl rfl rfl rfl ?_
        refine K_inc (pc := 13) (i := 11) (q := 2) (lo' := [(0, _), (1, _), (2, _)]) rfl rfl rfl rfl rfl ?_
        refine K_goto 4 (pc := 16) (i := 12) rfl rfl ?_
        exact ih4 (x1 * 3) (x2 + 1) (by omega) ⟨by omega, by rw [show (x2 + 1).toNat = x2.toNat + 1 by omega, p3, ← hV4.2]; omega⟩
  exact L4 _ 1 0 (Nat.lt_succ_self _) ⟨by omega, rfl⟩
theorem FK.kH {h : kH} {o i : Nat} {n v : Int} (a : FK (kap h o) n) (q : Nat) (hi : i = o + (5 * q + 3)) (hv : 1 ≤ v ∧ v ≤ 9) : FK (kap (kU h 187 i v) o) n := by
  subst hi
  rw [kap_uf]
  exact a.setH q rfl hv
set_option maxHeartbeats 4000000 in
set_option maxRecDepth 100000 in
theorem c_Model_layPlan (G : kG) {g : kGh} {h : kH} {x1 : Int} {x2 : Int} (s2 : kR x2) {n0 : Int} (hk : FK (kap h 40) n0) (hI : Gd g h) : Ctr G y_Model_layPlan X_Model_layPlan 1 [.ref (G.2.2.2 184), kI x1, kI x2] h (kQv (fun h' => Fx (fun c i => (c = 187 ∧ 40 ≤ i)) h h' ∧ (Gd g h' ∧ FK (kap h' 40) n0))) := by
  refine Ctr.ofK (by decide) rfl T_Model_layPlan (Nat.le_of_ble_eq_true rfl) (lo := [(0, .ref (G.2.2.2 184)), (1, kI x1), (2, kI x2)]) rfl ?_
  have fx : Fx (fun c i => (c = 187 ∧ 40 ≤ i)) h h := Fx.rf
  refine K_iload_n (pc := 0) (i := 0) rfl rfl ?_
  refine K_ist_n (pc := 1) (i := 1) (lo' := [(0, _), (1, _), (2, _), (3, _)]) rfl rfl rfl rfl ?_
  refine K_aload_n (pc := 2) (i := 2) rfl rfl ?_
  refine K_getI (pc := 3) (i := 3) (j := 4) rfl S_184 rfl (by decide) rfl fw_Model_59 ?_
  refine K_nm (fun v3 e3 => ?_)
  have r3 := rd_many hI
  rw [← e3] at r3
  refine K_iconst (pc := 6) (i := 4) rfl ?_
  refine K_isub (pc := 7) (i := 5) rfl ?_
  refine K_ist (pc := 8) (i := 6) (lo' := [(0, _), (1, _), (2, _), (3, _), (4, _)]) rfl rfl rfl rfl ?_
  have L10 : ∀ (n : Nat) (x3 : Int) (x4 : Int) (ha : kH), (x4 + 1).toNat < n → (Gd g ha) → (Fx (fun c i => (c = 187 ∧ 40 ≤ i)) h ha) → ((-1 ≤ x4 ∧ x4 ≤ 7) ∧ kR x3 ∧ FK (kap ha 40) n0) → K X_Model_layPlan G (kZm G 1 (kQv (fun h' => Fx (fun c i => (c = 187 ∧ 40 ≤ i)) h h' ∧ (Gd g h' ∧ FK (kap h' 40) n0)))) 10 [(0, .ref (G.2.2.2 184)), (1, kI x1), (2, kI x2), (3, kI x3), (4, kI x4)] [] ha := by
    intro n
    induction n with
    | zero => intro x3 x4 ha hm; exact absurd hm (Nat.not_lt_zero _)
    | succ n ih10 =>
      intro x3 x4 ha hm10 hI fx hV10
      refine K_iload (pc := 10) (i := 7) rfl rfl ?_
      first | refine K_if_lt 95 (pc := 12) (i := 8) rfl rfl (by omega) (fun b12 => ?_) (fun b12 => ?_) | refine K_if_lt_an 95 (pc := 12) (i := 8) rfl rfl (fun b12 => ?_) (fun b12 => ?_)
      · skip
        exact K_retV (pc := 95) (i := 59) rfl rfl ⟨fx, ⟨hI, hV10.2.2⟩⟩
      · skip
        refine K_aload_n (pc := 15) (i := 9) rfl rfl ?_
        refine K_getR (pc := 16) (i := 10) (j := 3) (d := 187) rfl S_184 rfl (by decide) rfl fw_Model_16 ?_
        refine K_iconst (pc := 19) (i := 11) rfl ?_
        refine K_iload (pc := 20) (i := 12) rfl rfl ?_
        refine K_imul (pc := 22) (i := 13) rfl ?_
        refine K_iald (pc := 23) (i := 14) rfl S_187 (by omega) (by omega) (by decide) ?_
        refine K_nm (fun v23 e23 => ?_)
        have r23 := (rd_mkites hI (5 * x4).toNat).1 (by omega)
        rw [← e23] at r23
        refine K_iload_n (pc := 24) (i := 15) rfl rfl ?_
        first | refine K_icmp_ne 89 (pc := 25) (i := 16) rfl rfl (by omega) (by omega) (fun b25 => ?_) (fun b25 => ?_) | refine K_icmp_ne_an 89 (pc := 25) (i := 16) rfl rfl (fun b25 => ?_) (fun b25 => ?_)
        · skip
          refine K_inc (pc := 89) (i := 57) (q := 4) (lo' := [(0, _), (1, _), (2, _), (3, _), (4, _)]) rfl rfl rfl rfl rfl ?_
          refine K_goto 10 (pc := 92) (i := 58) rfl rfl ?_
          exact ih10 x3 (x4 + (-1)) _ (by omega) hI fx (by first | exact ⟨by omega, by omega, fk84⟩ | exact ⟨by omega, by omega, hV10.2.2⟩)
        · skip
          refine K_aload_n (pc := 28) (i := 17) rfl rfl ?_
          refine K_getR (pc := 29) (i := 18) (j := 3) (d := 187) rfl S_184 rfl (by decide) rfl fw_Model_16 ?_
          refine K_iconst (pc := 32) (i := 19) rfl ?_
          refine K_iload (pc := 33) (i := 20) rfl rfl ?_
          refine K_imul (pc := 35) (i := 21) rfl ?_
          refine K_iconst (pc := 36) (i := 22) rfl ?_
          refine K_iadd (pc := 37) (i := 23) rfl ?_
          refine K_iald (pc := 38) (i := 24) rfl S_187 (by omega) (by omega) (by decide) ?_
          refine K_nm (fun v38 e38 => ?_)
          have r38 := (rd_mkites hI ((5 * x4) + 3).toNat).2.1 (by omega)
          rw [← e38] at r38
          refine K_iload_n (pc := 39) (i := 25) rfl rfl ?_
          refine K_iconst (pc := 40) (i := 26) rfl ?_
          refine K_irem (pc := 41) (i := 27) rfl (by omega) (by omega) ?_
          refine K_any (fun v41 r41 => ?_)
          refine K_iadd (pc := 42) (i := 28) rfl ?_
          refine K_iconst (pc := 43) (i := 29) rfl ?_
          refine K_isub (pc := 44) (i := 30) rfl ?_
          refine K_any (fun v44 r44 => ?_)
          refine K_ist (pc := 45) (i := 31) (lo' := [(0, _), (1, _), (2, _), (3, _), (4, _), (5, _)]) rfl rfl rfl rfl ?_
          refine K_aload_n (pc := 47) (i := 32) rfl rfl ?_
          refine K_getR (pc := 48) (i := 33) (j := 3) (d := 187) rfl S_184 rfl (by decide) rfl fw_Model_16 ?_
          refine K_bipush (pc := 51) (i := 34) rfl rfl ?_
          refine K_iconst (pc := 53) (i := 35) rfl ?_
          refine K_iload (pc := 54) (i := 36) rfl rfl ?_
          refine K_imul (pc := 56) (i := 37) rfl ?_
          refine K_iadd (pc := 57) (i := 38) rfl ?_
          refine K_iconst (pc := 58) (i := 39) rfl ?_
          refine K_iadd (pc := 59) (i := 40) rfl ?_
          refine K_iload (pc := 60) (i := 41) rfl rfl ?_
          refine K_iconst (pc := 62) (i := 42) rfl ?_
          first | refine K_icmp_ge 70 (pc := 63) (i := 43) rfl rfl (by omega) (by omega) (fun b63 => ?_) (fun b63 => ?_) | refine K_icmp_ge_an 70 (pc := 63) (i := 43) rfl rfl (fun b63 => ?_) (fun b63 => ?_)
          · skip
            refine K_iload (pc := 70) (i := 46) rfl rfl ?_
            refine K_bipush (pc := 72) (i := 47) rfl rfl ?_
            first | refine K_icmp_le 82 (pc := 74) (i := 48) rfl rfl (by omega) (by omega) (fun b74 => ?_) (fun b74 => ?_) | refine K_icmp_le_an 82 (pc := 74) (i := 48) rfl rfl (fun b74 => ?_) (fun b74 => ?_)
            · skip
              refine K_iload (pc := 82) (i := 51) rfl rfl ?_
              refine K_iast (pc := 84) (i := 52) rfl S_187 (by omega) (by omega) (by decide) ?_
              have hI := st_mkites hI (i := ((40 + (5 * x4)) + 3).toNat) (v := v44) (by unfold bK; omega) (fun _ a => a.hi (rd_many hI).2 (by omega))
              have fx := Fx.st (c := 187) (i := ((40 + (5 * x4)) + 3).toNat) (v := v44) fx (by first | (dsimp only; omega) | omega | exact not_false)
              have fk84 := FK.kH (o := 40) (i := ((40 + (5 * x4)) + 3).toNat) (v := v44) hV10.2.2 x4.toNat (by omega) (by omega)
              refine K_iload_n (pc := 85) (i := 53) rfl rfl ?_
              refine K_iconst (pc := 86) (i := 54) rfl ?_
              refine K_idiv (pc := 87) (i := 55) rfl (by omega) (by omega) ?_
              refine K_any (fun v87 r87 => ?_)
              refine K_ist_n (pc := 88) (i := 56) (lo' := [(0, _), (1, _), (2, _), (3, _), (4, _), (5, _)]) rfl rfl rfl rfl ?_
              refine K_inc (pc := 89) (i := 57) (q := 4) (lo' := [(0, _), (1, _), (2, _), (3, _), (4, _), (5, _)]) rfl rfl rfl rfl rfl ?_
              refine K_goto 10 (pc := 92) (i := 58) rfl rfl ?_
              refine K_drop (lo' := [(0, .ref (G.2.2.2 184)), (1, kI x1), (2, kI x2), (3, kI v87), (4, kI (x4 + (-1)))]) [0, 1, 2, 3, 4] rfl ?_
              exact ih10 v87 (x4 + (-1)) _ (by omega) hI fx (by first | exact ⟨by omega, by omega, fk84⟩ | exact ⟨by omega, by omega, hV10.2.2⟩)
            · skip
              refine K_bipush (pc := 77) (i := 49) rfl rfl ?_
              refine K_goto 84 (pc := 79) (i := 50) rfl rfl ?_
              refine K_iast (pc := 84) (i := 52) rfl S_187 (by omega) (by omega) (by decide) ?_
              have hI := st_mkites hI (i := ((40 + (5 * x4)) + 3).toNat) (v := 9) (by unfold bK; omega) (fun _ a => a.hi (rd_many hI).2 (by omega))
              have fx := Fx.st (c := 187) (i := ((40 + (5 * x4)) + 3).toNat) (v := 9) fx (by first | (dsimp only; omega) | omega | exact not_false)
              have fk84 := FK.kH (o := 40) (i := ((40 + (5 * x4)) + 3).toNat) (v := 9) hV10.2.2 x4.toNat (by omega) (by omega)
              refine K_iload_n (pc := 85) (i := 53) rfl rfl ?_
              refine K_iconst (pc := 86) (i := 54) rfl ?_
              refine K_idiv (pc := 87) (i := 55) rfl (by omega) (by omega) ?_
              refine K_any (fun v87 r87 => ?_)
              refine K_ist_n (pc := 88) (i := 56) (lo' := [(0, _), (1, _), (2, _), (3, _), (4, _), (5, _)]) rfl rfl rfl rfl ?_
              refine K_inc (pc := 89) (i := 57) (q := 4) (lo' := [(0, _), (1, _), (2, _), (3, _), (4, _), (5, _)]) rfl rfl rfl rfl rfl ?_
              refine K_goto 10 (pc := 92) (i := 58) rfl rfl ?_
              refine K_drop (lo' := [(0, .ref (G.2.2.2 184)), (1, kI x1), (2, kI x2), (3, kI v87), (4, kI (x4 + (-1)))]) [0, 1, 2, 3, 4] rfl ?_
              exact ih10 v87 (x4 + (-1)) _ (by omega) hI fx (by first | exact ⟨by omega, by omega, fk84⟩ | exact ⟨by omega, by omega, hV10.2.2⟩)
          · skip
            refine K_iconst (pc := 66) (i := 44) rfl ?_
            refine K_goto 84 (pc := 67) (i := 45) rfl rfl ?_
            refine K_iast (pc := 84) (i := 52) rfl S_187 (by omega) (by omega) (by decide) ?_
            have hI := st_mkites hI (i := ((40 + (5 * x4)) + 3).toNat) (v := 1) (by unfold bK; omega) (fun _ a => a.hi (rd_many hI).2 (by omega))
            have fx := Fx.st (c := 187) (i := ((40 + (5 * x4)) + 3).toNat) (v := 1) fx (by first | (dsimp only; omega) | omega | exact not_false)
            have fk84 := FK.kH (o := 40) (i := ((40 + (5 * x4)) + 3).toNat) (v := 1) hV10.2.2 x4.toNat (by omega) (by omega)
            refine K_iload_n (pc := 85) (i := 53) rfl rfl ?_
            refine K_iconst (pc := 86) (i := 54) rfl ?_
            refine K_idiv (pc := 87) (i := 55) rfl (by omega) (by omega) ?_
            refine K_any (fun v87 r87 => ?_)
            refine K_ist_n (pc := 88) (i := 56) (lo' := [(0, _), (1, _), (2, _), (3, _), (4, _), (5, _)]) rfl rfl rfl rfl ?_
            refine K_inc (pc := 89) (i := 57) (q := 4) (lo' := [(0, _), (1, _), (2, _), (3, _), (4, _), (5, _)]) rfl rfl rfl rfl rfl ?_
            refine K_goto 10 (pc := 92) (i := 58) rfl rfl ?_
            refine K_drop (lo' := [(0, .ref (G.2.2.2 184)), (1, kI x1), (2, kI x2), (3, kI v87), (4, kI (x4 + (-1)))]) [0, 1, 2, 3, 4] rfl ?_
            exact ih10 v87 (x4 + (-1)) _ (by omega) hI fx (by first | exact ⟨by omega, by omega, fk84⟩ | exact ⟨by omega, by omega, hV10.2.2⟩)
  exact L10 _ x2 (v3 - 1) _ (Nat.lt_succ_self _) hI fx ⟨by omega, by omega, hk⟩
end
section
set_option maxHeartbeats 4000000 in
set_option maxRecDepth 100000 in
theorem c_Model_layTonight (G : kG) {g : kGh} {h : kH}  (hT : g.2.2.2.2){x1 : Int} (s1 : 0 ≤ x1 ∧ x1 ≤ 1) (hI : Gd g h) : Ctr G y_Model_layTonight X_Model_layTonight 5 [.ref (G.2.2.2 184), kI x1] h (kQi (fun z h' => Fx (fun c i => (c = 187 ∧ 40 ≤ i) ∨ c = 192 ∨ (c = 184 ∧ i = 15)) h h' ∧ (Gd g h' ∧ kR z))) := by
  refine Ctr.ofK (by decide) rfl T_Model_layTonight (Nat.le_of_ble_eq_true rfl) (lo := [(0, .ref (G.2.2.2 184)), (1, kI x1)]) rfl ?_
  have fx : Fx (fun c i => (c = 187 ∧ 40 ≤ i) ∨ c = 192 ∨ (c = 184 ∧ i = 15)) h h := Fx.rf
  refine K_iconst (pc := 0) (i := 0) rfl ?_
  refine K_ist_n (pc := 1) (i := 1) (lo' := [(0, _), (1, _), (2, _)]) rfl rfl rfl rfl ?_
  refine K_aload_n (pc := 2) (i := 2) rfl rfl ?_
  refine K_bipush (pc := 3) (i := 3) rfl rfl ?_
  refine K_putI (pc := 5) (i := 4) (j := 15) rfl S_184 rfl (by decide) rfl rfl rfl fw_Model_172 ?_
  have hI := st_tonightMost hI (v := -99)
  have fx := Fx.st (c := 184) (i := 15) (v := -99) fx (by first | (dsimp only; omega) | omega | exact not_false)
  refine K_iconst (pc := 8) (i := 5) rfl ?_
  refine K_ist_n (pc := 9) (i := 6) (lo' := [(0, _), (1, _), (2, _), (3, _)]) rfl rfl rfl rfl ?_
  have L10 : ∀ (n : Nat) (x2 : Int) (x3 : Int) (ha : kH), (6561 - x3).toNat < n → (Gd g ha) → (Fx (fun c i => (c = 187 ∧ 40 ≤ i) ∨ c = 192 ∨ (c = 184 ∧ i = 15)) h ha) → (0 ≤ x3 ∧ x3 ≤ 6561) → K X_Model_layTonight G (kZm G 5 (kQi (fun z h' => Fx (fun c i => (c = 187 ∧ 40 ≤ i) ∨ c = 192 ∨ (c = 184 ∧ i = 15)) h h' ∧ (Gd g h' ∧ kR z)))) 10 [(0, .ref (G.2.2.2 184)), (1, kI x1), (2, kI x2), (3, kI x3)] [] ha := by
    intro n
    induction n with
    | zero => intro x2 x3 ha hm; exact absurd hm (Nat.not_lt_zero _)
    | succ n ih10 =>
      intro x2 x3 ha hm10 hI fx hV10
      refine K_iload_n (pc := 10) (i := 7) rfl rfl ?_
      refine K_aload_n (pc := 11) (i := 8) rfl rfl ?_
      refine K_iload_n (pc := 12) (i := 9) rfl rfl ?_
      refine K_cVI (pc := 13) (i := 10) rfl (c_Model_kitesOf G (x1 := x1) (hI := hI) (s1 := by omega)) S_184 rfl (lv_Model_175 rfl) rfl rfl rfl rfl rfl (fun v13 h13 q13 => ?_)
      obtain ⟨eh, r13⟩ := q13
      rw [eh]; clear eh
      refine K_cSI (pc := 16) (i := 11) rfl (c_Model_threeTo G (x0 := v13) (s0 := by omega)) (ls_Model_178 rfl) rfl rfl rfl rfl (fun v16 h16 q16 => ?_)
      obtain ⟨eh, r16⟩ := q16
      rw [eh]; clear eh
      first | refine K_icmp_ge 101 (pc := 19) (i := 12) rfl rfl (by omega) (by omega) (fun b19 => ?_) (fun b19 => ?_) | refine K_icmp_ge_an 101 (pc := 19) (i := 12) rfl rfl (fun b19 => ?_) (fun b19 => ?_)
      · skip
        refine K_iload_n (pc := 101) (i := 56) rfl rfl ?_
        refine K_any (fun v102 r102 => ?_)
        exact K_retI (pc := 102) (i := 57) rfl rfl ⟨fx, ⟨hI, by omega⟩⟩
      · skip
        have hJ := hI
        refine K_aload_n (pc := 22) (i := 13) rfl rfl ?_
        refine K_cVV (pc := 23) (i := 14) rfl (c_Model_copy G (hI := hI)) S_184 rfl (lv_Model_165 rfl) rfl rfl rfl rfl rfl (fun h23 q23 => ?_)
        obtain ⟨fx23, q23⟩ := q23
        obtain ⟨hI, cp23⟩ := q23
        have fx := fx.tr fx23 (fun c i q => (by first | (dsimp only at q ⊢; omega) | omega))
        have fk23 : FK (kap h23 40) (h23 184 4) := by rw [fx23 184 4 (by first | (dsimp only; omega) | omega | exact not_false)]; exact FK.copy (hJ.2.2.2.2.2 hT).1 (rd_many hJ).2 cp23
        refine K_aload_n (pc := 26) (i := 15) rfl rfl ?_
        refine K_iload_n (pc := 27) (i := 16) rfl rfl ?_
        refine K_iload_n (pc := 28) (i := 17) rfl rfl ?_
        refine K_cVV (pc := 29) (i := 18) rfl (c_Model_layPlan G (x1 := x1) (x2 := x3) (hk := fk23) (hI := hI) (s2 := by omega)) S_184 rfl (lv_Model_181 rfl) rfl rfl rfl rfl rfl (fun h29 q29 => ?_)
        obtain ⟨fx29, q29⟩ := q29
        obtain ⟨hI, fk29⟩ := q29
        have fx := fx.tr fx29 (fun c i q => (by first | (dsimp only at q ⊢; omega) | omega))
        refine K_aload_n (pc := 32) (i := 19) rfl rfl ?_
        refine K_aload_n (pc := 33) (i := 20) rfl rfl ?_
        refine K_getI (pc := 34) (i := 21) (j := 4) rfl S_184 rfl (by decide) rfl fw_Model_59 ?_
        refine K_nm (fun v34 e34 => ?_)
        have r34 := rd_many hI
        rw [← e34] at r34
        refine K_iconst (pc := 37) (i := 22) rfl ?_
        refine K_cVV (pc := 38) (i := 23) rfl (c_Model_blowAll G (x1 := v34) (x2 := 1) (hk := by rw [e34, fx29 184 4 (by first | (dsimp only; omega) | omega | exact not_false)]; exact fk29) (hI := hI) (s1 := by omega) (s2 := by omega)) S_184 rfl (lv_Model_168 rfl) rfl rfl rfl rfl rfl (fun h38 q38 => ?_)
        obtain ⟨fx38, q38⟩ := q38
        obtain ⟨hI, ga38, mt38⟩ := q38
        have fx := fx.tr fx38 (fun c i q => (by first | (dsimp only at q ⊢; omega) | omega))
        refine K_aload_n (pc := 41) (i := 24) rfl rfl ?_
        refine K_getR (pc := 42) (i := 25) (j := 14) (d := 192) rfl S_184 rfl (by decide) rfl fw_Model_31 ?_
        refine K_iload_n (pc := 45) (i := 26) rfl rfl ?_
        refine K_iald (pc := 46) (i := 27) rfl S_192 (by omega) (by omega) (by decide) ?_
        refine K_nm (fun v46 e46 => ?_)
        have u46 := ga38 (x1).toNat (by omega)
        rw [← e46] at u46
        refine K_aload_n (pc := 47) (i := 28) rfl rfl ?_
        refine K_getR (pc := 48) (i := 29) (j := 14) (d := 192) rfl S_184 rfl (by decide) rfl fw_Model_31 ?_
        refine K_iconst (pc := 51) (i := 30) rfl ?_
        refine K_iload_n (pc := 52) (i := 31) rfl rfl ?_
        refine K_isub (pc := 53) (i := 32) rfl ?_
        refine K_iald (pc := 54) (i := 33) rfl S_192 (by omega) (by omega) (by decide) ?_
        refine K_nm (fun v54 e54 => ?_)
        have u54 := ga38 (1 - x1).toNat (by omega)
        rw [← e54] at u54
        refine K_isub (pc := 55) (i := 34) rfl ?_
        refine K_ist (pc := 56) (i := 35) (lo' := [(0, _), (1, _), (2, _), (3, _), (4, _)]) rfl rfl rfl rfl ?_
        refine K_iload (pc := 58) (i := 36) rfl rfl ?_
        refine K_aload_n (pc := 60) (i := 37) rfl rfl ?_
        refine K_getI (pc := 61) (i := 38) (j := 15) rfl S_184 rfl (by decide) rfl fw_Model_172 ?_
        refine K_any (fun v61 r61 => ?_)
        first | refine K_icmp_le 71 (pc := 64) (i := 39) rfl rfl (by omega) (by omega) (fun b64 => ?_) (fun b64 => ?_) | refine K_icmp_le_an 71 (pc := 64) (i := 39) rfl rfl (fun b64 => ?_) (fun b64 => ?_)
        · skip
          refine K_iload_n (pc := 71) (i := 42) rfl rfl ?_
          refine K_ist_n (pc := 72) (i := 43) (lo' := [(0, _), (1, _), (2, _), (3, _), (4, _)]) rfl rfl rfl rfl ?_
          refine K_aload_n (pc := 73) (i := 44) rfl rfl ?_
          refine K_iload (pc := 74) (i := 45) rfl rfl ?_
          refine K_aload_n (pc := 76) (i := 46) rfl rfl ?_
          refine K_getI (pc := 77) (i := 47) (j := 15) rfl S_184 rfl (by decide) rfl fw_Model_172 ?_
          refine K_any (fun v77 r77 => ?_)
          first | refine K_icmp_le 88 (pc := 80) (i := 48) rfl rfl (by omega) (by omega) (fun b80 => ?_) (fun b80 => ?_) | refine K_icmp_le_an 88 (pc := 80) (i := 48) rfl rfl (fun b80 => ?_) (fun b80 => ?_)
          · skip
            refine K_aload_n (pc := 88) (i := 51) rfl rfl ?_
            refine K_getI (pc := 89) (i := 52) (j := 15) rfl S_184 rfl (by decide) rfl fw_Model_172 ?_
            refine K_any (fun v89 r89 => ?_)
            refine K_putI (pc := 92) (i := 53) (j := 15) rfl S_184 rfl (by decide) rfl rfl rfl fw_Model_172 ?_
            have hI := st_tonightMost hI (v := v89)
            have fx := Fx.st (c := 184) (i := 15) (v := v89) fx (by first | (dsimp only; omega) | omega | exact not_false)
            refine K_inc (pc := 95) (i := 54) (q := 3) (lo' := [(0, _), (1, _), (2, _), (3, _), (4, _)]) rfl rfl rfl rfl rfl ?_
            refine K_goto 10 (pc := 98) (i := 55) rfl rfl ?_
            refine K_drop (lo' := [(0, .ref (G.2.2.2 184)), (1, kI x1), (2, kI x2), (3, kI (x3 + 1))]) [0, 1, 2, 3] rfl ?_
            exact ih10 x2 (x3 + 1) _ (by omega) hI fx (by omega)
          · skip
            refine K_iload (pc := 83) (i := 49) rfl rfl ?_
            refine K_goto 92 (pc := 85) (i := 50) rfl rfl ?_
            refine K_putI (pc := 92) (i := 53) (j := 15) rfl S_184 rfl (by decide) rfl rfl rfl fw_Model_172 ?_
            have hI := st_tonightMost hI (v := v46 - v54)
            have fx := Fx.st (c := 184) (i := 15) (v := v46 - v54) fx (by first | (dsimp only; omega) | omega | exact not_false)
            refine K_inc (pc := 95) (i := 54) (q := 3) (lo' := [(0, _), (1, _), (2, _), (3, _), (4, _)]) rfl rfl rfl rfl rfl ?_
            refine K_goto 10 (pc := 98) (i := 55) rfl rfl ?_
            refine K_drop (lo' := [(0, .ref (G.2.2.2 184)), (1, kI x1), (2, kI x2), (3, kI (x3 + 1))]) [0, 1, 2, 3] rfl ?_
            exact ih10 x2 (x3 + 1) _ (by omega) hI fx (by omega)
        · skip
          refine K_iload_n (pc := 67) (i := 40) rfl rfl ?_
          refine K_goto 72 (pc := 68) (i := 41) rfl rfl ?_
          refine K_ist_n (pc := 72) (i := 43) (lo' := [(0, _), (1, _), (2, _), (3, _), (4, _)]) rfl rfl rfl rfl ?_
          refine K_aload_n (pc := 73) (i := 44) rfl rfl ?_
          refine K_iload (pc := 74) (i := 45) rfl rfl ?_
          refine K_aload_n (pc := 76) (i := 46) rfl rfl ?_
          refine K_getI (pc := 77) (i := 47) (j := 15) rfl S_184 rfl (by decide) rfl fw_Model_172 ?_
          refine K_any (fun v77 r77 => ?_)
          first | refine K_icmp_le 88 (pc := 80) (i := 48) rfl rfl (by omega) (by omega) (fun b80 => ?_) (fun b80 => ?_) | refine K_icmp_le_an 88 (pc := 80) (i := 48) rfl rfl (fun b80 => ?_) (fun b80 => ?_)
          · skip
            refine K_aload_n (pc := 88) (i := 51) rfl rfl ?_
            refine K_getI (pc := 89) (i := 52) (j := 15) rfl S_184 rfl (by decide) rfl fw_Model_172 ?_
            refine K_any (fun v89 r89 => ?_)
            refine K_putI (pc := 92) (i := 53) (j := 15) rfl S_184 rfl (by decide) rfl rfl rfl fw_Model_172 ?_
            have hI := st_tonightMost hI (v := v89)
            have fx := Fx.st (c := 184) (i := 15) (v := v89) fx (by first | (dsimp only; omega) | omega | exact not_false)
            refine K_inc (pc := 95) (i := 54) (q := 3) (lo' := [(0, _), (1, _), (2, _), (3, _), (4, _)]) rfl rfl rfl rfl rfl ?_
            refine K_goto 10 (pc := 98) (i := 55) rfl rfl ?_
            refine K_drop (lo' := [(0, .ref (G.2.2.2 184)), (1, kI x1), (2, kI x3), (3, kI (x3 + 1))]) [0, 1, 2, 3] rfl ?_
            exact ih10 x3 (x3 + 1) _ (by omega) hI fx (by omega)
          · skip
            refine K_iload (pc := 83) (i := 49) rfl rfl ?_
            refine K_goto 92 (pc := 85) (i := 50) rfl rfl ?_
            refine K_putI (pc := 92) (i := 53) (j := 15) rfl S_184 rfl (by decide) rfl rfl rfl fw_Model_172 ?_
            have hI := st_tonightMost hI (v := v46 - v54)
            have fx := Fx.st (c := 184) (i := 15) (v := v46 - v54) fx (by first | (dsimp only; omega) | omega | exact not_false)
            refine K_inc (pc := 95) (i := 54) (q := 3) (lo' := [(0, _), (1, _), (2, _), (3, _), (4, _)]) rfl rfl rfl rfl rfl ?_
            refine K_goto 10 (pc := 98) (i := 55) rfl rfl ?_
            refine K_drop (lo' := [(0, .ref (G.2.2.2 184)), (1, kI x1), (2, kI x3), (3, kI (x3 + 1))]) [0, 1, 2, 3] rfl ?_
            exact ih10 x3 (x3 + 1) _ (by omega) hI fx (by omega)
  exact L10 _ 0 0 _ (Nat.lt_succ_self _) hI fx (by omega)
set_option maxHeartbeats 4000000 in
set_option maxRecDepth 100000 in
theorem c_Model_worst (G : kG) {g : kGh} {h : kH}  (hT : g.2.2.2.2){x1 : Int} {x2 : Int} (s1 : 0 ≤ x1 ∧ x1 ≤ 1) (s2 : kR x2) (hI : Gd g h) : Ctr G y_Model_worst X_Model_worst 5 [.ref (G.2.2.2 184), kI x1, kI x2] h (kQi (fun z h' => Fx (fun c i => (c = 187 ∧ 40 ≤ i) ∨ c = 192) h h' ∧ (Gd g h' ∧ kR z))) := by
  refine Ctr.ofK (by decide) rfl T_Model_worst (Nat.le_of_ble_eq_true rfl) (lo := [(0, .ref (G.2.2.2 184)), (1, kI x1), (2, kI x2)]) rfl ?_
  have fx : Fx (fun c i => (c = 187 ∧ 40 ≤ i) ∨ c = 192) h h := Fx.rf
  refine K_bipush (pc := 0) (i := 0) rfl rfl ?_
  refine K_ist_n (pc := 2) (i := 1) (lo' := [(0, _), (1, _), (2, _), (3, _)]) rfl rfl rfl rfl ?_
  refine K_iconst (pc := 3) (i := 2) rfl ?_
  refine K_ist (pc := 4) (i := 3) (lo' := [(0, _), (1, _), (2, _), (3, _), (4, _)]) rfl rfl rfl rfl ?_
  have L6 : ∀ (n : Nat) (x3 : Int) (x4 : Int) (ha : kH), (6561 - x4).toNat < n → (Gd g ha) → (Fx (fun c i => (c = 187 ∧ 40 ≤ i) ∨ c = 192) h ha) → (0 ≤ x4 ∧ x4 ≤ 6561) → K X_Model_worst G (kZm G 5 (kQi (fun z h' => Fx (fun c i => (c = 187 ∧ 40 ≤ i) ∨ c = 192) h h' ∧ (Gd g h' ∧ kR z)))) 6 [(0, .ref (G.2.2.2 184)), (1, kI x1), (2, kI x2), (3, kI x3), (4, kI x4)] [] ha := by
    intro n
    induction n with
    | zero => intro x3 x4 ha hm; exact absurd hm (Nat.not_lt_zero _)
    | succ n ih6 =>
      intro x3 x4 ha hm6 hI fx hV6
      refine K_iload (pc := 6) (i := 4) rfl rfl ?_
      refine K_aload_n (pc := 8) (i := 5) rfl rfl ?_
      refine K_iconst (pc := 9) (i := 6) rfl ?_
      refine K_iload_n (pc := 10) (i := 7) rfl rfl ?_
      refine K_isub (pc := 11) (i := 8) rfl ?_
      refine K_cVI (pc := 12) (i := 9) rfl (c_Model_kitesOf G (x1 := 1 - x1) (hI := hI) (s1 := by omega)) S_184 rfl (lv_Model_175 rfl) rfl rfl rfl rfl rfl (fun v12 h12 q12 => ?_)
      obtain ⟨eh, r12⟩ := q12
      rw [eh]; clear eh
      refine K_cSI (pc := 15) (i := 10) rfl (c_Model_threeTo G (x0 := v12) (s0 := by omega)) (ls_Model_178 rfl) rfl rfl rfl rfl (fun v15 h15 q15 => ?_)
      obtain ⟨eh, r15⟩ := q15
      rw [eh]; clear eh
      first | refine K_icmp_ge 85 (pc := 18) (i := 11) rfl rfl (by omega) (by omega) (fun b18 => ?_) (fun b18 => ?_) | refine K_icmp_ge_an 85 (pc := 18) (i := 11) rfl rfl (fun b18 => ?_) (fun b18 => ?_)
      · skip
        refine K_iload_n (pc := 85) (i := 50) rfl rfl ?_
        refine K_any (fun v86 r86 => ?_)
        exact K_retI (pc := 86) (i := 51) rfl rfl ⟨fx, ⟨hI, by omega⟩⟩
      · skip
        have hJ := hI
        refine K_aload_n (pc := 21) (i := 12) rfl rfl ?_
        refine K_cVV (pc := 22) (i := 13) rfl (c_Model_copy G (hI := hI)) S_184 rfl (lv_Model_165 rfl) rfl rfl rfl rfl rfl (fun h22 q22 => ?_)
        obtain ⟨fx22, q22⟩ := q22
        obtain ⟨hI, cp22⟩ := q22
        have fx := fx.tr fx22 (fun c i q => (by first | (dsimp only at q ⊢; omega) | omega))
        have fk22 : FK (kap h22 40) (h22 184 4) := by rw [fx22 184 4 (by first | (dsimp only; omega) | omega | exact not_false)]; exact FK.copy (hJ.2.2.2.2.2 hT).1 (rd_many hJ).2 cp22
        refine K_aload_n (pc := 25) (i := 14) rfl rfl ?_
        refine K_iload_n (pc := 26) (i := 15) rfl rfl ?_
        refine K_iload_n (pc := 27) (i := 16) rfl rfl ?_
        refine K_cVV (pc := 28) (i := 17) rfl (c_Model_layPlan G (x1 := x1) (x2 := x2) (hk := fk22) (hI := hI) (s2 := by omega)) S_184 rfl (lv_Model_181 rfl) rfl rfl rfl rfl rfl (fun h28 q28 => ?_)
        obtain ⟨fx28, q28⟩ := q28
        obtain ⟨hI, fk28⟩ := q28
        have fx := fx.tr fx28 (fun c i q => (by first | (dsimp only at q ⊢; omega) | omega))
        refine K_aload_n (pc := 31) (i := 18) rfl rfl ?_
        refine K_iconst (pc := 32) (i := 19) rfl ?_
        refine K_iload_n (pc := 33) (i := 20) rfl rfl ?_
        refine K_isub (pc := 34) (i := 21) rfl ?_
        refine K_iload (pc := 35) (i := 22) rfl rfl ?_
        refine K_cVV (pc := 37) (i := 23) rfl (c_Model_layPlan G (x1 := 1 - x1) (x2 := x4) (hk := fk28) (hI := hI) (s2 := by omega)) S_184 rfl (lv_Model_181 rfl) rfl rfl rfl rfl rfl (fun h37 q37 => ?_)
        obtain ⟨fx37, q37⟩ := q37
        obtain ⟨hI, fk37⟩ := q37
        have fx := fx.tr fx37 (fun c i q => (by first | (dsimp only at q ⊢; omega) | omega))
        refine K_aload_n (pc := 40) (i := 24) rfl rfl ?_
        refine K_aload_n (pc := 41) (i := 25) rfl rfl ?_
        refine K_getI (pc := 42) (i := 26) (j := 4) rfl S_184 rfl (by decide) rfl fw_Model_59 ?_
        refine K_nm (fun v42 e42 => ?_)
        have r42 := rd_many hI
        rw [← e42] at r42
        refine K_iconst (pc := 45) (i := 27) rfl ?_
        refine K_cVV (pc := 46) (i := 28) rfl (c_Model_blowAll G (x1 := v42) (x2 := 1) (hk := by rw [e42, fx37 184 4 (by first | (dsimp only; omega) | omega | exact not_false), fx28 184 4 (by first | (dsimp only; omega) | omega | exact not_false)]; exact fk37) (hI := hI) (s1 := by omega) (s2 := by omega)) S_184 rfl (lv_Model_168 rfl) rfl rfl rfl rfl rfl (fun h46 q46 => ?_)
        obtain ⟨fx46, q46⟩ := q46
        obtain ⟨hI, ga46, mt46⟩ := q46
        have fx := fx.tr fx46 (fun c i q => (by first | (dsimp only at q ⊢; omega) | omega))
        refine K_aload_n (pc := 49) (i := 29) rfl rfl ?_
        refine K_getR (pc := 50) (i := 30) (j := 14) (d := 192) rfl S_184 rfl (by decide) rfl fw_Model_31 ?_
        refine K_iload_n (pc := 53) (i := 31) rfl rfl ?_
        refine K_iald (pc := 54) (i := 32) rfl S_192 (by omega) (by omega) (by decide) ?_
        refine K_nm (fun v54 e54 => ?_)
        have u54 := ga46 (x1).toNat (by omega)
        rw [← e54] at u54
        refine K_aload_n (pc := 55) (i := 33) rfl rfl ?_
        refine K_getR (pc := 56) (i := 34) (j := 14) (d := 192) rfl S_184 rfl (by decide) rfl fw_Model_31 ?_
        refine K_iconst (pc := 59) (i := 35) rfl ?_
        refine K_iload_n (pc := 60) (i := 36) rfl rfl ?_
        refine K_isub (pc := 61) (i := 37) rfl ?_
        refine K_iald (pc := 62) (i := 38) rfl S_192 (by omega) (by omega) (by decide) ?_
        refine K_nm (fun v62 e62 => ?_)
        have u62 := ga46 (1 - x1).toNat (by omega)
        rw [← e62] at u62
        refine K_isub (pc := 63) (i := 39) rfl ?_
        refine K_ist (pc := 64) (i := 40) (lo' := [(0, _), (1, _), (2, _), (3, _), (4, _), (5, _)]) rfl rfl rfl rfl ?_
        refine K_iload (pc := 66) (i := 41) rfl rfl ?_
        refine K_iload_n (pc := 68) (i := 42) rfl rfl ?_
        first | refine K_icmp_ge 77 (pc := 69) (i := 43) rfl rfl (by omega) (by omega) (fun b69 => ?_) (fun b69 => ?_) | refine K_icmp_ge_an 77 (pc := 69) (i := 43) rfl rfl (fun b69 => ?_) (fun b69 => ?_)
        · skip
          refine K_iload_n (pc := 77) (i := 46) rfl rfl ?_
          refine K_ist_n (pc := 78) (i := 47) (lo' := [(0, _), (1, _), (2, _), (3, _), (4, _), (5, _)]) rfl rfl rfl rfl ?_
          refine K_inc (pc := 79) (i := 48) (q := 4) (lo' := [(0, _), (1, _), (2, _), (3, _), (4, _), (5, _)]) rfl rfl rfl rfl rfl ?_
          refine K_goto 6 (pc := 82) (i := 49) rfl rfl ?_
          refine K_drop (lo' := [(0, .ref (G.2.2.2 184)), (1, kI x1), (2, kI x2), (3, kI x3), (4, kI (x4 + 1))]) [0, 1, 2, 3, 4] rfl ?_
          exact ih6 x3 (x4 + 1) _ (by omega) hI fx (by omega)
        · skip
          refine K_iload (pc := 72) (i := 44) rfl rfl ?_
          refine K_goto 78 (pc := 74) (i := 45) rfl rfl ?_
          refine K_ist_n (pc := 78) (i := 47) (lo' := [(0, _), (1, _), (2, _), (3, _), (4, _), (5, _)]) rfl rfl rfl rfl ?_
          refine K_inc (pc := 79) (i := 48) (q := 4) (lo' := [(0, _), (1, _), (2, _), (3, _), (4, _), (5, _)]) rfl rfl rfl rfl rfl ?_
          refine K_goto 6 (pc := 82) (i := 49) rfl rfl ?_
          refine K_drop (lo' := [(0, .ref (G.2.2.2 184)), (1, kI x1), (2, kI x2), (3, kI (v54 - v62)), (4, kI (x4 + 1))]) [0, 1, 2, 3, 4] rfl ?_
          exact ih6 (v54 - v62) (x4 + 1) _ (by omega) hI fx (by omega)
  exact L6 _ 99 0 _ (Nat.lt_succ_self _) hI fx (by omega)
set_option maxHeartbeats 4000000 in
set_option maxRecDepth 100000 in
theorem c_Model_tonight (G : kG) {g : kGh} {h : kH}  (hT : g.2.2.2.2){x1 : Int} (s1 : kR x1) (hI : Gd g h) : Ctr G y_Model_tonight X_Model_tonight 13 [.ref (G.2.2.2 184), kI x1] h (kQi (fun z h' => Fx (fun c i => (c = 187 ∧ 40 ≤ i) ∨ c = 192 ∨ (c = 184 ∧ i = 15)) h h' ∧ (Gd g h' ∧ True))) := by
  refine Ctr.ofK (by decide) rfl T_Model_tonight (Nat.le_of_ble_eq_true rfl) (lo := [(0, .ref (G.2.2.2 184)), (1, kI x1)]) rfl ?_
  have fx : Fx (fun c i => (c = 187 ∧ 40 ≤ i) ∨ c = 192 ∨ (c = 184 ∧ i = 15)) h h := Fx.rf
  refine K_iload_n (pc := 0) (i := 0) rfl rfl ?_
  refine K_i2l (pc := 1) (i := 1) rfl ?_
  refine K_eqJ (kI2l_eq (a := x1) (by omega)) ?_
  refine K_lconst 0 (pc := 2) (i := 2) rfl rfl ?_
  refine K_lconst 1 (pc := 3) (i := 3) rfl rfl ?_
  refine K_cSI (pc := 4) (i := 4) rfl (c_Model_in G (l0 := x1) (l2 := 0) (l4 := 1) (s0 := by omega) (s2 := by omega) (s4 := by omega)) (ls_Model_65 rfl) rfl rfl rfl rfl (fun v4 h4 q4 => ?_)
  obtain ⟨eh, r4⟩ := q4
  rw [eh]; clear eh
  first | refine K_if_ne 13 (pc := 7) (i := 5) rfl rfl (by omega) (fun b7 => ?_) (fun b7 => ?_) | refine K_if_ne_an 13 (pc := 7) (i := 5) rfl rfl (fun b7 => ?_) (fun b7 => ?_)
  · skip
    refine K_aload_n (pc := 13) (i := 8) rfl rfl ?_
    refine K_iload_n (pc := 14) (i := 9) rfl rfl ?_
    refine K_cVI (pc := 15) (i := 10) rfl (c_Model_kitesOf G (x1 := x1) (hI := hI) (s1 := by omega)) S_184 rfl (lv_Model_175 rfl) rfl rfl rfl rfl rfl (fun v15 h15 q15 => ?_)
    obtain ⟨eh, r15⟩ := q15
    rw [eh]; clear eh
    refine K_iconst (pc := 18) (i := 11) rfl ?_
    first | refine K_icmp_le 25 (pc := 19) (i := 12) rfl rfl (by omega) (by omega) (fun b19 => ?_) (fun b19 => ?_) | refine K_icmp_le_an 25 (pc := 19) (i := 12) rfl rfl (fun b19 => ?_) (fun b19 => ?_)
    · skip
      refine K_aload_n (pc := 25) (i := 15) rfl rfl ?_
      refine K_iload_n (pc := 26) (i := 16) rfl rfl ?_
      refine K_cVI (pc := 27) (i := 17) rfl (c_Model_layTonight G (x1 := x1) (hT := hT) (hI := hI) (s1 := by omega)) S_184 rfl (lv_Model_184 rfl) rfl rfl rfl rfl rfl (fun v27 h27 q27 => ?_)
      obtain ⟨fx27, q27⟩ := q27
      obtain ⟨hI, r27⟩ := q27
      have fx := fx.tr fx27 (fun c i q => (by first | (dsimp only at q ⊢; omega) | omega))
      refine K_pop (pc := 30) (i := 18) rfl rfl ?_
      refine K_bipush (pc := 31) (i := 19) rfl rfl ?_
      refine K_aload_n (pc := 33) (i := 20) rfl rfl ?_
      refine K_getI (pc := 34) (i := 21) (j := 15) rfl S_184 rfl (by decide) rfl fw_Model_172 ?_
      refine K_any (fun v34 r34 => ?_)
      refine K_iadd (pc := 37) (i := 22) rfl ?_
      exact K_retI (pc := 38) (i := 23) rfl rfl ⟨fx, ⟨hI, trivial⟩⟩
    · skip
      refine K_bipush (pc := 22) (i := 13) rfl rfl ?_
      exact K_retI (pc := 24) (i := 14) rfl rfl ⟨fx, ⟨hI, trivial⟩⟩
  · skip
    refine K_bipush (pc := 10) (i := 6) rfl rfl ?_
    exact K_retI (pc := 12) (i := 7) rfl rfl ⟨fx, ⟨hI, trivial⟩⟩
set_option maxHeartbeats 4000000 in
set_option maxRecDepth 100000 in
theorem c_Model_tonightAt (G : kG) {g : kGh} {h : kH}  (hT : g.2.2.2.2){x1 : Int} {x2 : Int} (s1 : kR x1) (s2 : kR x2) (hI : Gd g h) : Ctr G y_Model_tonightAt X_Model_tonightAt 13 [.ref (G.2.2.2 184), kI x1, kI x2] h (kQi (fun z h' => Fx (fun c i => (c = 187 ∧ 40 ≤ i) ∨ c = 192 ∨ (c = 184 ∧ i = 15)) h h' ∧ (Gd g h' ∧ True))) := by
  refine Ctr.ofK (by decide) rfl T_Model_tonightAt (Nat.le_of_ble_eq_true rfl) (lo := [(0, .ref (G.2.2.2 184)), (1, kI x1), (2, kI x2)]) rfl ?_
  have fx : Fx (fun c i => (c = 187 ∧ 40 ≤ i) ∨ c = 192 ∨ (c = 184 ∧ i = 15)) h h := Fx.rf
  refine K_iload_n (pc := 0) (i := 0) rfl rfl ?_
  refine K_i2l (pc := 1) (i := 1) rfl ?_
  refine K_eqJ (kI2l_eq (a := x1) (by omega)) ?_
  refine K_lconst 0 (pc := 2) (i := 2) rfl rfl ?_
  refine K_lconst 1 (pc := 3) (i := 3) rfl rfl ?_
  refine K_cSI (pc := 4) (i := 4) rfl (c_Model_in G (l0 := x1) (l2 := 0) (l4 := 1) (s0 := by omega) (s2 := by omega) (s4 := by omega)) (ls_Model_65 rfl) rfl rfl rfl rfl (fun v4 h4 q4 => ?_)
  obtain ⟨eh, r4⟩ := q4
  rw [eh]; clear eh
  first | refine K_if_ne 13 (pc := 7) (i := 5) rfl rfl (by omega) (fun b7 => ?_) (fun b7 => ?_) | refine K_if_ne_an 13 (pc := 7) (i := 5) rfl rfl (fun b7 => ?_) (fun b7 => ?_)
  · skip
    refine K_aload_n (pc := 13) (i := 8) rfl rfl ?_
    refine K_iload_n (pc := 14) (i := 9) rfl rfl ?_
    refine K_cVI (pc := 15) (i := 10) rfl (c_Model_kitesOf G (x1 := x1) (hI := hI) (s1 := by omega)) S_184 rfl (lv_Model_175 rfl) rfl rfl rfl rfl rfl (fun v15 h15 q15 => ?_)
    obtain ⟨eh, r15⟩ := q15
    rw [eh]; clear eh
    refine K_ist_n (pc := 18) (i := 11) (lo' := [(0, _), (1, _), (2, _), (3, _)]) rfl rfl rfl rfl ?_
    refine K_iload_n (pc := 19) (i := 12) rfl rfl ?_
    refine K_iconst (pc := 20) (i := 13) rfl ?_
    first | refine K_icmp_le 27 (pc := 21) (i := 14) rfl rfl (by omega) (by omega) (fun b21 => ?_) (fun b21 => ?_) | refine K_icmp_le_an 27 (pc := 21) (i := 14) rfl rfl (fun b21 => ?_) (fun b21 => ?_)
    · skip
      refine K_iload_n (pc := 27) (i := 17) rfl rfl ?_
      refine K_i2l (pc := 28) (i := 18) rfl ?_
      refine K_eqJ (kI2l_eq (a := x2) (by omega)) ?_
      refine K_lconst 0 (pc := 29) (i := 19) rfl rfl ?_
      refine K_iload_n (pc := 30) (i := 20) rfl rfl ?_
      refine K_iconst (pc := 31) (i := 21) rfl ?_
      refine K_isub (pc := 32) (i := 22) rfl ?_
      refine K_i2l (pc := 33) (i := 23) rfl ?_
      refine K_eqJ (kI2l_eq (a := v15 - 1) (by omega)) ?_
      refine K_cSI (pc := 34) (i := 24) rfl (c_Model_in G (l0 := x2) (l2 := 0) (l4 := v15 - 1) (s0 := by omega) (s2 := by omega) (s4 := by omega)) (ls_Model_65 rfl) rfl rfl rfl rfl (fun v34 h34 q34 => ?_)
      obtain ⟨eh, r34⟩ := q34
      rw [eh]; clear eh
      first | refine K_if_eq 59 (pc := 37) (i := 25) rfl rfl (by omega) (fun b37 => ?_) (fun b37 => ?_) | refine K_if_eq_an 59 (pc := 37) (i := 25) rfl rfl (fun b37 => ?_) (fun b37 => ?_)
      · skip
        refine K_bipush (pc := 59) (i := 39) rfl rfl ?_
        exact K_retI (pc := 61) (i := 40) rfl rfl ⟨fx, ⟨hI, trivial⟩⟩
      · skip
        refine K_aload_n (pc := 40) (i := 26) rfl rfl ?_
        refine K_iload_n (pc := 41) (i := 27) rfl rfl ?_
        refine K_cVI (pc := 42) (i := 28) rfl (c_Model_layTonight G (x1 := x1) (hT := hT) (hI := hI) (s1 := by omega)) S_184 rfl (lv_Model_184 rfl) rfl rfl rfl rfl rfl (fun v42 h42 q42 => ?_)
        obtain ⟨fx42, q42⟩ := q42
        obtain ⟨hI, r42⟩ := q42
        have fx := fx.tr fx42 (fun c i q => (by first | (dsimp only at q ⊢; omega) | omega))
        refine K_iload_n (pc := 45) (i := 29) rfl rfl ?_
        refine K_iconst (pc := 46) (i := 30) rfl ?_
        refine K_isub (pc := 47) (i := 31) rfl ?_
        refine K_iload_n (pc := 48) (i := 32) rfl rfl ?_
        refine K_isub (pc := 49) (i := 33) rfl ?_
        refine K_cSI (pc := 50) (i := 34) rfl (c_Model_threeTo G (x0 := (v15 - 1) - x2) (s0 := by omega)) (ls_Model_178 rfl) rfl rfl rfl rfl (fun v50 h50 q50 => ?_)
        obtain ⟨eh, r50⟩ := q50
        rw [eh]; clear eh
        refine K_idiv (pc := 53) (i := 35) rfl (by omega) (by omega) ?_
        refine K_any (fun v53 r53 => ?_)
        refine K_iconst (pc := 54) (i := 36) rfl ?_
        refine K_irem (pc := 55) (i := 37) rfl (by omega) (by omega) ?_
        refine K_any (fun v55 r55 => ?_)
        refine K_goto 61 (pc := 56) (i := 38) rfl rfl ?_
        exact K_retI (pc := 61) (i := 40) rfl rfl ⟨fx, ⟨hI, trivial⟩⟩
    · skip
      refine K_bipush (pc := 24) (i := 15) rfl rfl ?_
      exact K_retI (pc := 26) (i := 16) rfl rfl ⟨fx, ⟨hI, trivial⟩⟩
  · skip
    refine K_bipush (pc := 10) (i := 6) rfl rfl ?_
    exact K_retI (pc := 12) (i := 7) rfl rfl ⟨fx, ⟨hI, trivial⟩⟩
set_option maxHeartbeats 4000000 in
set_option maxRecDepth 100000 in
theorem c_Model_forSure (G : kG) {g : kGh} {h : kH}  (hT : g.2.2.2.2){x1 : Int} (s1 : kR x1) (hI : Gd g h) : Ctr G y_Model_forSure X_Model_forSure 13 [.ref (G.2.2.2 184), kI x1] h (kQi (fun z h' => Fx (fun c i => (c = 187 ∧ 40 ≤ i) ∨ c = 192) h h' ∧ (Gd g h' ∧ True))) := by
  refine Ctr.ofK (by decide) rfl T_Model_forSure (Nat.le_of_ble_eq_true rfl) (lo := [(0, .ref (G.2.2.2 184)), (1, kI x1)]) rfl ?_
  have fx : Fx (fun c i => (c = 187 ∧ 40 ≤ i) ∨ c = 192) h h := Fx.rf
  refine K_iload_n (pc := 0) (i := 0) rfl rfl ?_
  refine K_i2l (pc := 1) (i := 1) rfl ?_
  refine K_eqJ (kI2l_eq (a := x1) (by omega)) ?_
  refine K_lconst 0 (pc := 2) (i := 2) rfl rfl ?_
  refine K_lconst 1 (pc := 3) (i := 3) rfl rfl ?_
  refine K_cSI (pc := 4) (i := 4) rfl (c_Model_in G (l0 := x1) (l2 := 0) (l4 := 1) (s0 := by omega) (s2 := by omega) (s4 := by omega)) (ls_Model_65 rfl) rfl rfl rfl rfl (fun v4 h4 q4 => ?_)
  obtain ⟨eh, r4⟩ := q4
  rw [eh]; clear eh
  first | refine K_if_ne 13 (pc := 7) (i := 5) rfl rfl (by omega) (fun b7 => ?_) (fun b7 => ?_) | refine K_if_ne_an 13 (pc := 7) (i := 5) rfl rfl (fun b7 => ?_) (fun b7 => ?_)
  · skip
    refine K_aload_n (pc := 13) (i := 8) rfl rfl ?_
    refine K_iconst (pc := 14) (i := 9) rfl ?_
    refine K_cVI (pc := 15) (i := 10) rfl (c_Model_kitesOf G (x1 := 0) (hI := hI) (s1 := by omega)) S_184 rfl (lv_Model_175 rfl) rfl rfl rfl rfl rfl (fun v15 h15 q15 => ?_)
    obtain ⟨eh, r15⟩ := q15
    rw [eh]; clear eh
    refine K_iconst (pc := 18) (i := 11) rfl ?_
    first | refine K_icmp_gt 31 (pc := 19) (i := 12) rfl rfl (by omega) (by omega) (fun b19 => ?_) (fun b19 => ?_) | refine K_icmp_gt_an 31 (pc := 19) (i := 12) rfl rfl (fun b19 => ?_) (fun b19 => ?_)
    · skip
      refine K_bipush (pc := 31) (i := 18) rfl rfl ?_
      exact K_retI (pc := 33) (i := 19) rfl rfl ⟨fx, ⟨hI, trivial⟩⟩
    · skip
      refine K_aload_n (pc := 22) (i := 13) rfl rfl ?_
      refine K_iconst (pc := 23) (i := 14) rfl ?_
      refine K_cVI (pc := 24) (i := 15) rfl (c_Model_kitesOf G (x1 := 1) (hI := hI) (s1 := by omega)) S_184 rfl (lv_Model_175 rfl) rfl rfl rfl rfl rfl (fun v24 h24 q24 => ?_)
      obtain ⟨eh, r24⟩ := q24
      rw [eh]; clear eh
      refine K_iconst (pc := 27) (i := 16) rfl ?_
      first | refine K_icmp_le 34 (pc := 28) (i := 17) rfl rfl (by omega) (by omega) (fun b28 => ?_) (fun b28 => ?_) | refine K_icmp_le_an 34 (pc := 28) (i := 17) rfl rfl (fun b28 => ?_) (fun b28 => ?_)
      · skip
        refine K_bipush (pc := 34) (i := 20) rfl rfl ?_
        refine K_ist_n (pc := 36) (i := 21) (lo' := [(0, _), (1, _), (2, _)]) rfl rfl rfl rfl ?_
        refine K_iconst (pc := 37) (i := 22) rfl ?_
        refine K_ist_n (pc := 38) (i := 23) (lo' := [(0, _), (1, _), (2, _), (3, _)]) rfl rfl rfl rfl ?_
        have L39 : ∀ (n : Nat) (x2 : Int) (x3 : Int) (ha : kH), (6561 - x3).toNat < n → (Gd g ha) → (Fx (fun c i => (c = 187 ∧ 40 ≤ i) ∨ c = 192) h ha) → (0 ≤ x3 ∧ x3 ≤ 6561) → K X_Model_forSure G (kZm G 13 (kQi (fun z h' => Fx (fun c i => (c = 187 ∧ 40 ≤ i) ∨ c = 192) h h' ∧ (Gd g h' ∧ True)))) 39 [(0, .ref (G.2.2.2 184)), (1, kI x1), (2, kI x2), (3, kI x3)] [] ha := by
          intro n
          induction n with
          | zero => intro x2 x3 ha hm; exact absurd hm (Nat.not_lt_zero _)
          | succ n ih39 =>
            intro x2 x3 ha hm39 hI fx hV39
            refine K_iload_n (pc := 39) (i := 24) rfl rfl ?_
            refine K_aload_n (pc := 40) (i := 25) rfl rfl ?_
            refine K_iload_n (pc := 41) (i := 26) rfl rfl ?_
            refine K_cVI (pc := 42) (i := 27) rfl (c_Model_kitesOf G (x1 := x1) (hI := hI) (s1 := by omega)) S_184 rfl (lv_Model_175 rfl) rfl rfl rfl rfl rfl (fun v42 h42 q42 => ?_)
            obtain ⟨eh, r42⟩ := q42
            rw [eh]; clear eh
            refine K_cSI (pc := 45) (i := 28) rfl (c_Model_threeTo G (x0 := v42) (s0 := by omega)) (ls_Model_178 rfl) rfl rfl rfl rfl (fun v45 h45 q45 => ?_)
            obtain ⟨eh, r45⟩ := q45
            rw [eh]; clear eh
            first | refine K_icmp_ge 78 (pc := 48) (i := 29) rfl rfl (by omega) (by omega) (fun b48 => ?_) (fun b48 => ?_) | refine K_icmp_ge_an 78 (pc := 48) (i := 29) rfl rfl (fun b48 => ?_) (fun b48 => ?_)
            · skip
              refine K_bipush (pc := 78) (i := 44) rfl rfl ?_
              refine K_iload_n (pc := 80) (i := 45) rfl rfl ?_
              refine K_iadd (pc := 81) (i := 46) rfl ?_
              exact K_retI (pc := 82) (i := 47) rfl rfl ⟨fx, ⟨hI, trivial⟩⟩
            · skip
              refine K_aload_n (pc := 51) (i := 30) rfl rfl ?_
              refine K_iload_n (pc := 52) (i := 31) rfl rfl ?_
              refine K_iload_n (pc := 53) (i := 32) rfl rfl ?_
              refine K_cVI (pc := 54) (i := 33) rfl (c_Model_worst G (x1 := x1) (x2 := x3) (hT := hT) (hI := hI) (s1 := by omega) (s2 := by omega)) S_184 rfl (lv_Model_187 rfl) rfl rfl rfl rfl rfl (fun v54 h54 q54 => ?_)
              obtain ⟨fx54, q54⟩ := q54
              obtain ⟨hI, r54⟩ := q54
              have fx := fx.tr fx54 (fun c i q => (by first | (dsimp only at q ⊢; omega) | omega))
              refine K_ist (pc := 57) (i := 34) (lo' := [(0, _), (1, _), (2, _), (3, _), (4, _)]) rfl rfl rfl rfl ?_
              refine K_iload (pc := 59) (i := 35) rfl rfl ?_
              refine K_iload_n (pc := 61) (i := 36) rfl rfl ?_
              first | refine K_icmp_le 70 (pc := 62) (i := 37) rfl rfl (by omega) (by omega) (fun b62 => ?_) (fun b62 => ?_) | refine K_icmp_le_an 70 (pc := 62) (i := 37) rfl rfl (fun b62 => ?_) (fun b62 => ?_)
              · skip
                refine K_iload_n (pc := 70) (i := 40) rfl rfl ?_
                refine K_ist_n (pc := 71) (i := 41) (lo' := [(0, _), (1, _), (2, _), (3, _), (4, _)]) rfl rfl rfl rfl ?_
                refine K_inc (pc := 72) (i := 42) (q := 3) (lo' := [(0, _), (1, _), (2, _), (3, _), (4, _)]) rfl rfl rfl rfl rfl ?_
                refine K_goto 39 (pc := 75) (i := 43) rfl rfl ?_
                refine K_drop (lo' := [(0, .ref (G.2.2.2 184)), (1, kI x1), (2, kI x2), (3, kI (x3 + 1))]) [0, 1, 2, 3] rfl ?_
                exact ih39 x2 (x3 + 1) _ (by omega) hI fx (by omega)
              · skip
                refine K_iload (pc := 65) (i := 38) rfl rfl ?_
                refine K_goto 71 (pc := 67) (i := 39) rfl rfl ?_
                refine K_ist_n (pc := 71) (i := 41) (lo' := [(0, _), (1, _), (2, _), (3, _), (4, _)]) rfl rfl rfl rfl ?_
                refine K_inc (pc := 72) (i := 42) (q := 3) (lo' := [(0, _), (1, _), (2, _), (3, _), (4, _)]) rfl rfl rfl rfl rfl ?_
                refine K_goto 39 (pc := 75) (i := 43) rfl rfl ?_
                refine K_drop (lo' := [(0, .ref (G.2.2.2 184)), (1, kI x1), (2, kI v54), (3, kI (x3 + 1))]) [0, 1, 2, 3] rfl ?_
                exact ih39 v54 (x3 + 1) _ (by omega) hI fx (by omega)
        exact L39 _ (-99) 0 _ (Nat.lt_succ_self _) hI fx (by omega)
      · skip
        refine K_bipush (pc := 31) (i := 18) rfl rfl ?_
        exact K_retI (pc := 33) (i := 19) rfl rfl ⟨fx, ⟨hI, trivial⟩⟩
  · skip
    refine K_bipush (pc := 10) (i := 6) rfl rfl ?_
    exact K_retI (pc := 12) (i := 7) rfl rfl ⟨fx, ⟨hI, trivial⟩⟩
end
