/-! the reference's reading of the text: bits, figures, the state of reading -/
/-- the ones of z, a set of the tens t: what is free of the first n stakes read -/
def FrI (h : kH) (t z n : Int) : Prop := ∀ v : Int, 0 ≤ v → v ≤ 31 → (tb z v = true ↔ v ≤ 9 ∧ (t = 4 → v = 0) ∧ ∀ k : Nat, (k : Int) < n → h 185 (5 * k + 1) ≠ 10 * t + v)
theorem FrI.four {h : kH} : FrI h 4 1 0 := fun v h0 h1 => by
  rw [tbc_1 h0 h1]
  exact ⟨fun e => ⟨by omega, fun _ => e, fun k hk => absurd hk (by omega)⟩, fun e => e.2.1 rfl⟩
theorem FrI.oth {h : kH} {t : Int} (ht : t ≠ 4) : FrI h t 1023 0 := fun v h0 h1 => by
  rw [tbc_1023 h0 h1]
  exact ⟨fun e => ⟨e, fun q => absurd q ht, fun k hk => absurd hk (by omega)⟩, fun e => e.1⟩
theorem FrI.up {h : kH} {t z m n : Int} (a : FrI h t z n) (h0 : 0 ≤ n) (hm : ∀ v : Int, 0 ≤ v → v ≤ 31 → v ≤ 9 → (tb m v = true ↔ h 185 (5 * n.toNat + 1) ≠ 10 * t + v)) : FrI h t (kAnd z m) (n + 1) := fun v v0 v1 => by
  rw [bt_and, Bool.and_eq_true, a v v0 v1]
  constructor
  · rintro ⟨⟨q1, q2, q3⟩, q4⟩
    refine ⟨q1, q2, fun k hk => ?_⟩
    by_cases e : k = n.toNat
    · rw [e]; exact (hm v v0 v1 q1).1 q4
    · exact q3 k (by omega)
  · rintro ⟨q1, q2, q3⟩
    exact ⟨⟨q1, q2, fun k hk => q3 k (by omega)⟩, (hm v v0 v1 q1).2 (q3 n.toNat (by omega))⟩
theorem FrI.in {h : kH} {t z n s : Int} (a : FrI h t z n) (h0 : 0 ≤ n) (hs : h 185 (5 * n.toNat + 1) = s) (h1 : 0 ≤ s) (ht : s / 10 = t) : FrI h t (kAnd z (kXor (kShl 1 (s % 10)) (-1))) (n + 1) := a.up h0 (fun v v0 v1 v9 => by
  rw [tbc_not (by omega) v0 v1, hs]
  omega)
theorem FrI.out {h : kH} {t z n s : Int} (a : FrI h t z n) (h0 : 0 ≤ n) (hs : h 185 (5 * n.toNat + 1) = s) (h1 : 0 ≤ s) (ht : s / 10 ≠ t) : FrI h t (kAnd z (-1)) (n + 1) := a.up h0 (fun v v0 v1 v9 => by
  rw [tbc_m1 v0 v1, hs]
  simp
  omega)
theorem FrI.nz {h : kH} {t z n : Int} (a : FrI h t z n) (hz : kR z) : z ≠ 0 ↔ ∃ v : Int, (0 ≤ v ∧ v ≤ 9) ∧ (t = 4 → v = 0) ∧ ∀ k : Nat, (k : Int) < n → h 185 (5 * k + 1) ≠ 10 * t + v := by
  constructor
  · intro hne
    apply Classical.byContradiction
    intro hno
    apply hne
    apply tb_ext hz ⟨by omega, by omega⟩
    intro v h0 h1
    rw [tbc_0 h0 h1, ← Bool.not_eq_true]
    intro e
    have := (a v h0 h1).1 e
    exact hno ⟨v, ⟨h0, this.1⟩, this.2⟩
  · rintro ⟨v, hv, h1, h2⟩ e
    have := (a v hv.1 (by omega)).2 ⟨hv.2, h1, h2⟩
    rw [e, tbc_0 hv.1 (by omega)] at this
    exact Bool.false_ne_true this
/-- what a figure that is read does -/
def FgOk (h : kH) (a : Int) : Prop := h 184 9 < h 184 8 ∧ (0 ≤ h 190 (h 184 9).toNat - 48 ∧ h 190 (h 184 9).toNat - 48 ≤ 9) ∧ tb a (h 190 (h 184 9).toNat - 48) = true
def Fig (h h' : kH) (a z : Int) : Prop :=
  (h 184 10 = -9 ∧ FgOk h a ∧ z = h 190 (h 184 9).toNat - 48 ∧ h' 184 9 = h 184 9 + 1 ∧ h' 184 10 = -9) ∨
  (h 184 10 = -9 ∧ ¬ FgOk h a ∧ h' 184 9 = h 184 9 ∧ h' 184 10 = h 184 9) ∨
  (h 184 10 ≠ -9 ∧ h' 184 9 = h 184 9 ∧ h' 184 10 = h 184 10)
/-- the text is read as far as p, or its fault is found -/
def RS (h : kH) (b : Nat → Int) (len p : Int) : Prop :=
  (h 184 10 = -9 → h 184 9 = p ∧ p ≤ len ∧ ∀ j, 0 ≤ j → j < p → mayS b j) ∧ (h 184 10 ≠ -9 → FaultIs b len (h 184 10))
theorem RS.of {h h' : kH} {b : Nat → Int} {len p : Int} (a : RS h b len p) (e9 : h' 184 9 = h 184 9) (e10 : h' 184 10 = h 184 10) : RS h' b len p := by
  unfold RS; rw [e9, e10]; exact a
theorem RS.st {h : kH} {b : Nat → Int} {len p v : Int} {c i : Nat} (a : RS h b len p) (hc : c ≠ 184) : RS (kU h c i v) b len p := a.of (by rw [kU_c _ _ _ _ (Ne.symm hc)]) (by rw [kU_c _ _ _ _ (Ne.symm hc)])
theorem RS.fig {h h' : kH} {b : Nat → Int} {len p q a z : Int} (r : RS h b len p) (f : Fig h h' a z) (eb : h 190 = b) (el : h 184 8 = len) (h0 : 0 ≤ p) (hq : q = p + 1)
    (hm : h 184 10 = -9 → p < len → (mayS b p ↔ (0 ≤ b p.toNat - 48 ∧ b p.toNat - 48 ≤ 9) ∧ tb a (b p.toNat - 48) = true)) (hn : ¬ (10 ≤ p ∧ (p - 10) % 8 = 0)) :
    RS h' b len q ∧ (h' 184 10 = -9 → h 184 10 = -9 ∧ z = b p.toNat - 48) := by
  subst hq
  rcases f with ⟨f0, f1, f2, f3, f4⟩ | ⟨f0, f1, f2, f3⟩ | ⟨f0, f1, f2⟩
  · obtain ⟨r1, r2, r3⟩ := r.1 f0
    unfold FgOk at f1
    rw [r1, eb, el] at f1
    have hp := (hm f0 f1.1).2 ⟨f1.2.1, f1.2.2⟩
    refine ⟨⟨fun _ => ⟨by omega, by omega, fun j j0 j1 => ?_⟩, fun e => absurd f4 e⟩, fun _ => ⟨f0, by rw [f2, r1, eb]⟩⟩
    by_cases e : j = p
    · rw [e]; exact hp
    · exact r3 j j0 (by omega)
  · obtain ⟨r1, r2, r3⟩ := r.1 f0
    unfold FgOk at f1
    rw [r1, eb, el] at f1
    have e10 : h' 184 10 = p := by rw [f3, r1]
    refine ⟨⟨fun e => absurd e (by omega), fun _ => ?_⟩, fun e => absurd e (by omega)⟩
    rw [e10]
    refine Or.inl ⟨⟨h0, r2⟩, r3, ?_⟩
    by_cases hp : p < len
    · exact Or.inl ⟨hp, fun e => f1 ⟨hp, ((hm f0 hp).1 e).1, ((hm f0 hp).1 e).2⟩⟩
    · exact Or.inr ⟨by omega, fun e => hn (by omega)⟩
  · refine ⟨⟨fun e => absurd e (by omega), fun _ => ?_⟩, fun e => absurd e (by omega)⟩
    rw [f2]; exact r.2 f0
theorem may_tb {b : Nat → Int} {p lo hi a : Int} (e : mayS b p ↔ lo ≤ b p.toNat - 48 ∧ b p.toNat - 48 ≤ hi) (h0 : 0 ≤ lo) (h9 : hi ≤ 9) (ha : ∀ v : Int, 0 ≤ v → v ≤ 9 → (tb a v = true ↔ lo ≤ v ∧ v ≤ hi)) :
    mayS b p ↔ (0 ≤ b p.toNat - 48 ∧ b p.toNat - 48 ≤ 9) ∧ tb a (b p.toNat - 48) = true := by
  rw [e]
  constructor
  · intro q; exact ⟨by omega, (ha _ (by omega) (by omega)).2 q⟩
  · rintro ⟨q1, q2⟩; exact (ha _ q1.1 q1.2).1 q2
/-- the first n kites as the text tells them -/
def Dec (h : kH) (b : Nat → Int) (n : Int) : Prop := ∀ k : Nat, (k : Int) < n → h 185 (5 * k) = b (10 + 8 * k + 1) - 48 ∧ h 185 (5 * k + 1) = prI b (10 + (k : Int) * 8 + 2) ∧ h 185 (5 * k + 2) = prI b (10 + (k : Int) * 8 + 4) ∧ h 185 (5 * k + 3) = b (10 + 8 * k + 6) - 48 ∧ h 185 (5 * k + 4) = b (10 + 8 * k + 7) - 48
theorem Dec.of {h h' : kH} {b : Nat → Int} {n : Int} {m : Nat} (a : Dec h b n) (hn : n ≤ m) (e : ∀ j, j < 5 * m → h' 185 j = h 185 j) : Dec h' b n := fun k hk => by
  rw [e _ (by omega), e _ (by omega), e _ (by omega), e _ (by omega), e _ (by omega)]
  exact a k hk
theorem frS_iff {h : kH} {b : Nat → Int} {n d o : Int} (a : Dec h b n) (hd : 0 ≤ d ∧ d ≤ 4) (ho : 0 ≤ o ∧ o ≤ 9) : frS b n (10 * d + o) ↔ (d = 4 → o = 0) ∧ ∀ k : Nat, (k : Int) < n → h 185 (5 * k + 1) ≠ 10 * d + o := by
  constructor
  · rintro ⟨q1, q2⟩
    refine ⟨fun e => by omega, fun k hk => ?_⟩
    rw [(a k hk).2.1]
    exact q2 k (by omega) hk
  · rintro ⟨q1, q2⟩
    refine ⟨by by_cases e : d = 4; · have := q1 e; omega
               · omega, fun e e0 e1 => ?_⟩
    have := q2 e.toNat (by omega)
    rw [(a e.toNat (by omega)).2.1] at this
    rwa [show ((e.toNat : Nat) : Int) = e by omega] at this
/-- the ones of z: the tens below x whose stakes aren't all taken -/
def OpI (h : kH) (z n x : Int) : Prop := ∀ v : Int, 0 ≤ v → v ≤ 31 → (tb z v = true ↔ v < x ∧ ∃ o : Int, (0 ≤ o ∧ o ≤ 9) ∧ (v = 4 → o = 0) ∧ ∀ k : Nat, (k : Int) < n → h 185 (5 * k + 1) ≠ 10 * v + o)
theorem OpI.z {h : kH} {n : Int} : OpI h 0 n 0 := fun v h0 h1 => by
  rw [tbc_0 h0 h1]
  exact ⟨fun e => absurd e Bool.false_ne_true, fun e => absurd e.1 (by omega)⟩
theorem OpI.up {h : kH} {z n x m : Int} (a : OpI h z n x) (hm : ∀ v : Int, 0 ≤ v → v ≤ 31 → (tb m v = true ↔ v = x ∧ ∃ o : Int, (0 ≤ o ∧ o ≤ 9) ∧ (v = 4 → o = 0) ∧ ∀ k : Nat, (k : Int) < n → h 185 (5 * k + 1) ≠ 10 * v + o)) : OpI h (kOr z m) n (x + 1) := fun v h0 h1 => by
  rw [bt_or, Bool.or_eq_true, a v h0 h1, hm v h0 h1]
  constructor
  · rintro (q | q)
    · exact ⟨by omega, q.2⟩
    · exact ⟨by omega, q.2⟩
  · rintro ⟨q1, q2⟩
    by_cases e : v = x
    · exact Or.inr ⟨e, q2⟩
    · exact Or.inl ⟨by omega, q2⟩
theorem OpI.yes {h : kH} {z n x f : Int} (a : OpI h z n x) (hx : 0 ≤ x ∧ x ≤ 4) (fr : FrI h x f n) (hR : kR f) (hf : f ≠ 0) : OpI h (kOr z (kShl 1 x)) n (x + 1) := a.up (fun v h0 h1 => by
  rw [tbc_shl (by omega) h0 h1]
  exact ⟨fun e => ⟨e, by rw [e]; exact (fr.nz hR).1 hf⟩, fun e => e.1⟩)
theorem OpI.no {h : kH} {z n x f : Int} (a : OpI h z n x) (fr : FrI h x f n) (hR : kR f) (hf : f = 0) : OpI h (kOr z 0) n (x + 1) := a.up (fun v h0 h1 => by
  rw [tbc_0 h0 h1]
  refine ⟨fun e => absurd e Bool.false_ne_true, fun e => ?_⟩
  have := (fr.nz hR).2 (by have := e.2; rwa [e.1] at this)
  exact absurd hf this)
theorem may_2 {h : kH} {b : Nat → Int} {z n p : Int} (a : OpI h z n 5) (d : Dec h b n) (h1 : 10 ≤ p) (h2 : (p - 10) % 8 = 2) (hn : (p - 10) / 8 = n) : mayS b p ↔ (0 ≤ b p.toNat - 48 ∧ b p.toNat - 48 ≤ 9) ∧ tb z (b p.toNat - 48) = true := by
  rw [mayS_r2 h1 h2, hn]
  constructor
  · rintro ⟨q1, o, q2, q3⟩
    refine ⟨by omega, (a _ q1.1 (by omega)).2 ⟨by omega, o, q2, (frS_iff d q1 q2).1 q3⟩⟩
  · rintro ⟨q1, q2⟩
    obtain ⟨q3, o, q4, q5⟩ := (a _ q1.1 (by omega)).1 q2
    exact ⟨by omega, o, q4, (frS_iff d (by omega) q4).2 q5⟩
theorem may_3 {h : kH} {b : Nat → Int} {z n p t : Int} (a : FrI h t z n) (d : Dec h b n) (h1 : 10 ≤ p) (h2 : (p - 10) % 8 = 3) (hn : (p - 10) / 8 = n) (ht : t = b (p - 1).toNat - 48) (ht4 : 0 ≤ t ∧ t ≤ 4) : mayS b p ↔ (0 ≤ b p.toNat - 48 ∧ b p.toNat - 48 ≤ 9) ∧ tb z (b p.toNat - 48) = true := by
  rw [mayS_r3 h1 h2, hn]
  have e : prI b (p - 1) = 10 * t + (b p.toNat - 48) := by unfold prI; rw [show p - 1 + 1 = p by omega, ht]
  rw [e]
  constructor
  · rintro ⟨q1, q2⟩
    exact ⟨q1, (a _ q1.1 (by omega)).2 ⟨q1.2, (frS_iff d ht4 q1).1 q2⟩⟩
  · rintro ⟨q1, q2⟩
    exact ⟨q1, (frS_iff d ht4 q1).2 ((a _ q1.1 (by omega)).1 q2).2⟩
theorem may_5 {b : Nat → Int} {z p t : Int} (h1 : 10 ≤ p) (h2 : (p - 10) % 8 = 5) (ht : t = b (p - 1).toNat - 48) (ht4 : 0 ≤ t ∧ t ≤ 4) (hz : ∀ v : Int, 0 ≤ v → v ≤ 9 → (tb z v = true ↔ (t = 4 → v = 0))) : mayS b p ↔ (0 ≤ b p.toNat - 48 ∧ b p.toNat - 48 ≤ 9) ∧ tb z (b p.toNat - 48) = true := by
  rw [mayS_r5 h1 h2]
  have e : prI b (p - 1) = 10 * t + (b p.toNat - 48) := by unfold prI; rw [show p - 1 + 1 = p by omega, ht]
  rw [e]
  constructor
  · rintro ⟨q1, q2⟩
    exact ⟨q1, (hz _ q1.1 q1.2).2 (fun e => by omega)⟩
  · rintro ⟨q1, q2⟩
    have := (hz _ q1.1 q1.2).1 q2
    exact ⟨q1, by by_cases e : t = 4; · have := this e; omega
                  · omega⟩
