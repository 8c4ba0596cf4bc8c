/-! fleets: alike in two heaps; one kite more; kites dropped; counts -/
/-- the fleet f' of h' is the fleet f of h -/
def FC (h' : kH) (f' : Nat) (h : kH) (f : Nat) : Prop := h' f' 6 = h f 6 ∧ (∀ i a : Nat, (i : Int) < h f 6 → a < 5 → h' (f' + 1 + a) i = h (f + 1 + a) i) ∧ ∀ i, i < 2 → h' (f' + 6) i = h (f + 6) i
/-- the fleet f of h is told by five numbers a kite, its number and the streets won -/
def FE (h : kH) (f : Nat) (k : Nat → Int) (n w0 w1 : Int) : Prop := h f 6 = n ∧ (∀ i a : Nat, (i : Int) < n → a < 5 → h (f + 1 + a) i = k (5 * i + a)) ∧ h (f + 6) 0 = w0 ∧ h (f + 6) 1 = w1
theorem FE.of {h h' : kH} {f f' : Nat} {k : Nat → Int} {n w0 w1 : Int} (a : FE h f k n w0 w1) (b : FC h' f' h f) : FE h' f' k n w0 w1 := by
  obtain ⟨a1, a2, a3, a4⟩ := a
  obtain ⟨b1, b2, b3⟩ := b
  exact ⟨b1.trans a1, fun i c hi hc => (b2 i c (by omega) hc).trans (a2 i c hi hc), (b3 0 (by omega)).trans a3, (b3 1 (by omega)).trans a4⟩
theorem FE.k {h : kH} {f : Nat} {k k' : Nat → Int} {n w0 w1 : Int} (a : FE h f k n w0 w1) (hn : n ≤ 8) (e : ∀ j, j < 40 → k' j = k j) : FE h f k' n w0 w1 :=
  ⟨a.1, fun i c hi hc => by rw [e _ (by omega)]; exact a.2.1 i c hi hc, a.2.2.1, a.2.2.2⟩
theorem FC.rf {h : kH} {f : Nat} : FC h f h f := ⟨rfl, fun _ _ _ _ => rfl, fun _ _ => rfl⟩
theorem FC.same {h h' : kH} {f : Nat} (e : ∀ c, f ≤ c → c ≤ f + 6 → h' c = h c) : FC h' f h f := ⟨by rw [e f (by omega) (by omega)], fun i a _ ha => by rw [e (f + 1 + a) (by omega) (by omega)], fun i _ => by rw [e (f + 6) (by omega) (by omega)]⟩
theorem FC.tr {h h1 h2 : kH} {f f1 f2 : Nat} (a : FC h1 f1 h f) (b : FC h2 f2 h1 f1) : FC h2 f2 h f := by
  obtain ⟨a1, a2, a3⟩ := a
  obtain ⟨b1, b2, b3⟩ := b
  exact ⟨b1.trans a1, fun i c hi hc => (b2 i c (by omega) hc).trans (a2 i c hi hc), fun i hi => (b3 i hi).trans (a3 i hi)⟩
/-- a fleet is being copied: its number and the first a arrays are -/
def CP (h h1 : kH) (f f2 a : Nat) : Prop := h1 f 6 = h f2 6 ∧ (∀ i b : Nat, (i : Int) < h f2 6 → b < a → h1 (f + 1 + b) i = h (f2 + 1 + b) i) ∧ ∀ c, c < f ∨ f + 7 ≤ c → h1 c = h c
theorem CP.z {h : kH} {f f2 : Nat} : CP h (kU h f 6 (h f2 6)) f f2 0 := ⟨by rw [kU_at, if_pos ⟨rfl, rfl⟩], fun i b _ hb => absurd hb (by omega), fun c hc => kU_c _ _ _ _ (by omega)⟩
theorem CP.cp {h h1 : kH} {f f2 a c0 c1 sp dp n : Nat} (p : CP h h1 f f2 a) (hc0 : c0 = f2 + 1 + a) (hc1 : c1 = f + 1 + a) (ha : a < 5) (hs : sp = 0) (hd : dp = 0) (hn : (n : Int) = h f2 6) (dj : f + 7 ≤ f2 ∨ f2 + 7 ≤ f) : CP h (kCpy h1 c0 c1 sp dp n) f f2 (a + 1) := by
  subst hc0; subst hc1; subst hs; subst hd
  obtain ⟨p1, p2, p3⟩ := p
  refine ⟨by rw [kCpy_at, if_neg (by omega)]; exact p1, fun i b hi hb => ?_, fun c hc => by rw [kCpy_c _ _ _ _ _ _ (by omega)]; exact p3 c hc⟩
  rw [kCpy_at]
  by_cases e : b = a
  · subst e
    rw [if_pos ⟨rfl, by omega, by omega⟩, p3 _ (by omega)]
    congr 1
    omega
  · rw [if_neg (by omega)]
    exact p2 i b hi (by omega)
theorem CP.end {h h1 : kH} {f f2 c0 c1 sp dp n : Nat} (p : CP h h1 f f2 5) (hc0 : c0 = f2 + 6) (hc1 : c1 = f + 6) (hs : sp = 0) (hd : dp = 0) (hn : n = 2) (dj : f + 7 ≤ f2 ∨ f2 + 7 ≤ f) : FC (kCpy h1 c0 c1 sp dp n) f h f2 := by
  subst hc0; subst hc1; subst hs; subst hd; subst hn
  obtain ⟨p1, p2, p3⟩ := p
  refine ⟨by rw [kCpy_at, if_neg (by omega)]; exact p1, fun i b hi hb => by rw [kCpy_at, if_neg (by omega)]; exact p2 i b hi hb, fun i hi => ?_⟩
  rw [kCpy_at, if_pos ⟨rfl, by omega, by omega⟩, p3 _ (by omega)]
  congr 1
  omega
/-- one kite more -/
def FA (h h' : kH) (f : Nat) (x1 x2 x3 x4 x5 : Int) : Prop := h' f 6 = h f 6 + 1 ∧ (∀ i a : Nat, (i : Int) < h f 6 → a < 5 → h' (f + 1 + a) i = h (f + 1 + a) i) ∧
  (h' (f + 1) (h f 6).toNat = x1 ∧ h' (f + 2) (h f 6).toNat = x2 ∧ h' (f + 3) (h f 6).toNat = x3 ∧ h' (f + 4) (h f 6).toNat = x4 ∧ h' (f + 5) (h f 6).toNat = x5) ∧ ∀ i, h' (f + 6) i = h (f + 6) i
theorem FA.mk {h : kH} {f : Nat} {n : Nat} {x1 x2 x3 x4 x5 w : Int} (hn : (n : Int) = h f 6) (hw : w = h f 6 + 1) : FA h (kU (kU (kU (kU (kU (kU h (f + 1) n x1) (f + 2) n x2) (f + 3) n x3) (f + 4) n x4) (f + 5) n x5) f 6 w) f x1 x2 x3 x4 x5 := by
  have e : (h f 6).toNat = n := by omega
  refine ⟨by rw [kU_at, if_pos ⟨rfl, rfl⟩]; exact hw, fun i a hi ha => ?_, ?_, fun i => ?_⟩
  · simp only [kU_at]
    rw [if_neg (by omega), if_neg (by omega), if_neg (by omega), if_neg (by omega), if_neg (by omega), if_neg (by omega)]
  · rw [e]
    simp only [kU_at]
    refine ⟨?_, ?_, ?_, ?_, ?_⟩
    · rw [if_neg (by omega), if_neg (by omega), if_neg (by omega), if_neg (by omega), if_neg (by omega), if_pos (by first | omega | simp)]
    · rw [if_neg (by omega), if_neg (by omega), if_neg (by omega), if_neg (by omega), if_pos (by first | omega | simp)]
    · rw [if_neg (by omega), if_neg (by omega), if_neg (by omega), if_pos (by first | omega | simp)]
    · rw [if_neg (by omega), if_neg (by omega), if_pos (by first | omega | simp)]
    · rw [if_neg (by omega), if_pos (by first | omega | simp)]
  · simp only [kU_at]
    rw [if_neg (by omega), if_neg (by omega), if_neg (by omega), if_neg (by omega), if_neg (by omega), if_neg (by omega)]
theorem FA.fe {h h' : kH} {f : Nat} {x1 x2 x3 x4 x5 : Int} {k k' : Nat → Int} {n : Nat} {w0 w1 : Int} (b : FA h h' f x1 x2 x3 x4 x5) (a : FE h f k n w0 w1) (e : ∀ j, j < 5 * n → k' j = k j)
    (e0 : k' (5 * n) = x1) (e1 : k' (5 * n + 1) = x2) (e2 : k' (5 * n + 2) = x3) (e3 : k' (5 * n + 3) = x4) (e4 : k' (5 * n + 4) = x5) : FE h' f k' ((n : Int) + 1) w0 w1 := by
  obtain ⟨a1, a2, a3, a4⟩ := a
  obtain ⟨b1, b2, ⟨c1, c2, c3, c4, c5⟩, b4⟩ := b
  have en : (h f 6).toNat = n := by omega
  rw [en] at c1 c2 c3 c4 c5
  refine ⟨by omega, fun i c hi hc => ?_, (b4 0).trans a3, (b4 1).trans a4⟩
  by_cases q : i = n
  · subst q
    rcases (show c = 0 ∨ c = 1 ∨ c = 2 ∨ c = 3 ∨ c = 4 by omega) with rfl | rfl | rfl | rfl | rfl
    · exact c1.trans e0.symm
    · exact c2.trans e1.symm
    · exact c3.trans e2.symm
    · exact c4.trans e3.symm
    · exact c5.trans e4.symm
  · rw [b2 i c (by omega) hc, a2 i c (by omega) hc, e _ (by omega)]
/-- how many of the first k are kept -/
def kc (p : Nat → Bool) : Nat → Nat
  | 0 => 0
  | k + 1 => kc p k + (if p k then 1 else 0)
theorem kc_le (p : Nat → Bool) : ∀ k, kc p k ≤ k := by
  intro k
  induction k with
  | zero => exact Nat.le_refl 0
  | succ k ih => rw [kc]; split <;> omega
theorem kc_mono (p : Nat → Bool) {j k : Nat} (h : j ≤ k) : kc p j ≤ kc p k := by
  induction k with
  | zero => rw [show j = 0 by omega]; exact Nat.le_refl _
  | succ k ih =>
    by_cases e : j = k + 1
    · rw [e]; exact Nat.le_refl _
    · have := ih (by omega)
      rw [kc]; omega
theorem kc_lt (p : Nat → Bool) {j k : Nat} (h : j < k) (hp : p j = true) : kc p j < kc p k := by
  have h1 : kc p (j + 1) = kc p j + 1 := by rw [kc, if_pos hp]
  have := kc_mono p (show j + 1 ≤ k by omega)
  omega
theorem kc_on (p : Nat → Bool) : ∀ {k i : Nat}, i < kc p k → ∃ j, j < k ∧ p j = true ∧ kc p j = i := by
  intro k
  induction k with
  | zero => intro i h; exact absurd h (Nat.not_lt_zero _)
  | succ k ih =>
    intro i h
    by_cases e : i < kc p k
    · obtain ⟨j, h1, h2, h3⟩ := ih e
      exact ⟨j, by omega, h2, h3⟩
    · rw [kc] at h
      cases hp : p k with
      | true => rw [hp] at h; simp at h; exact ⟨k, by omega, hp, by omega⟩
      | false => rw [hp] at h; simp at h; omega
/-- the fleet is being thinned: the kites before k are looked at -/
def DR (h h1 : kH) (f : Nat) (p : Nat → Bool) (k : Nat) : Prop := (∀ j a : Nat, j < k → p j = true → a < 5 → h1 (f + 1 + a) (kc p j) = h (f + 1 + a) j) ∧ (∀ j a : Nat, k ≤ j → a < 5 → h1 (f + 1 + a) j = h (f + 1 + a) j) ∧ h1 f 6 = h f 6 ∧ ∀ i, h1 (f + 6) i = h (f + 6) i
theorem DR.z {h : kH} {f : Nat} {p : Nat → Bool} : DR h h f p 0 := ⟨fun j a hj => absurd hj (by omega), fun _ _ _ _ => rfl, rfl, fun _ => rfl⟩
theorem DR.no {h h1 : kH} {f k : Nat} {p : Nat → Bool} (d : DR h h1 f p k) (hp : p k = false) : DR h h1 f p (k + 1) := by
  obtain ⟨d1, d2, d3, d4⟩ := d
  refine ⟨fun j a hj hpj ha => ?_, fun j a hj ha => d2 j a (by omega) ha, d3, d4⟩
  by_cases e : j = k
  · rw [e, hp] at hpj; exact absurd hpj Bool.false_ne_true
  · exact d1 j a (by omega) hpj ha
theorem DR.yes {h h1 : kH} {f k l : Nat} {p : Nat → Bool} {v1 v2 v3 v4 v5 : Int} (d : DR h h1 f p k) (hp : p k = true) (hl : l = kc p k)
    (e1 : v1 = h1 (f + 1) k) (e2 : v2 = h1 (f + 2) k) (e3 : v3 = h1 (f + 3) k) (e4 : v4 = h1 (f + 4) k) (e5 : v5 = h1 (f + 5) k) :
    DR h (kU (kU (kU (kU (kU h1 (f + 1) l v1) (f + 2) l v2) (f + 3) l v3) (f + 4) l v4) (f + 5) l v5) f p (k + 1) := by
  obtain ⟨d1, d2, d3, d4⟩ := d
  have hlk : l ≤ k := by rw [hl]; exact kc_le p k
  refine ⟨fun j a hj hpj ha => ?_, fun j a hj ha => ?_, ?_, fun i => ?_⟩
  · by_cases e : j = k
    · subst e
      rw [← hl]
      rcases (show a = 0 ∨ a = 1 ∨ a = 2 ∨ a = 3 ∨ a = 4 by omega) with rfl | rfl | rfl | rfl | rfl
      · simp only [kU_at]
        rw [if_neg (by omega), if_neg (by omega), if_neg (by omega), if_neg (by omega), if_pos (by first | omega | simp), e1]
        exact d2 j 0 (Nat.le_refl _) (by omega)
      · simp only [kU_at]
        rw [if_neg (by omega), if_neg (by omega), if_neg (by omega), if_pos (by first | omega | simp), e2]
        exact d2 j 1 (Nat.le_refl _) (by omega)
      · simp only [kU_at]
        rw [if_neg (by omega), if_neg (by omega), if_pos (by first | omega | simp), e3]
        exact d2 j 2 (Nat.le_refl _) (by omega)
      · simp only [kU_at]
        rw [if_neg (by omega), if_pos (by first | omega | simp), e4]
        exact d2 j 3 (Nat.le_refl _) (by omega)
      · simp only [kU_at]
        rw [if_pos (by first | omega | simp), e5]
        exact d2 j 4 (Nat.le_refl _) (by omega)
    · have := kc_lt p (show j < k by omega) hpj
      simp only [kU_at]
      rw [if_neg (by omega), if_neg (by omega), if_neg (by omega), if_neg (by omega), if_neg (by omega)]
      exact d1 j a (by omega) hpj ha
  · simp only [kU_at]
    rw [if_neg (by omega), if_neg (by omega), if_neg (by omega), if_neg (by omega), if_neg (by omega)]
    exact d2 j a (by omega) ha
  · simp only [kU_at]
    rw [if_neg (by omega), if_neg (by omega), if_neg (by omega), if_neg (by omega), if_neg (by omega)]
    exact d3
  · simp only [kU_at]
    rw [if_neg (by omega), if_neg (by omega), if_neg (by omega), if_neg (by omega), if_neg (by omega)]
    exact d4 i
/-- the kites that p keeps, in their order -/
def FD (h h' : kH) (f : Nat) (p : Nat → Bool) : Prop := h' f 6 = kc p (h f 6).toNat ∧ (∀ k a : Nat, (k : Int) < h f 6 → p k = true → a < 5 → h' (f + 1 + a) (kc p k) = h (f + 1 + a) k) ∧ ∀ i, h' (f + 6) i = h (f + 6) i
theorem DR.end {h h1 : kH} {f n : Nat} {p : Nat → Bool} {w : Int} (d : DR h h1 f p n) (hn : (n : Int) = h f 6) (hw : w = kc p n) : FD h (kU h1 f 6 w) f p := by
  obtain ⟨d1, d2, d3, d4⟩ := d
  refine ⟨?_, fun k a hk hp ha => by rw [kU_at, if_neg (by omega)]; exact d1 k a (by omega) hp ha, fun i => by rw [kU_at, if_neg (by omega)]; exact d4 i⟩
  rw [kU_at, if_pos ⟨rfl, rfl⟩, hw, show (h f 6).toNat = n by omega]
theorem FD.fe {h h' : kH} {f : Nat} {p : Nat → Bool} {k k' : Nat → Int} {n : Int} {w0 w1 w0' w1' : Int} (b : FD h h' f p) (a : FE h f k n w0 w1) (hn : 0 ≤ n) (e : ∀ j c : Nat, (j : Int) < n → p j = true → c < 5 → k' (5 * kc p j + c) = k (5 * j + c)) (h0 : w0' = h' (f + 6) 0) (h1 : w1' = h' (f + 6) 1) : FE h' f k' (kc p n.toNat) w0' w1' := by
  obtain ⟨a1, a2, a3, a4⟩ := a
  obtain ⟨b1, b2, b3⟩ := b
  refine ⟨by rw [b1, a1], fun i c hi hc => ?_, h0.symm, h1.symm⟩
  obtain ⟨j, j1, j2, j3⟩ := kc_on p (show i < kc p n.toNat by omega)
  rw [← j3, b2 j c (by omega) j2 hc, a2 j c (by omega) hc, e j c (by omega) j2 hc]
/-- how often w stands among the first k -/
def cnt (v : Nat → Int) (w : Int) : Nat → Int
  | 0 => 0
  | k + 1 => cnt v w k + (if v k = w then 1 else 0)
theorem cnt_le (v : Nat → Int) (w : Int) : ∀ k : Nat, 0 ≤ cnt v w k ∧ cnt v w k ≤ k := by
  intro k
  induction k with
  | zero => exact ⟨Int.le_refl 0, Int.le_refl 0⟩
  | succ k ih => rw [cnt]; split <;> omega
theorem cnt_congr {v v' : Nat → Int} {w : Int} : ∀ {k : Nat}, (∀ i, i < k → v i = v' i) → cnt v w k = cnt v' w k := by
  intro k
  induction k with
  | zero => intro _; rfl
  | succ k ih => intro h; rw [cnt, cnt, ih (fun i hi => h i (by omega)), h k (by omega)]
/-- the kites that the bits b leave -/
def pB (b : Int) : Nat → Bool := fun k => !(tb b k)
theorem pB_t {b x v : Int} (hx : 0 ≤ x) (hv : v = if tb b x then 1 else 0) (h0 : v = 0) : pB b x.toNat = true := by
  unfold pB
  rw [show ((x.toNat : Nat) : Int) = x by omega]
  cases q : tb b x
  · rfl
  · rw [q] at hv; simp at hv; omega
theorem pB_f {b x v : Int} (hx : 0 ≤ x) (hv : v = if tb b x then 1 else 0) (h0 : v ≠ 0) : pB b x.toNat = false := by
  unfold pB
  rw [show ((x.toNat : Nat) : Int) = x by omega]
  cases q : tb b x
  · rw [q] at hv; simp at hv; omega
  · rfl
def DI (h h1 : kH) (f : Nat) (b x2 x3 : Int) : Prop := (0 ≤ x2 ∧ x2 ≤ x3 ∧ x3 ≤ 8) ∧ x3 ≤ h f 6 ∧ x2 = kc (pB b) x3.toNat ∧ DR h h1 f (pB b) x3.toNat
theorem DI.no {h h1 : kH} {f : Nat} {b x2 x3 v : Int} (d : DI h h1 f b x2 x3) (hv : v = if tb b x3 then 1 else 0) (h0 : v ≠ 0) (hx : x3 < h f 6) (h8 : h f 6 ≤ 8) : DI h h1 f b x2 (x3 + 1) := by
  obtain ⟨d1, d2, d3, d4⟩ := d
  have hp := pB_f (by omega) hv h0
  refine ⟨by omega, by omega, ?_, ?_⟩
  · rw [show (x3 + 1).toNat = x3.toNat + 1 by omega, kc, hp]; simp; omega
  · rw [show (x3 + 1).toNat = x3.toNat + 1 by omega]; exact d4.no hp
theorem DI.yes {h h1 : kH} {f l k : Nat} {b x2 x3 v v1 v2 v3 v4 v5 : Int} (d : DI h h1 f b x2 x3) (hv : v = if tb b x3 then 1 else 0) (h0 : v = 0) (hx : x3 < h f 6) (h8 : h f 6 ≤ 8) (hl : l = x2.toNat) (hk : k = x3.toNat)
    (e1 : v1 = h1 (f + 1) k) (e2 : v2 = h1 (f + 2) k) (e3 : v3 = h1 (f + 3) k) (e4 : v4 = h1 (f + 4) k) (e5 : v5 = h1 (f + 5) k) :
    DI h (kU (kU (kU (kU (kU h1 (f + 1) l v1) (f + 2) l v2) (f + 3) l v3) (f + 4) l v4) (f + 5) l v5) f b (x2 + 1) (x3 + 1) := by
  obtain ⟨d1, d2, d3, d4⟩ := d
  have hp := pB_t (by omega) hv h0
  subst hk
  refine ⟨by omega, by omega, ?_, ?_⟩
  · rw [show (x3 + 1).toNat = x3.toNat + 1 by omega, kc, hp]; simp; omega
  · rw [show (x3 + 1).toNat = x3.toNat + 1 by omega]; exact d4.yes hp (by omega) e1 e2 e3 e4 e5
/-- a kite of the fleet f stands on the stake x -/
def hsF (h : kH) (f : Nat) (x : Int) : Prop := ∃ i : Nat, (i : Int) < h f 6 ∧ h (f + 2) i = x
