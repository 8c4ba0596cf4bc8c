/-! what the class's calls answer and do -/
/-- the act is remembered -/
def AR (h h' : kH) : Prop := (h' 23 1 = (h 23 1 + 1) % 16 ∧ h' 23 2 = min 16 (h 23 2 + 1)) ∧ FC h' (25 + 7 * (h 23 1).toNat) h 6 ∧ ∀ c, 25 ≤ c → c < 137 → c < 25 + 7 * (h 23 1).toNat ∨ 32 + 7 * (h 23 1).toNat ≤ c → h' c = h c
theorem AR.of {h h1 h2 : kH} (a : AR h h1) (hr : 0 ≤ h 23 1 ∧ h 23 1 ≤ 15) (e : ∀ c, 23 ≤ c → c < 137 → h2 c = h1 c) : AR h h2 := by
  obtain ⟨⟨a1, a2⟩, a3, a4⟩ := a
  exact ⟨⟨by rw [e 23 (by omega) (by omega)]; exact a1, by rw [e 23 (by omega) (by omega)]; exact a2⟩, a3.tr (FC.same (fun c q r => e c (by omega) (by omega))), fun c q r s => (e c (by omega) r).trans (a4 c q r s)⟩
theorem FA.of {h h1 h' : kH} {x1 x2 x3 x4 x5 : Int} (a : FA h1 h' 6 x1 x2 x3 x4 x5) (e : ∀ c, c < 23 → h1 c = h c) : FA h h' 6 x1 x2 x3 x4 x5 := by
  obtain ⟨a1, a2, a3, a4⟩ := a
  rw [e 6 (by omega)] at a1 a3
  refine ⟨a1, fun i c hi hc => ?_, a3, fun i => ?_⟩
  · rw [← e (6 + 1 + c) (by omega)]; exact a2 i c (by rw [e 6 (by omega)]; exact hi) hc
  · rw [← e (6 + 6) (by omega)]; exact a4 i
theorem FD.of {h h1 h' : kH} {p : Nat → Bool} (a : FD h1 h' 6 p) (e : ∀ c, c < 23 → h1 c = h c) : FD h h' 6 p := by
  obtain ⟨a1, a2, a3⟩ := a
  rw [e 6 (by omega)] at a1
  refine ⟨a1, fun i c hi hp hc => ?_, fun i => ?_⟩
  · rw [← e (6 + 1 + c) (by omega)]; exact a2 i c (by rw [e 6 (by omega)]; exact hi) hp hc
  · rw [← e (6 + 6) (by omega)]; exact a3 i
theorem BLW.of {h h1 h' : kH} {z : Int} (a : BLW h1 h' 3 z) (e : ∀ c, c < 23 → h1 c = h c) : BLW h h' 3 z := by
  obtain ⟨hx, ⟨a1, a2⟩, a3, a4, a5, a6⟩ := a
  have e4 := e (3 + 1) (by omega)
  have e6 := e (3 + 3) (by omega)
  have e7 := e (3 + 3 + 1) (by omega)
  have e9 := e (3 + 3 + 3) (by omega)
  have e10 := e (3 + 3 + 4) (by omega)
  have e12 := e (3 + 3 + 6) (by omega)
  have eb : ∀ k, blX h1 3 k = blX h 3 k := fun k => by unfold blX; rw [e9, e4, e10]
  rw [e6] at a2 a3 a4 a5 a6
  refine ⟨hx, ⟨fun c hc hn => (a1 c hc hn).trans (e c (by omega)), fun k hk => by rw [← eb]; exact a2 k hk⟩, a3, a4, a5, fun t ht => ?_⟩
  rw [a6 t ht, e12, e7]
theorem LF.of {h h1 h2 : kH} {x : Int} (a : LF h h1 x) (e : ∀ c, 6 ≤ c → c ≤ 12 → h2 c = h1 c) : LF h h2 x := by
  unfold LF
  rw [e 6 (by omega) (by omega), e 7 (by omega) (by omega), e 8 (by omega) (by omega), e 9 (by omega) (by omega), e 10 (by omega) (by omega), e 11 (by omega) (by omega), e 12 (by omega) (by omega)]
  exact a
def ktF (n : Int) (v : Nat → Nat → Int) (e : Nat → Int) (x y : Int) : Int := if 0 ≤ x ∧ x < n then (if 0 ≤ y ∧ y ≤ 4 then v x.toNat y.toNat else if y = 5 then e x.toNat else -2) else -1
section Kt
variable {n : Int} {v : Nat → Nat → Int} {e : Nat → Int} {x y z : Int}
theorem ktF_no (h : ¬ (0 ≤ x ∧ x < n)) (hz : z = -1) : z = ktF n v e x y := by unfold ktF; rw [if_neg h, hz]
theorem ktF_at (h : 0 ≤ x ∧ x < n) (h2 : 0 ≤ y ∧ y ≤ 4) (hz : z = v x.toNat y.toNat) : z = ktF n v e x y := by unfold ktF; rw [if_pos h, if_pos h2, hz]
theorem ktF_e (h : 0 ≤ x ∧ x < n) (h2 : y = 5) (hz : z = e x.toNat) : z = ktF n v e x y := by unfold ktF; rw [if_pos h, if_neg (by omega), if_pos h2, hz]
theorem ktF_o (h : 0 ≤ x ∧ x < n) (h2 : ¬ (0 ≤ y ∧ y ≤ 5)) (hz : z = -2) : z = ktF n v e x y := by unfold ktF; rw [if_pos h, if_neg (by omega), if_neg (by omega), hz]
end Kt
def CWwind (h h' : kH) (x w z : Int) : Prop :=
  ((1 ≤ x ∧ x ≤ 9 ∧ -3 ≤ w ∧ w ≤ 3) ∧ z = h 4 x.toNat + 3 ∧ ∀ j, h' 4 j = if j = x.toNat then w else h 4 j) ∨ (¬ (1 ≤ x ∧ x ≤ 9 ∧ -3 ≤ w ∧ w ≤ 3) ∧ z = -2 ∧ h' = h)
def CWrise (h h' : kH) (x n z : Int) : Prop :=
  (¬ (0 ≤ x ∧ x < h 6 6) ∧ z = -1 ∧ h' = h) ∨ ((0 ≤ x ∧ x < h 6 6) ∧ ¬ (-8 ≤ n ∧ n ≤ 8 ∧ 1 ≤ h 10 x.toNat + n ∧ h 10 x.toNat + n ≤ 9) ∧ z = -2 ∧ h' = h) ∨
  ((0 ≤ x ∧ x < h 6 6) ∧ (-8 ≤ n ∧ n ≤ 8 ∧ 1 ≤ h 10 x.toNat + n ∧ h 10 x.toNat + n ≤ 9) ∧ z = h 10 x.toNat + n ∧ AR h h' ∧ (∀ c, 6 ≤ c → c ≤ 12 → c ≠ 10 → h' c = h c) ∧ ∀ j, h' 10 j = if j = x.toNat then h 10 x.toNat + n else h 10 j)
def CWrun (h h' : kH) (x s z : Int) : Prop :=
  (¬ (0 ≤ x ∧ x < h 6 6) ∧ z = -1 ∧ h' = h) ∨ ((0 ≤ x ∧ x < h 6 6) ∧ ¬ (0 ≤ s ∧ s ≤ 40) ∧ z = -2 ∧ h' = h) ∨ ((0 ≤ x ∧ x < h 6 6) ∧ (0 ≤ s ∧ s ≤ 40) ∧ hsF h 6 s ∧ z = -3 ∧ h' = h) ∨
  ((0 ≤ x ∧ x < h 6 6) ∧ (0 ≤ s ∧ s ≤ 40) ∧ ¬ hsF h 6 s ∧ z = kAbs (s - h 8 x.toNat) ∧ AR h h' ∧ (∀ c, 6 ≤ c → c ≤ 12 → c ≠ 8 → h' c = h c) ∧ ∀ j, h' 8 j = if j = x.toNat then s else h 8 j)
def CWlaunch (h h' : kH) (t s e gl z : Int) : Prop :=
  (¬ ((0 ≤ t ∧ t ≤ 1) ∧ (0 ≤ s ∧ s ≤ 40) ∧ (1 ≤ e ∧ e ≤ 9) ∧ 0 ≤ gl ∧ gl ≤ 9) ∧ z = -2 ∧ h' = h) ∨ (((0 ≤ t ∧ t ≤ 1) ∧ (0 ≤ s ∧ s ≤ 40) ∧ (1 ≤ e ∧ e ≤ 9) ∧ 0 ≤ gl ∧ gl ≤ 9) ∧ hsF h 6 s ∧ z = -3 ∧ h' = h) ∨
  (((0 ≤ t ∧ t ≤ 1) ∧ (0 ≤ s ∧ s ≤ 40) ∧ (1 ≤ e ∧ e ≤ 9) ∧ 0 ≤ gl ∧ gl ≤ 9) ∧ ¬ hsF h 6 s ∧ 8 ≤ h 6 6 ∧ z = -4 ∧ h' = h) ∨
  (((0 ≤ t ∧ t ≤ 1) ∧ (0 ≤ s ∧ s ≤ 40) ∧ (1 ≤ e ∧ e ≤ 9) ∧ 0 ≤ gl ∧ gl ≤ 9) ∧ ¬ hsF h 6 s ∧ h 6 6 < 8 ∧ z = h 6 6 ∧ AR h h' ∧ FA h h' 6 t s s e gl)
def CWtakeIn (h h' : kH) (x z : Int) : Prop := (¬ (0 ≤ x ∧ x < h 6 6) ∧ z = -1 ∧ h' = h) ∨ ((0 ≤ x ∧ x < h 6 6) ∧ z = h' 6 6 ∧ AR h h' ∧ FD h h' 6 (pB (kShl 1 x)))
def CWgust (h h' : kH) (z : Int) : Prop := kR z ∧ AR h h' ∧ BLW h h' 3 z
def CWundo (h h' : kH) (z : Int) : Prop := (h 23 2 = 0 ∧ z = -3 ∧ h' = h) ∨ (h 23 2 ≠ 0 ∧ z = h 23 2 - 1 ∧ h' 23 1 = (h 23 1 + 15) % 16 ∧ h' 23 2 = h 23 2 - 1 ∧ FC h' 6 h (25 + 7 * ((h 23 1 + 15) % 16).toNat))
def CWwar (h h' : kH) (z : Int) : Prop := ∃ fl : Int, FaultIs (h 2) (h 1 1) fl ∧ ((fl ≠ -9 ∧ z = -3 ∧ h' = h) ∨ (fl = -9 ∧ z = h' 6 6 ∧ LW h h' 10 ∧ LF h h' ((h 1 1 - 10) / 8) ∧ h' 23 2 = 0 ∧ ∀ s : Nat, s < 2 → h' (138 + 11 * s) 1 = 0))
def CWkeep (h h' : kH) (x z : Int) : Prop := (¬ (0 ≤ x ∧ x ≤ 1) ∧ z = -1 ∧ h' = h) ∨
  ((0 ≤ x ∧ x ≤ 1) ∧ z = h 6 6 ∧ h' (138 + 11 * x.toNat) 1 = 1 ∧ FC h' (142 + 11 * x.toNat) h 6 ∧ (∀ i, i < 10 → h' (140 + 11 * x.toNat) i = h 4 i) ∧ ∀ c, c < 138 + 11 * x.toNat ∨ 149 + 11 * x.toNat ≤ c → h' c = h c)
def CWagain (h h' : kH) (x z : Int) : Prop := (¬ (0 ≤ x ∧ x ≤ 1) ∧ z = -1 ∧ h' = h) ∨ ((0 ≤ x ∧ x ≤ 1) ∧ h (138 + 11 * x.toNat) 1 = 0 ∧ z = -3 ∧ h' = h) ∨
  ((0 ≤ x ∧ x ≤ 1) ∧ h (138 + 11 * x.toNat) 1 ≠ 0 ∧ z = h' 6 6 ∧ FC h' 6 h (142 + 11 * x.toNat) ∧ (∀ i, h' 4 i = if i < 10 then h (140 + 11 * x.toNat) i else h 4 i) ∧ h' 23 2 = 0 ∧ h' 23 1 = h 23 1)
def CWsee (h h' : kH) (x y b z : Int) : Prop := (¬ ((0 ≤ x ∧ x < h 6 6 ∧ x < 4) ∧ (0 ≤ y ∧ y < h 6 6 ∧ y < 4)) ∧ z = -1 ∧ h' = h) ∨ (((0 ≤ x ∧ x < h 6 6 ∧ x < 4) ∧ (0 ≤ y ∧ y < h 6 6 ∧ y < 4)) ∧ x = y ∧ z = -2 ∧ h' = h) ∨ (((0 ≤ x ∧ x < h 6 6 ∧ x < 4) ∧ (0 ≤ y ∧ y < h 6 6 ∧ y < 4)) ∧ x ≠ y ∧ 8 ≤ h 169 6 ∧ z = -4 ∧ h' = h) ∨
  (((0 ≤ x ∧ x < h 6 6 ∧ x < 4) ∧ (0 ≤ y ∧ y < h 6 6 ∧ y < 4)) ∧ x ≠ y ∧ h 169 6 < 8 ∧ z = h 169 6 + 1 ∧ h' 169 6 = h 169 6 + 1 ∧ (∀ j, h' 170 j = if j = (h 169 6).toNat then min x y else h 170 j) ∧ (∀ j, h' 171 j = if j = (h 169 6).toNat then max x y else h 171 j) ∧ ∀ j, h' 172 j = if j = (h 169 6).toNat then b else h 172 j)
def ctF (l n c w0 w1 a s x : Int) : Int := if x = 0 then l else if x = 1 then n else if x = 2 then c else if x = 3 then w0 else if x = 4 then w1 else if x = 5 then a else if x = 6 then s else -2
def CWcross (h : kH) (x y z : Int) : Prop :=
  (¬ ((0 ≤ x ∧ x < h 6 6) ∧ 0 ≤ y ∧ y < h 6 6) ∧ z = -1) ∨ (((0 ≤ x ∧ x < h 6 6) ∧ 0 ≤ y ∧ y < h 6 6) ∧ x = y ∧ z = -2) ∨
  (((0 ≤ x ∧ x < h 6 6) ∧ 0 ≤ y ∧ y < h 6 6) ∧ x ≠ y ∧ ((z = 1 ∧ mt h 6 x.toNat y.toNat) ∨ (z = 0 ∧ ¬ mt h 6 x.toNat y.toNat)))
/-- a wind by the seed -/
theorem shr33 (x c : UInt64) (hc : (c.toBitVec % 64).toNat = 33) : ∃ n : Nat, n < 2147483648 ∧ (x >>> c).toInt64 = lN n := by
  have hx : x.toBitVec.toNat < 18446744073709551616 := x.toBitVec.isLt
  have hd : x.toBitVec.toNat / 8589934592 < 2147483648 := by omega
  refine ⟨x.toBitVec.toNat / 8589934592, hd, ?_⟩
  apply Int64.toBitVec_inj.mp
  apply BitVec.eq_of_toNat_eq
  show (x.toBitVec >>> (c.toBitVec % 64).toNat).toNat = (BitVec.ofNat 64 _).toNat
  rw [hc, BitVec.toNat_ushiftRight, Nat.shiftRight_eq_div_pow, BitVec.toNat_ofNat, Nat.mod_eq_of_lt (by omega)]
theorem wd7 (a : Int) : 0 ≤ kL2i (kLrem (kLushr a 33) 7) ∧ kL2i (kLrem (kLushr a 33) 7) ≤ 6 := by
  unfold kL2i kLrem kLushr
  obtain ⟨n, hn, e⟩ := shr33 (Int64.ofInt a).toUInt64 ((Int32.ofInt 33).toInt64.toUInt64 &&& Int64.toUInt64 63) (by decide +kernel)
  rw [e, Int64.ofInt_toInt, Int64.ofInt_toInt, show Int64.ofInt 7 = lN 7 by decide, pk_lRem (by omega) (by omega) (by omega), lN_i, nI_toInt (by omega)]
  omega
