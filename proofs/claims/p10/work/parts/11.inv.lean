/-! fleets and skies; what every heap of the run holds of its numbers -/
def FL : List Nat := [6, 16, 25, 32, 39, 46, 53, 60, 67, 74, 81, 88, 95, 102, 109, 116, 123, 130, 142, 153, 173]
def SK : List Nat := [3, 13, 139, 150]
theorem fl6 : (6 : Nat) ∈ FL := by decide
theorem fl16 : (16 : Nat) ∈ FL := by decide
theorem fl173 : (173 : Nat) ∈ FL := by decide
theorem sk3 : (3 : Nat) ∈ SK := by decide
theorem sk13 : (13 : Nat) ∈ SK := by decide
theorem sk139 : (139 : Nat) ∈ SK := by decide
theorem sk150 : (150 : Nat) ∈ SK := by decide
theorem sk_fl {s : Nat} (hs : s ∈ SK) : s + 3 ∈ FL := (by decide : ∀ s ∈ SK, s + 3 ∈ FL) s hs
theorem S_Fl {f : Nat} (hf : f ∈ FL) : kS f = (1, [f+1+2, f+2+2, f+3+2, f+4+2, f+5+2, f+6+2, 0]) := (by decide +kernel : ∀ f ∈ FL, kS f = (1, [f+1+2, f+2+2, f+3+2, f+4+2, f+5+2, f+6+2, 0])) f hf
theorem S_Fl1 {f : Nat} (hf : f ∈ FL) : kS (f+1) = (10, [8]) := (by decide +kernel : ∀ f ∈ FL, kS (f+1) = (10, [8])) f hf
theorem S_Fl2 {f : Nat} (hf : f ∈ FL) : kS (f+2) = (10, [8]) := (by decide +kernel : ∀ f ∈ FL, kS (f+2) = (10, [8])) f hf
theorem S_Fl3 {f : Nat} (hf : f ∈ FL) : kS (f+3) = (10, [8]) := (by decide +kernel : ∀ f ∈ FL, kS (f+3) = (10, [8])) f hf
theorem S_Fl4 {f : Nat} (hf : f ∈ FL) : kS (f+4) = (10, [8]) := (by decide +kernel : ∀ f ∈ FL, kS (f+4) = (10, [8])) f hf
theorem S_Fl5 {f : Nat} (hf : f ∈ FL) : kS (f+5) = (10, [8]) := (by decide +kernel : ∀ f ∈ FL, kS (f+5) = (10, [8])) f hf
theorem S_Fl6 {f : Nat} (hf : f ∈ FL) : kS (f+6) = (10, [2]) := (by decide +kernel : ∀ f ∈ FL, kS (f+6) = (10, [2])) f hf
theorem S_Sk {s : Nat} (hs : s ∈ SK) : kS s = (4, [s+3+2, s+1+2, s+2+2]) := (by decide +kernel : ∀ s ∈ SK, kS s = (4, [s+3+2, s+1+2, s+2+2])) s hs
theorem S_Sk1 {s : Nat} (hs : s ∈ SK) : kS (s+1) = (10, [10]) := (by decide +kernel : ∀ s ∈ SK, kS (s+1) = (10, [10])) s hs
theorem S_Sk2 {s : Nat} (hs : s ∈ SK) : kS (s+2) = (10, [8]) := (by decide +kernel : ∀ s ∈ SK, kS (s+2) = (10, [8])) s hs
/-- the kind of each cell's numbers: 1 towns, 2 heights, 3 a fleet, 4 the text, 5 its bytes, 6 acts, 7 plans, 8 seen, 9 numbers of kites, 10 the reference, 11 its kites, 12 its row, 13 what it kept, 14 its numbers of kites seen, 15 places, 16 glass, 17 winds -/
def kBf : List Nat := [3, 1, 15, 15, 2, 16, 0]
def kBs : List Nat := [0, 17, 0] ++ kBf
def kBc : List Nat := [0, 4, 5] ++ kBs ++ kBs ++ [6, 0] ++ kBf ++ kBf ++ kBf ++ kBf ++ kBf ++ kBf ++ kBf ++ kBf ++ kBf ++ kBf ++ kBf ++ kBf ++ kBf ++ kBf ++ kBf ++ kBf ++ [0, 18] ++ kBs ++ [18] ++ kBs ++ [7, 2, 15, 0, 0, 0, 0, 0, 0] ++ [8, 9, 9, 1] ++ kBf ++ [0, 0] ++ [0, 0] ++
  [10, 11, 17, 11, 17, 0, 5, 12, 0, 14, 14, 1, 0, 0, 17, 1, 13]
theorem kBc_len : kBc.length = kN := by decide +kernel
def kBk (c : Nat) : Nat := kBc.getD c 0
def bK (a : Nat) (v : Int) : Prop := (a % 5 = 0 → 0 ≤ v ∧ v ≤ 1) ∧ (a % 5 = 3 → 0 ≤ v ∧ v ≤ 9) ∧ (a % 5 = 4 → 0 ≤ v ∧ v ≤ 9)
def bR (a : Nat) (v : Int) : Prop := (a % 43 < 40 → (a % 43 % 5 = 0 → 0 ≤ v ∧ v ≤ 1) ∧ (a % 43 % 5 = 3 → 0 ≤ v ∧ v ≤ 9) ∧ (a % 43 % 5 = 4 → 0 ≤ v ∧ v ≤ 9)) ∧ (a % 43 = 40 → 0 ≤ v ∧ v ≤ 8)
def bP (a : Nat) (v : Int) : Prop := (a % 53 < 40 → (a % 53 % 5 = 0 → 0 ≤ v ∧ v ≤ 1) ∧ (a % 53 % 5 = 3 → 0 ≤ v ∧ v ≤ 9) ∧ (a % 53 % 5 = 4 → 0 ≤ v ∧ v ≤ 9)) ∧ (a % 53 = 50 → 0 ≤ v ∧ v ≤ 8) ∧ (40 ≤ a % 53 → a % 53 < 50 → -3 ≤ v ∧ v ≤ 3)
def bM (a : Nat) (v : Int) : Prop := ((a = 1 ∨ a = 4 ∨ a = 16) → 0 ≤ v ∧ v ≤ 8) ∧ ((a = 8 ∨ a = 9) → 0 ≤ v ∧ v ≤ 74) ∧ (a = 12 → 0 ≤ v ∧ v ≤ 15) ∧ (a = 10 → -9 ≤ v ∧ v ≤ 74) ∧ (a = 11 → 0 ≤ v ∧ v ≤ 16)
def kPk (t i : Nat) (v : Int) : Prop :=
  (t = 1 → 0 ≤ v ∧ v ≤ 1) ∧ (t = 2 → 0 ≤ v ∧ v ≤ 9) ∧ (t = 3 → i = 6 → 0 ≤ v ∧ v ≤ 8) ∧ (t = 4 → i = 1 → 0 ≤ v ∧ v ≤ 74) ∧ (t = 5 → 0 ≤ v ∧ v ≤ 255) ∧ (t = 6 → (i = 1 → 0 ≤ v ∧ v ≤ 15) ∧ (i = 2 → 0 ≤ v ∧ v ≤ 16)) ∧ (t = 7 → i = 8 → 0 ≤ v ∧ v ≤ 243) ∧ (t = 8 → i = 6 → 0 ≤ v ∧ v ≤ 8) ∧ (t = 9 → 0 ≤ v ∧ v ≤ 7) ∧ (t = 10 → bM i v) ∧ (t = 11 → bK i v) ∧ (t = 12 → bR i v) ∧ (t = 13 → bP i v) ∧ (t = 14 → 0 ≤ v ∧ v ≤ 3) ∧ (t = 15 → 0 ≤ v ∧ v ≤ 40) ∧ (t = 16 → 0 ≤ v ∧ v ≤ 9) ∧ (t = 17 → -3 ≤ v ∧ v ≤ 3) ∧ (t = 18 → i = 1 → 0 ≤ v ∧ v ≤ 1)
def kP (c i : Nat) (v : Int) : Prop := kPk (kBk c) i v
theorem kP_any {c i : Nat} {v : Int} (hb : kBk c = 0) : kP c i v := by unfold kP; rw [hb]; simp [kPk]
/-- a fleet of the reference, five numbers a kite: places, heights, and no stake twice -/
def FK (k : Nat → Int) (n : Int) : Prop := ∀ i : Nat, (i : Int) < n → (0 ≤ k (5 * i + 1) ∧ k (5 * i + 1) ≤ 40) ∧ (0 ≤ k (5 * i + 2) ∧ k (5 * i + 2) ≤ 40) ∧ (1 ≤ k (5 * i + 3) ∧ k (5 * i + 3) ≤ 9) ∧ ∀ j : Nat, (j : Int) < n → j ≠ i → k (5 * i + 1) ≠ k (5 * j + 1)
theorem FK.congr {k k' : Nat → Int} {n : Int} (hn : n ≤ 8) (e : ∀ j, j < 40 → k' j = k j) (a : FK k n) : FK k' n := by
  intro i hi
  obtain ⟨h1, h2, h3, h4⟩ := a i hi
  rw [e (5 * i + 1) (by omega), e (5 * i + 2) (by omega), e (5 * i + 3) (by omega)]
  refine ⟨h1, h2, h3, fun j hj hne => ?_⟩
  rw [e (5 * j + 1) (by omega)]
  exact h4 j hj hne
def MOk (h : kH) : Prop := FK (h 187) (h 184 4) ∧ (∀ r, r < 16 → FK (fun j => h 191 (43 * r + j)) (h 191 (43 * r + 40))) ∧ (∀ s, s < 2 → FK (fun j => h 200 (53 * s + j)) (h 200 (53 * s + 50)))
theorem MOk.of {h h' : kH} (e1 : h' 187 = h 187) (e2 : h' 191 = h 191) (e3 : h' 200 = h 200) (e4 : h' 184 4 = h 184 4) (a : MOk h) : MOk h' := by
  unfold MOk
  rw [e1, e2, e3, e4]
  exact a
/-- the numbers that the checks look at: the texts' lengths and the seeds; and whether the reference's fleets are whole -/
abbrev kGh : Type := Int × Int × Int × Int × Prop
def kFree0 (c i : Nat) : Bool := !(Nat.beq c 1 && Nat.beq i 1) && !(Nat.beq c 0 && Nat.beq i 8) && !(Nat.beq c 184 && Nat.beq i 8) && !(Nat.beq c 184 && Nat.beq i 22)
def kFree (c i : Nat) : Bool := kFree0 c i && !(Nat.beq c 187) && !(Nat.beq c 191) && !(Nat.beq c 200) && !(Nat.beq c 184 && Nat.beq i 4)
def Gd (g : kGh) (h : kH) : Prop := (∀ c i, kP c i (h c i)) ∧ h 1 1 = g.1 ∧ h 0 8 = g.2.1 ∧ h 184 8 = g.2.2.1 ∧ h 184 22 = g.2.2.2.1 ∧ (g.2.2.2.2 → MOk h)
def kNf (g : kGh) : kGh := (g.1, g.2.1, g.2.2.1, g.2.2.2.1, False)
theorem Gd.nf {g : kGh} {h : kH} (hI : Gd g h) : Gd (kNf g) h := ⟨hI.1, hI.2.1, hI.2.2.1, hI.2.2.2.1, hI.2.2.2.2.1, fun e => e.elim⟩
theorem Gd.fn {g : kGh} {h : kH} (hI : Gd (kNf g) h) (hM : g.2.2.2.2 → MOk h) : Gd g h := ⟨hI.1, hI.2.1, hI.2.2.1, hI.2.2.2.1, hI.2.2.2.2.1, hM⟩
theorem kFree0_ne {c i : Nat} (hf : kFree0 c i = true) : ¬ (c = 1 ∧ i = 1) ∧ ¬ (c = 0 ∧ i = 8) ∧ ¬ (c = 184 ∧ i = 8) ∧ ¬ (c = 184 ∧ i = 22) := by
  simp only [kFree0, Bool.and_eq_true, Bool.not_eq_true', Bool.and_eq_false_iff] at hf
  refine ⟨?_, ?_, ?_, ?_⟩
  · rintro ⟨rfl, rfl⟩; simp at hf
  · rintro ⟨rfl, rfl⟩; simp at hf
  · rintro ⟨rfl, rfl⟩; simp at hf
  · rintro ⟨rfl, rfl⟩; simp at hf
theorem kFree_ne {c i : Nat} (hf : kFree c i = true) : kFree0 c i = true ∧ c ≠ 187 ∧ c ≠ 191 ∧ c ≠ 200 ∧ ¬ (c = 184 ∧ i = 4) := by
  simp only [kFree, Bool.and_eq_true, Bool.not_eq_true', Bool.and_eq_false_iff] at hf
  refine ⟨hf.1.1.1.1, ?_, ?_, ?_, ?_⟩
  · rintro rfl; simp at hf
  · rintro rfl; simp at hf
  · rintro rfl; simp at hf
  · rintro ⟨rfl, rfl⟩; simp at hf
theorem kU_at (h : kH) (c i : Nat) (v : Int) (d j : Nat) : kU h c i v d j = if d = c ∧ j = i then v else h d j := by
  by_cases hd : d = c
  · subst hd
    by_cases hj : j = i <;> simp [kU, hj]
  · simp [kU, hd]
/-- a store, where the reference's fleets are seen to: by hM -/
theorem Gd.stM {g : kGh} {h : kH} {c i : Nat} {v : Int} (hp : kP c i v) (hf : kFree0 c i = true) (hM : g.2.2.2.2 → MOk h → MOk (kU h c i v)) (hI : Gd g h) : Gd g (kU h c i v) := by
  obtain ⟨f1, f2, f3, f4⟩ := kFree0_ne hf
  obtain ⟨h0, h1, h2, h3, h4, h5⟩ := hI
  refine ⟨fun d j => ?_, ?_, ?_, ?_, ?_, fun e => hM e (h5 e)⟩
  · rw [kU_at]
    by_cases e : d = c ∧ j = i
    · rw [if_pos e, e.1, e.2]; exact hp
    · rw [if_neg e]; exact h0 d j
  · rw [kU_at, if_neg (fun e => f1 ⟨e.1.symm, e.2.symm⟩)]; exact h1
  · rw [kU_at, if_neg (fun e => f2 ⟨e.1.symm, e.2.symm⟩)]; exact h2
  · rw [kU_at, if_neg (fun e => f3 ⟨e.1.symm, e.2.symm⟩)]; exact h3
  · rw [kU_at, if_neg (fun e => f4 ⟨e.1.symm, e.2.symm⟩)]; exact h4
theorem MOk.put {h : kH} {c i : Nat} {v : Int} (hf : kFree c i = true) (a : MOk h) : MOk (kU h c i v) := by
  obtain ⟨-, f1, f2, f3, f4⟩ := kFree_ne hf
  refine MOk.of (kU_c _ _ _ _ (Ne.symm f1)) (kU_c _ _ _ _ (Ne.symm f2)) (kU_c _ _ _ _ (Ne.symm f3)) ?_ a
  rw [kU_at, if_neg (fun e => f4 ⟨e.1.symm, e.2.symm⟩)]
theorem Gd.st {g : kGh} {h : kH} {c i : Nat} {v : Int} (hp : kP c i v) (hf : kFree c i = true) (hI : Gd g h) : Gd g (kU h c i v) := Gd.stM hp (kFree_ne hf).1 (fun _ a => a.put hf) hI
theorem kCpy_at (h : kH) (c0 c1 sp dp n d j : Nat) : kCpy h c0 c1 sp dp n d j = if d = c1 ∧ dp ≤ j ∧ j < dp + n then h c0 (sp + (j - dp)) else h d j := by
  by_cases hd : d = c1
  · subst hd
    by_cases hj : dp ≤ j ∧ j < dp + n <;> simp [kCpy, hj]
  · simp [kCpy, hd]
theorem kCpy_c (h : kH) (c0 c1 sp dp n : Nat) {d : Nat} (hd : d ≠ c1) : kCpy h c0 c1 sp dp n d = h d := by simp [kCpy, hd]
theorem Gd.cp {g : kGh} {h : kH} {c0 c1 sp dp n : Nat} (hp : ∀ j v, j < n → kP c0 (sp + j) v → kP c1 (dp + j) v) (hf : ∀ i, kFree c1 i = true) (hI : Gd g h) : Gd g (kCpy h c0 c1 sp dp n) := by
  obtain ⟨h0, h1, h2, h3, h4, h5⟩ := hI
  have g1 := fun i => kFree0_ne (kFree_ne (hf i)).1
  have g2 := kFree_ne (hf 4)
  have g3 := kFree_ne (hf 4)
  refine ⟨fun d j => ?_, ?_, ?_, ?_, ?_, fun e => MOk.of (kCpy_c _ _ _ _ _ _ (Ne.symm g2.2.1)) (kCpy_c _ _ _ _ _ _ (Ne.symm g2.2.2.1)) (kCpy_c _ _ _ _ _ _ (Ne.symm g2.2.2.2.1)) ?_ (h5 e)⟩
  · rw [kCpy_at]
    by_cases e : d = c1 ∧ dp ≤ j ∧ j < dp + n
    · rw [if_pos e, e.1]
      have := hp (j - dp) _ (by omega) (h0 c0 (sp + (j - dp)))
      rwa [show dp + (j - dp) = j by omega] at this
    · rw [if_neg e]; exact h0 d j
  · rw [kCpy_at, if_neg (fun e => (g1 1).1 ⟨e.1.symm, rfl⟩)]; exact h1
  · rw [kCpy_at, if_neg (fun e => (g1 8).2.1 ⟨e.1.symm, rfl⟩)]; exact h2
  · rw [kCpy_at, if_neg (fun e => (g1 8).2.2.1 ⟨e.1.symm, rfl⟩)]; exact h3
  · rw [kCpy_at, if_neg (fun e => (g1 22).2.2.2 ⟨e.1.symm, rfl⟩)]; exact h4
  · rw [kCpy_at, if_neg (fun e => g3.2.2.2.2 ⟨e.1.symm, rfl⟩)]
/-- a fleet's and a sky's cells: their kinds, and that the checks don't look at them -/
theorem fl_ok : ∀ f ∈ FL, (kBk f = 3 ∧ kBk (f+1) = 1 ∧ kBk (f+2) = 15 ∧ kBk (f+3) = 15 ∧ kBk (f+4) = 2 ∧ kBk (f+5) = 16 ∧ kBk (f+6) = 0) ∧ 2 ≤ f ∧ f < 178 := by decide +kernel
theorem sk_ok : ∀ s ∈ SK, kBk (s+1) = 17 ∧ kBk (s+2) = 0 ∧ 2 ≤ s ∧ s < 160 := by decide +kernel
theorem beqF {c k : Nat} (h : c ≠ k) : Nat.beq c k = false := by
  rw [← Bool.not_eq_true]
  intro e
  exact h (Nat.eq_of_beq_eq_true e)
theorem fr_of {c i : Nat} (h1 : 2 ≤ c) (h2 : c < 184) : kFree c i = true := by
  simp [kFree, kFree0, beqF (show c ≠ 1 by omega), beqF (show c ≠ 0 by omega), beqF (show c ≠ 184 by omega), beqF (show c ≠ 187 by omega), beqF (show c ≠ 191 by omega), beqF (show c ≠ 200 by omega)]
theorem fr_fl {f : Nat} (hf : f ∈ FL) {k i : Nat} (hk : k ≤ 6) : kFree (f + k) i = true := fr_of (by have := (fl_ok f hf).2; omega) (by have := (fl_ok f hf).2; omega)
theorem fr_sk {s : Nat} (hs : s ∈ SK) {k i : Nat} (hk : k ≤ 2) : kFree (s + k) i = true := fr_of (by have := (sk_ok s hs).2; omega) (by have := (sk_ok s hs).2; omega)
theorem kPk1 {i : Nat} {v : Int} : kPk 1 i v ↔ 0 ≤ v ∧ v ≤ 1 := by simp [kPk]
theorem kPk2 {i : Nat} {v : Int} : kPk 2 i v ↔ 0 ≤ v ∧ v ≤ 9 := by simp [kPk]
theorem kPk3 {i : Nat} {v : Int} : kPk 3 i v ↔ (i = 6 → 0 ≤ v ∧ v ≤ 8) := by simp [kPk]
theorem kPk4 {i : Nat} {v : Int} : kPk 4 i v ↔ (i = 1 → 0 ≤ v ∧ v ≤ 74) := by simp [kPk]
theorem kPk5 {i : Nat} {v : Int} : kPk 5 i v ↔ 0 ≤ v ∧ v ≤ 255 := by simp [kPk]
theorem kPk6 {i : Nat} {v : Int} : kPk 6 i v ↔ (i = 1 → 0 ≤ v ∧ v ≤ 15) ∧ (i = 2 → 0 ≤ v ∧ v ≤ 16) := by simp [kPk]
theorem kPk7 {i : Nat} {v : Int} : kPk 7 i v ↔ (i = 8 → 0 ≤ v ∧ v ≤ 243) := by simp [kPk]
theorem kPk8 {i : Nat} {v : Int} : kPk 8 i v ↔ (i = 6 → 0 ≤ v ∧ v ≤ 8) := by simp [kPk]
theorem kPk9 {i : Nat} {v : Int} : kPk 9 i v ↔ 0 ≤ v ∧ v ≤ 7 := by simp [kPk]
theorem kPk10 {i : Nat} {v : Int} : kPk 10 i v ↔ bM i v := by simp [kPk]
theorem kPk11 {i : Nat} {v : Int} : kPk 11 i v ↔ bK i v := by simp [kPk]
theorem kPk12 {i : Nat} {v : Int} : kPk 12 i v ↔ bR i v := by simp [kPk]
theorem kPk13 {i : Nat} {v : Int} : kPk 13 i v ↔ bP i v := by simp [kPk]
theorem kPk15 {i : Nat} {v : Int} : kPk 15 i v ↔ 0 ≤ v ∧ v ≤ 40 := by simp [kPk]
theorem kPk16 {i : Nat} {v : Int} : kPk 16 i v ↔ 0 ≤ v ∧ v ≤ 9 := by simp [kPk]
theorem kPk17 {i : Nat} {v : Int} : kPk 17 i v ↔ -3 ≤ v ∧ v ≤ 3 := by simp [kPk]
theorem kPk18 {i : Nat} {v : Int} : kPk 18 i v ↔ (i = 1 → 0 ≤ v ∧ v ≤ 1) := by simp [kPk]
theorem kPk14 {i : Nat} {v : Int} : kPk 14 i v ↔ 0 ≤ v ∧ v ≤ 3 := by simp [kPk]
theorem kP_of {c t i : Nat} {v : Int} (hb : kBk c = t) : kP c i v ↔ kPk t i v := by unfold kP; rw [hb]
