/-! from the constructors' cells to the heap of ints; the law's start -/
def kPi : List Nat := [0, 1, 2, 3, 11, 12, 4, 5, 6, 7, 8, 9, 10, 13, 21, 22, 14, 15, 16, 17, 18, 19, 20, 23, 24, 25, 26, 27, 28, 29, 30, 31, 32, 33, 34, 35, 36, 37, 38, 39, 40, 41, 42, 43, 44, 45, 46, 47, 48, 49, 50, 51, 52, 53, 54, 55, 56, 57, 58, 59, 60, 61, 62, 63, 64, 65, 66, 67, 68, 69, 70, 71, 72, 73, 74, 75, 76, 77, 78, 79, 80, 81, 82, 83, 84, 85, 86, 87, 88, 89, 90, 91, 92, 93, 94, 95, 96, 97, 98, 99, 100, 101, 102, 103, 104, 105, 106, 107, 108, 109, 110, 111, 112, 113, 114, 115, 116, 117, 118, 119, 120, 121, 122, 123, 124, 125, 126, 127, 128, 129, 130, 131, 132, 133, 134, 135, 136, 137, 162, 163, 171, 172, 164, 165, 166, 167, 168, 169, 170, 173, 174, 182, 183, 175, 176, 177, 178, 179, 180, 181, 138, 139, 140, 141, 142, 143, 144, 145, 146, 147, 148, 149, 150, 151, 152, 153, 154, 155, 156, 157, 158, 159, 160, 161, 184, 185, 186, 187, 188, 189, 190, 191, 192, 193, 194, 195, 196, 197, 198, 199, 200]
def BLaw : bS := [(8, [4, 6, 16, 26, 140, 141, 150, 163, 1]), (7, [5, 0]), (10, [74]), (4, [7, 14, 15]), (1, [8, 9, 10, 11, 12, 13, 0]), (10, [8]), (10, [8]), (10, [8]), (10, [8]), (10, [8]), (10, [2]), (10, [10]), (10, [8]), (4, [17, 24, 25]), (1, [18, 19, 20, 21, 22, 23, 0]), (10, [8]), (10, [8]), (10, [8]), (10, [8]), (10, [8]), (10, [2]), (10, [10]), (10, [8]), (0, [27, 0, 0]), (12, [28, 35, 42, 49, 56, 63, 70, 77, 84, 91, 98, 105, 112, 119, 126, 133]), (1, [29, 30, 31, 32, 33, 34, 0]), (10, [8]), (10, [8]), (10, [8]), (10, [8]), (10, [8]), (10, [2]), (1, [36, 37, 38, 39, 40, 41, 0]), (10, [8]), (10, [8]), (10, [8]), (10, [8]), (10, [8]), (10, [2]), (1, [43, 44, 45, 46, 47, 48, 0]), (10, [8]), (10, [8]), (10, [8]), (10, [8]), (10, [8]), (10, [2]), (1, [50, 51, 52, 53, 54, 55, 0]), (10, [8]), (10, [8]), (10, [8]), (10, [8]), (10, [8]), (10, [2]), (1, [57, 58, 59, 60, 61, 62, 0]), (10, [8]), (10, [8]), (10, [8]), (10, [8]), (10, [8]), (10, [2]), (1, [64, 65, 66, 67, 68, 69, 0]), (10, [8]), (10, [8]), (10, [8]), (10, [8]), (10, [8]), (10, [2]), (1, [71, 72, 73, 74, 75, 76, 0]), (10, [8]), (10, [8]), (10, [8]), (10, [8]), (10, [8]), (10, [2]), (1, [78, 79, 80, 81, 82, 83, 0]), (10, [8]), (10, [8]), (10, [8]), (10, [8]), (10, [8]), (10, [2]), (1, [85, 86, 87, 88, 89, 90, 0]), (10, [8]), (10, [8]), (10, [8]), (10, [8]), (10, [8]), (10, [2]), (1, [92, 93, 94, 95, 96, 97, 0]), (10, [8]), (10, [8]), (10, [8]), (10, [8]), (10, [8]), (10, [2]), (1, [99, 100, 101, 102, 103, 104, 0]), (10, [8]), (10, [8]), (10, [8]), (10, [8]), (10, [8]), (10, [2]), (1, [106, 107, 108, 109, 110, 111, 0]), (10, [8]), (10, [8]), (10, [8]), (10, [8]), (10, [8]), (10, [2]), (1, [113, 114, 115, 116, 117, 118, 0]), (10, [8]), (10, [8]), (10, [8]), (10, [8]), (10, [8]), (10, [2]), (1, [120, 121, 122, 123, 124, 125, 0]), (10, [8]), (10, [8]), (10, [8]), (10, [8]), (10, [8]), (10, [2]), (1, [127, 128, 129, 130, 131, 132, 0]), (10, [8]), (10, [8]), (10, [8]), (10, [8]), (10, [8]), (10, [2]), (1, [134, 135, 136, 137, 138, 139, 0]), (10, [8]), (10, [8]), (10, [8]), (10, [8]), (10, [8]), (10, [2]), (13, [165, 176]), (2, [142, 143, 144, 145, 146, 147, 148, 149, 0]), (10, [24]), (10, [24]), (10, [24]), (10, [24]), (10, [8]), (10, [8]), (10, [243]), (10, [243]), (3, [151, 152, 153, 154, 161, 162, 0]), (10, [8]), (10, [8]), (11, [8]), (1, [155, 156, 157, 158, 159, 160, 0]), (10, [8]), (10, [8]), (10, [8]), (10, [8]), (10, [8]), (10, [2]), (10, [4]), (10, [4]), (6, [164]), (10, [8]), (5, [166, 0]), (4, [167, 174, 175]), (1, [168, 169, 170, 171, 172, 173, 0]), (10, [8]), (10, [8]), (10, [8]), (10, [8]), (10, [8]), (10, [2]), (10, [10]), (10, [8]), (5, [177, 0]), (4, [178, 185, 186]), (1, [179, 180, 181, 182, 183, 184, 0]), (10, [8]), (10, [8]), (10, [8]), (10, [8]), (10, [8]), (10, [2]), (10, [10]), (10, [8]), (9, [188, 0, 189, 190, 0, 191, 192, 193, 0, 0, 0, 0, 0, 194, 195, 0, 0, 196, 197, 198, 199, 200, 1, 201, 202, 203]), (10, [40]), (10, [10]), (10, [80]), (10, [10]), (10, [2]), (10, [74]), (10, [688]), (10, [2]), (10, [8]), (10, [8]), (11, [8]), (10, [4]), (10, [4]), (10, [10]), (11, [2]), (10, [106])]
theorem perm_len : kPi.length = kN := by decide +kernel
/-- the law's cells, in the order of the heap: what the constructors made -/
def kShOk (c : Nat) : Bool := match BLaw[kPi.getD c 0]? with
  | none => false
  | some s => decide (s.1 = (kS c).1) && (if (kS c).1 = 10 ∨ (kS c).1 = 11 then decide (s.2 = (kS c).2) else if (kS c).1 < 10 then decide (s.2 = (kS c).2.map (fun f => if f < 2 then f else kPi.getD (f - 2) 0 + 3)) else decide (s.2 = (kS c).2.map (fun r => kPi.getD r 0 + 3)))
theorem kSh_all : ∀ c, c < 201 → kShOk c = true := by decide +kernel
theorem kPi_lt : ∀ c, c < 201 → kPi.getD c 0 < 201 := by decide +kernel
def kPj : List Nat := [0, 1, 2, 3, 6, 7, 8, 9, 10, 11, 12, 4, 5, 13, 16, 17, 18, 19, 20, 21, 22, 14, 15, 23, 24, 25, 26, 27, 28, 29, 30, 31, 32, 33, 34, 35, 36, 37, 38, 39, 40, 41, 42, 43, 44, 45, 46, 47, 48, 49, 50, 51, 52, 53, 54, 55, 56, 57, 58, 59, 60, 61, 62, 63, 64, 65, 66, 67, 68, 69, 70, 71, 72, 73, 74, 75, 76, 77, 78, 79, 80, 81, 82, 83, 84, 85, 86, 87, 88, 89, 90, 91, 92, 93, 94, 95, 96, 97, 98, 99, 100, 101, 102, 103, 104, 105, 106, 107, 108, 109, 110, 111, 112, 113, 114, 115, 116, 117, 118, 119, 120, 121, 122, 123, 124, 125, 126, 127, 128, 129, 130, 131, 132, 133, 134, 135, 136, 137, 160, 161, 162, 163, 164, 165, 166, 167, 168, 169, 170, 171, 172, 173, 174, 175, 176, 177, 178, 179, 180, 181, 182, 183, 138, 139, 142, 143, 144, 145, 146, 147, 148, 140, 141, 149, 150, 153, 154, 155, 156, 157, 158, 159, 151, 152, 184, 185, 186, 187, 188, 189, 190, 191, 192, 193, 194, 195, 196, 197, 198, 199, 200]
theorem kPj_ok : ∀ c, c < 201 → kPj.getD (kPi.getD c 0) 0 = c := by decide +kernel
theorem kPi_inj : ∀ c, c < 201 → ∀ d, d < 201 → kPi.getD c 0 = kPi.getD d 0 → c = d := fun c hc d hd e => (kPj_ok c hc).symm.trans ((congrArg (fun x => kPj.getD x 0) e).trans (kPj_ok d hd))
theorem kFs_zero (ad : Nat → Nat) (g : Nat → Int) (hg : ∀ j, g j = 0) (fs : List Nat) : ∀ j, kFs ad g j fs = fs.map (fun f => kFv ad 0 f) := by
  induction fs with
  | nil => intro j; rfl
  | cons f fs ih => intro j; simp only [kFs, List.map_cons, hg, ih]
theorem kCell_b {dA : Nat → ClassId} {ad : Nat → Nat} {c : Nat} (hc : c < 201) : ∃ s, BLaw[kPi.getD c 0]? = some s ∧ bCell dA ad s = kCell dA (fun c => ad (kPi.getD c 0)) (fun _ _ => 0) c := by
  have h := kSh_all c hc
  unfold kShOk at h
  cases hs : BLaw[kPi.getD c 0]? with
  | none => rw [hs] at h; cases h
  | some s =>
    rw [hs] at h
    simp only [Bool.and_eq_true, decide_eq_true_eq] at h
    obtain ⟨h1, h2⟩ := h
    refine ⟨s, rfl, ?_⟩
    unfold bCell kCell
    rw [h1]
    by_cases c1 : (kS c).1 < 10
    · have c0 : ¬ ((kS c).1 = 10 ∨ (kS c).1 = 11) := by omega
      rw [if_neg c0, if_pos c1, decide_eq_true_eq] at h2
      rw [if_pos c1, if_pos c1, h2, List.map_map, kFs_zero _ _ (fun _ => rfl)]
      congr 2
      apply List.map_congr_left
      intro f _
      match f with
      | 0 => rfl
      | 1 => rfl
      | n + 2 =>
        show bFv ad (if n + 2 < 2 then n + 2 else kPi.getD (n + 2 - 2) 0 + 3) = Value.ref (ad (kPi.getD n 0))
        rw [if_neg (by omega)]
        rfl
    · rw [if_neg c1, if_neg c1]
      by_cases c2 : (kS c).1 < 12
      · have c0 : (kS c).1 = 10 ∨ (kS c).1 = 11 := by omega
        rw [if_pos c0, decide_eq_true_eq] at h2
        rw [if_pos c2, if_pos c2, h2]
        rfl
      · have c0 : ¬ ((kS c).1 = 10 ∨ (kS c).1 = 11) := by omega
        rw [if_neg c0, if_neg c1, decide_eq_true_eq] at h2
        rw [if_neg c2, if_neg c2, h2, List.length_map]
        congr 7
        funext j
        rw [List.getElem?_map]
        cases (kS c).2[j]? with
        | none => rfl
        | some r => simp [bRf]
theorem BLaw_len : BLaw.length = 201 := by decide +kernel
theorem bW_kW {D : va_G} {dA : Nat → ClassId} {ad : Nat → Nat} {H : Heap} (hP : va_P D classes (bW dA ad BLaw) H) : va_P D classes (kW dA (fun c => ad (kPi.getD c 0)) (fun _ _ => 0)) H := by
  intro k q hq
  obtain ⟨hk, rfl⟩ := kW_lt hq
  obtain ⟨s, h1, h2⟩ := kCell_b (dA := dA) (ad := ad) hk
  have := hP (kPi.getD k 0) _ (bW_at h1)
  rw [h2] at this
  exact this
theorem kInj_b {dA : Nat → ClassId} {ad : Nat → Nat} {A : Nat → Prop} (hD : va_D A (bW dA ad BLaw)) : kInj (fun c => ad (kPi.getD c 0)) := by
  intro c d hc hd e
  obtain ⟨s, h1, -⟩ := kCell_b (dA := dA) (ad := ad) hc
  obtain ⟨t, h2, -⟩ := kCell_b (dA := dA) (ad := ad) hd
  exact kPi_inj c hc d hd (hD.1 _ _ _ _ (bW_at h1) (bW_at h2) e)
theorem Gd_zero : Gd (0, 0, 0, 0, True) (fun _ _ => 0) := by
  refine ⟨fun c i => ?_, rfl, rfl, rfl, rfl, fun _ => ⟨fun i hi => absurd (show (i : Int) < 0 from hi) (by omega), fun r _ i hi => absurd (show (i : Int) < 0 from hi) (by omega), fun s _ i hi => absurd (show (i : Int) < 0 from hi) (by omega)⟩⟩
  unfold kP kPk bM bK bR bP
  simp
/-- behind the constructors the law goes on over the heap of ints -/
theorem KB_K {G : bG} {b L sz : Nat} {xs : Nat → Int32} {ad : Nat → Nat} {pc a1 a2 : Nat} {st : List Value} {z : Int} (h1 : ad 0 = a1) (h2 : ad 184 = a2) (hge : ∀ q, (fun q : Nat => sz ≤ q) q → sz ≤ q)
    (k0 : K X_law (G.1, G.2.1, G.2.2, fun c => ad (kPi.getD c 0)) (lZ b L xs (fun c => ad (kPi.getD c 0))) pc [(0, .ref b), (1, .ref (ad (kPi.getD 0 0))), (2, .ref (ad (kPi.getD 184 0))), (3, kI z)] st (fun _ _ => 0)) :
    ∀ (p : Program) (e : Env) (s : State) (m : MethodId) (below : List Frame) (meth : Method) (c : Code) (H : Heap) (locs : List Loc) (ls : Array Slot), kNs s → s.heap.size = sz → va_X b L xs s s.heap → b < s.heap.size →
    bCx X_law G (fun q => sz ≤ q) p s m #[Value.ref b] meth c → va_P G.2.1 classes (bW G.2.2 ad BLaw) H → va_D (fun q => sz ≤ q) (bW G.2.2 ad BLaw) → va_S (fun q => sz ≤ q) s.heap H locs → lv_has ls 4 [(0, .ref b), (1, .ref a1), (2, .ref a2), (3, kI z)] →
    W p G.1 e room_1 s m #[Value.ref b] below meth c H locs 201 2960 (lw_Z below #[Value.ref b] s) (F0 m pc ls st) := by
  intro p e s m below meth c H locs ls hN hsz hX hbl Cx hP hD hS hl
  subst h1
  subst h2
  refine va_forget (fun q hq => by have := hS.2.2 q hq; omega) ?_
  have hgeA : ∀ c, c < kN → s.heap.size ≤ ad (kPi.getD c 0) := fun c hc => by
    obtain ⟨t, h3, -⟩ := kCell_b (dA := G.2.2) (ad := ad) hc
    have := hD.2 _ _ (bW_at h3)
    omega
  exact k0 p e s m #[Value.ref b] below meth c H [] ls ⟨Cx.1, Cx.2.1, Cx.2.2.1, Cx.2.2.2.1, Cx.2.2.2.2.1, Cx.2.2.2.2.2.1, Cx.2.2.2.2.2.2.1, Cx.2.2.2.2.2.2.2.1, kInj_b hD, Cx.2.2.2.2.2.2.2.2.1, hN, rfl, hX, hbl, hgeA⟩ (bW_kW hP) ⟨hS.1, fun q h1 h2 => hS.2.1 q h1 (by omega), fun q hq => by cases hq⟩ hl
