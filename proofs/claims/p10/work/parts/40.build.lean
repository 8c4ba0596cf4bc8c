/-! the constructors: cells are made one behind another; a shape's codes: 0 an int 0, 1 a long 0, 2 null, n + 3 a reference to cell n; 10 ints, 11 booleans (with the length); 12, 13 references -/
abbrev bS : Type := List (Nat × List Nat)
def bFv (ad : Nat → Nat) (f : Nat) : Value := match f with
  | 0 => .int 0
  | 1 => .long 0
  | 2 => .null
  | n + 3 => .ref (ad n)
def bRf (ad : Nat → Nat) (f : Nat) : Option Nat := match f with
  | n + 3 => some (ad n)
  | _ => none
def bCell (dA : Nat → ClassId) (ad : Nat → Nat) (s : Nat × List Nat) : va_E :=
  if s.1 < 10 then .inr (s.1, s.2.map (bFv ad))
  else if s.1 < 12 then .inl (dA s.1, s.2.headD 0, .inl (fun _ => 0))
  else .inl (dA s.1, s.2.length, .inr (.inr (.inr (.inr (fun j => (s.2[j]?).bind (bRf ad))))))
def bW (dA : Nat → ClassId) (ad : Nat → Nat) (B : bS) : va_W := B.mapIdx (fun i s => (ad i, bCell dA ad s))
/-- no reference leads beyond n -/
def bOk (n : Nat) (s : Nat × List Nat) : Bool := (Nat.beq s.1 10 || Nat.beq s.1 11) || s.2.all (fun f => Nat.blt f (n + 3))
def bWf (B : bS) : Bool := B.all (bOk B.length)
theorem bW_at {dA : Nat → ClassId} {ad : Nat → Nat} {B : bS} {c : Nat} {s : Nat × List Nat} (h : B[c]? = some s) : (bW dA ad B)[c]? = some (ad c, bCell dA ad s) := by
  simp [bW, List.getElem?_mapIdx, h]
theorem bFv_congr {ad ad' : Nat → Nat} {n f : Nat} (h : ∀ i, i < n → ad' i = ad i) (hf : f < n + 3) : bFv ad' f = bFv ad f := by
  match f, hf with
  | 0, _ => rfl
  | 1, _ => rfl
  | 2, _ => rfl
  | k + 3, hf => simp only [bFv]; rw [h k (by omega)]
theorem bRf_congr {ad ad' : Nat → Nat} {n f : Nat} (h : ∀ i, i < n → ad' i = ad i) (hf : f < n + 3) : bRf ad' f = bRf ad f := by
  match f, hf with
  | 0, _ => rfl
  | 1, _ => rfl
  | 2, _ => rfl
  | k + 3, hf => simp only [bRf]; rw [h k (by omega)]
theorem bCell_congr {dA : Nat → ClassId} {ad ad' : Nat → Nat} {n : Nat} {s : Nat × List Nat} (h : ∀ i, i < n → ad' i = ad i) (hs : bOk n s = true) : bCell dA ad' s = bCell dA ad s := by
  unfold bCell
  by_cases h1 : s.1 < 10
  · have hne : (Nat.beq s.1 10 || Nat.beq s.1 11) = false := by rw [beqF (by omega), beqF (by omega)]; rfl
    rw [if_pos h1, if_pos h1]
    rw [bOk, hne, Bool.false_or, List.all_eq_true] at hs
    congr 2
    apply List.map_congr_left
    intro f hf
    exact bFv_congr h (Nat.le_of_ble_eq_true (hs f hf))
  · rw [if_neg h1, if_neg h1]
    by_cases h2 : s.1 < 12
    · rw [if_pos h2, if_pos h2]
    · rw [if_neg h2, if_neg h2]
      have hne : (Nat.beq s.1 10 || Nat.beq s.1 11) = false := by rw [beqF (by omega), beqF (by omega)]; rfl
      rw [bOk, hne, Bool.false_or, List.all_eq_true] at hs
      congr 7
      funext j
      cases hj : s.2[j]? with
      | none => rfl
      | some f => exact bRf_congr h (Nat.le_of_ble_eq_true (hs f (List.mem_of_getElem? hj)))
theorem bW_congr {dA : Nat → ClassId} {ad ad' : Nat → Nat} {B : bS} (h : ∀ i, i < B.length → ad' i = ad i) (hB : bWf B = true) : bW dA ad' B = bW dA ad B := by
  apply List.ext_getElem?
  intro k
  by_cases hk : k < B.length
  · have e : B[k]? = some B[k] := List.getElem?_eq_getElem hk
    rw [bW_at e, bW_at e, h k hk, bCell_congr h (List.all_eq_true.mp hB _ (List.getElem_mem hk))]
  · rw [List.getElem?_eq_none (by simp [bW]; omega), List.getElem?_eq_none (by simp [bW]; omega)]
theorem bW_set {dA : Nat → ClassId} {ad : Nat → Nat} {B : bS} {c : Nat} {s : Nat × List Nat} : (bW dA ad B).set c (ad c, bCell dA ad s) = bW dA ad (B.set c s) := by
  apply List.ext_getElem?
  intro k
  by_cases hk : k < B.length
  · by_cases e : k = c
    · subst e
      rw [List.getElem?_set_self (by simpa [bW] using hk), bW_at (s := s) (List.getElem?_set_self hk)]
    · have e2 : B[k]? = some B[k] := List.getElem?_eq_getElem hk
      rw [List.getElem?_set_ne (fun q => e q.symm), bW_at e2, bW_at (s := B[k]) (by rw [List.getElem?_set_ne (fun q => e q.symm)]; exact e2)]
  · rw [List.getElem?_eq_none (by simp [bW]; omega), List.getElem?_eq_none (by simp [bW]; omega)]
/-- the addresses, one more -/
def bAd (ad : Nat → Nat) (n q : Nat) : Nat → Nat := fun i => if i = n then q else ad i
theorem bW_push {dA : Nat → ClassId} {ad : Nat → Nat} {B : bS} {q : Nat} {s : Nat × List Nat} (hB : bWf B = true) (hs : bOk 0 s = true) : bW dA ad B ++ [(q, bCell dA ad s)] = bW dA (bAd ad B.length q) (B ++ [s]) := by
  have e1 : bW dA (bAd ad B.length q) B = bW dA ad B := bW_congr (fun i hi => by simp [bAd, show i ≠ B.length by omega]) hB
  have e2 : bCell dA (bAd ad B.length q) s = bCell dA ad s := bCell_congr (n := 0) (fun i hi => absurd hi (by omega)) hs
  have e3 : bW dA (bAd ad B.length q) (B ++ [s]) = bW dA (bAd ad B.length q) B ++ [(q, bCell dA ad s)] := by
    unfold bW
    rw [List.mapIdx_append]
    simp [e2, bAd]
  rw [e3, e1]
/-- a callee's cells among the caller's: its cell n is the caller's cell k + n -/
def bSh (k : Nat) (s : Nat × List Nat) : Nat × List Nat := if s.1 = 10 ∨ s.1 = 11 then s else (s.1, s.2.map (fun f => if f < 3 then f else f + k))
theorem bFv_sh {ad : Nat → Nat} {k f : Nat} : bFv ad (if f < 3 then f else f + k) = bFv (fun i => ad (k + i)) f := by
  match f with
  | 0 => rfl
  | 1 => rfl
  | 2 => rfl
  | n + 3 => simp only [show ¬ n + 3 < 3 by omega, if_false, show n + 3 + k = (k + n) + 3 by omega, bFv]
theorem bRf_sh {ad : Nat → Nat} {k f : Nat} : bRf ad (if f < 3 then f else f + k) = bRf (fun i => ad (k + i)) f := by
  match f with
  | 0 => rfl
  | 1 => rfl
  | 2 => rfl
  | n + 3 => simp only [show ¬ n + 3 < 3 by omega, if_false, show n + 3 + k = (k + n) + 3 by omega, bRf]
theorem bCell_sh {dA : Nat → ClassId} {ad : Nat → Nat} {k : Nat} {s : Nat × List Nat} : bCell dA ad (bSh k s) = bCell dA (fun i => ad (k + i)) s := by
  unfold bSh
  by_cases h0 : s.1 = 10 ∨ s.1 = 11
  · rw [if_pos h0]
    have h1 : ¬ s.1 < 10 := by omega
    have h2 : s.1 < 12 := by omega
    simp only [bCell, if_neg h1, if_pos h2]
  · rw [if_neg h0]
    unfold bCell
    by_cases h1 : s.1 < 10
    · simp only [if_pos h1, List.map_map]
      congr 2
      apply List.map_congr_left
      intro f _
      exact bFv_sh
    · have h2 : ¬ s.1 < 12 := by omega
      simp only [if_neg h1, if_neg h2, List.length_map]
      congr 7
      funext j
      rw [List.getElem?_map]
      cases s.2[j]? with
      | none => rfl
      | some f => exact bRf_sh
theorem bW_app {dA : Nat → ClassId} {ad : Nat → Nat} {B0 B1 : bS} : bW dA ad B0 ++ bW dA (fun i => ad (B0.length + i)) B1 = bW dA ad (B0 ++ B1.map (bSh B0.length)) := by
  unfold bW
  rw [List.mapIdx_append]
  congr 1
  apply List.ext_getElem?
  intro j
  rw [List.getElem?_mapIdx, List.getElem?_mapIdx, List.getElem?_map]
  cases hj : B1[j]? with
  | none => rfl
  | some s => simp only [Option.map_some, bCell_sh, Nat.add_comm j B0.length]
