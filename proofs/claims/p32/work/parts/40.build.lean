section
/-! the constructors: cells are made one behind another; a shape's codes: 0 an int 0, 1 a long 0, 2 null, n + 3 a reference to cell n; 10 ints, 11 booleans (with the length); 12, 13 references -/
abbrev bS : Type := List (Nat × List Nat)
def bFv (ad : Nat → Nat) (f : Nat) : Value := match f with
  | 0 => .int 0
  | 1 => .long 0
  | 2 => .null
  | n + 3 => .ref (ad n)
def bRf (ad : Nat → Nat) (f : Nat) : Option Nat := match f with
  | n + 3 => some (ad n)
  | _ => none
def bCell (dA : Nat → ClassId) (ad : Nat → Nat) (s : Nat × List Nat) : va_E :=
  if s.1 < 10 then .inr (s.1, s.2.map (bFv ad))
  else if s.1 < 12 then .inl (dA s.1, s.2.headD 0, .inl (fun _ => 0))
  else .inl (dA s.1, s.2.length, .inr (.inr (.inr (.inr (fun j => (s.2[j]?).bind (bRf ad))))))
def bW (dA : Nat → ClassId) (ad : Nat → Nat) (B : bS) : va_W := B.mapIdx (fun i s => (ad i, bCell dA ad s))
/-- no reference leads beyond n -/
def bOk (n : Nat) (s : Nat × List Nat) : Bool := (Nat.beq s.1 10 || Nat.beq s.1 11) || s.2.all (fun f => Nat.blt f (n + 3))
def bWf (B : bS) : Bool := B.all (bOk B.length)
theorem bW_at {dA : Nat → ClassId} {ad : Nat → Nat} {B : bS} {c : Nat} {s : Nat × List Nat} (h : B[c]? = some s) : (bW dA ad B)[c]? = some (ad c, bCell dA ad s) := by
  simp [bW, List.getElem?_mapIdx, h]
theorem bFv_congr {ad ad' : Nat → Nat} {n f : Nat} (h : ∀ i, i < n → ad' i = ad i) (hf : f < n + 3) : bFv ad' f = bFv ad f := by
  match f, hf with
  | 0, _ => rfl
  | 1, _ => rfl
  | 2, _ => rfl
  | k + 3, hf => simp only [bFv]; rw [h k (by omega)]
theorem bRf_congr {ad ad' : Nat → Nat} {n f : Nat} (h : ∀ i, i < n → ad' i = ad i) (hf : f < n + 3) : bRf ad' f = bRf ad f := by
  match f, hf with
  | 0, _ => rfl
  | 1, _ => rfl
  | 2, _ => rfl
  | k + 3, hf => simp only [bRf]; rw [h k (by omega)]
theorem bCell_congr {dA : Nat → ClassId} {ad ad' : Nat → Nat} {n : Nat} {s : Nat × List Nat} (h : ∀ i, i < n → ad' i = ad i) (hs : bOk n s = true) : bCell dA ad' s = bCell dA ad s := by
  unfold bCell
  by_cases h1 : s.1 < 10
  · have hne : (Nat.beq s.1 10 || Nat.beq s.1 11) = false := by rw [beqF (by omega), beqF (by omega)]; rfl
    rw [if_pos h1, if_pos h1]
    rw [bOk, hne, Bool.false_or, List.all_eq_true] at hs
    congr 2
    apply List.map_congr_left
    intro f hf
    exact bFv_congr h (Nat.le_of_ble_eq_true (hs f hf))
  · rw [if_neg h1, if_neg h1]
    by_cases h2 : s.1 < 12
    · rw [if_pos h2, if_pos h2]
    · rw [if_neg h2, if_neg h2]
      have hne : (Nat.beq s.1 10 || Nat.beq s.1 11) = false := by rw [beqF (by omega), beqF (by omega)]; rfl
      rw [bOk, hne, Bool.false_or, List.all_eq_true] at hs
      congr 7
      funext j
      cases hj : s.2[j]? with
      | none => rfl
      | some f => exact bRf_congr h (Nat.le_of_ble_eq_true (hs f (List.mem_of_getElem? hj)))
theorem bW_congr {dA : Nat → ClassId} {ad ad' : Nat → Nat} {B : bS} (h : ∀ i, i < B.length → ad' i = ad i) (hB : bWf B = true) : bW dA ad' B = bW dA ad B := by
  apply List.ext_getElem?
  intro k
  by_cases hk : k < B.length
  · have e : B[k]? = some B[k] := List.getElem?_eq_getElem hk
    rw [bW_at e, bW_at e, h k hk, bCell_congr h (List.all_eq_true.mp hB _ (List.getElem_mem hk))]
  · rw [List.getElem?_eq_none (by simp [bW]; omega), List.getElem?_eq_none (by simp [bW]; omega)]
theorem bW_set {dA : Nat → ClassId} {ad : Nat → Nat} {B : bS} {c : Nat} {s : Nat × List Nat} : (bW dA ad B).set c (ad c, bCell dA ad s) = bW dA ad (B.set c s) := by
  apply List.ext_getElem?
  intro k
  by_cases hk : k < B.length
  · by_cases e : k = c
    · subst e
      rw [List.getElem?_set_self (by simpa [bW] using hk), bW_at (s := s) (List.getElem?_set_self hk)]
    · have e2 : B[k]? = some B[k] := List.getElem?_eq_getElem hk
      rw [List.getElem?_set_ne (fun q => e q.symm), bW_at e2, bW_at (s := B[k]) (by rw [List.getElem?_set_ne (fun q => e q.symm)]; exact e2)]
  · rw [List.getElem?_eq_none (by simp [bW]; omega), List.getElem?_eq_none (by simp [bW]; omega)]
/-- the addresses, one more -/
def bAd (ad : Nat → Nat) (n q : Nat) : Nat → Nat := fun i => if i = n then q else ad i
theorem bW_push {dA : Nat → ClassId} {ad : Nat → Nat} {B : bS} {q : Nat} {s : Nat × List Nat} (hB : bWf B = true) (hs : bOk 0 s = true) : bW dA ad B ++ [(q, bCell dA ad s)] = bW dA (bAd ad B.length q) (B ++ [s]) := by
  have e1 : bW dA (bAd ad B.length q) B = bW dA ad B := bW_congr (fun i hi => by simp [bAd, show i ≠ B.length by omega]) hB
  have e2 : bCell dA (bAd ad B.length q) s = bCell dA ad s := bCell_congr (n := 0) (fun i hi => absurd hi (by omega)) hs
  have e3 : bW dA (bAd ad B.length q) (B ++ [s]) = bW dA (bAd ad B.length q) B ++ [(q, bCell dA ad s)] := by
    unfold bW
    rw [List.mapIdx_append]
    simp [e2, bAd]
  rw [e3, e1]
/-- a callee's cells among the caller's: its cell n is the caller's cell k + n -/
def bSh (k : Nat) (s : Nat × List Nat) : Nat × List Nat := if s.1 = 10 ∨ s.1 = 11 then s else (s.1, s.2.map (fun f => if f < 3 then f else f + k))
theorem bFv_sh {ad : Nat → Nat} {k f : Nat} : bFv ad (if f < 3 then f else f + k) = bFv (fun i => ad (k + i)) f := by
  match f with
  | 0 => rfl
  | 1 => rfl
  | 2 => rfl
  | n + 3 => simp only [show ¬ n + 3 < 3 by omega, if_false, show n + 3 + k = (k + n) + 3 by omega, bFv]
theorem bRf_sh {ad : Nat → Nat} {k f : Nat} : bRf ad (if f < 3 then f else f + k) = bRf (fun i => ad (k + i)) f := by
  match f with
  | 0 => rfl
  | 1 => rfl
  | 2 => rfl
  | n + 3 => simp only [show ¬ n + 3 < 3 by omega, if_false, show n + 3 + k = (k + n) + 3 by omega, bRf]
theorem bCell_sh {dA : Nat → ClassId} {ad : Nat → Nat} {k : Nat} {s : Nat × List Nat} : bCell dA ad (bSh k s) = bCell dA (fun i => ad (k + i)) s := by
  unfold bSh
  by_cases h0 : s.1 = 10 ∨ s.1 = 11
  · rw [if_pos h0]
    have h1 : ¬ s.1 < 10 := by omega
    have h2 : s.1 < 12 := by omega
    simp only [bCell, if_neg h1, if_pos h2]
  · rw [if_neg h0]
    unfold bCell
    by_cases h1 : s.1 < 10
    · simp only [if_pos h1, List.map_map]
      congr 2
      apply List.map_congr_left
      intro f _
      exact bFv_sh
    · have h2 : ¬ s.1 < 12 := by omega
      simp only [if_neg h1, if_neg h2, List.length_map]
      congr 7
      funext j
      rw [List.getElem?_map]
      cases s.2[j]? with
      | none => rfl
      | some f => exact bRf_sh
theorem bW_app {dA : Nat → ClassId} {ad : Nat → Nat} {B0 B1 : bS} : bW dA ad B0 ++ bW dA (fun i => ad (B0.length + i)) B1 = bW dA ad (B0 ++ B1.map (bSh B0.length)) := by
  unfold bW
  rw [List.mapIdx_append]
  congr 1
  apply List.ext_getElem?
  intro j
  rw [List.getElem?_mapIdx, List.getElem?_mapIdx, List.getElem?_map]
  cases hj : B1[j]? with
  | none => rfl
  | some s => simp only [Option.map_some, bCell_sh, Nat.add_comm j B0.length]
end
section
/-! the builder's judgement and rules -/
abbrev bG : Type := Launch × va_G × (Nat → ClassId)
/-- what a constructor's contract carries besides the words: calls of nest mates' constructors, the arrays of references -/
def kNc : List Cond := [.methodLinkNest "KitesWar" 9 y_Text_init "KitesWar", .methodLinkNest "KitesWar" 18 y_Sky_init "KitesWar", .methodLinkNest "KitesWar$Sky" 11 y_Fleet_init "KitesWar", .methodLinkNest "KitesWar$Acts" 24 y_Fleet_init "KitesWar", .methodLinkNest "KitesWar" 41 y_Plans_init "KitesWar", .methodLinkNest "KitesWar" 48 y_Seen_init "KitesWar", .methodLinkNest "KitesWar$Seen" 24 y_Fleet_init "KitesWar", .methodLinkNest "KitesWar" 55 y_Tangle_init "KitesWar", .methodLinkNest "KitesWar" 64 y_Slot_init "KitesWar", .methodLinkNest "KitesWar$Slot" 9 y_Sky_init "KitesWar"]
theorem kNc_in : ∀ w ∈ kNc, w ∈ lw_tbl := by decide +kernel
def kNt (U : State) : Prop := (∀ w ∈ kNc, va_Nw w U) ∧ va_AO "KitesWar$Fleet" U ∧ va_AO "KitesWar$Slot" U
theorem kNc_m {w : Cond} (h : w ∈ kNc) : ∃ a i y b, w = .methodLinkNest a i y b := by
  simp only [kNc, List.mem_cons, List.not_mem_nil, or_false] at h
  rcases h with rfl | rfl | rfl | rfl | rfl | rfl | rfl | rfl | rfl | rfl <;> exact ⟨_, _, _, _, rfl⟩
theorem kNt.warm {s U : State} (hW : s.WarmedH U.vm) (h : kNt s) : kNt U := by
  refine ⟨fun w hw => ?_, h.2.1.moved hW.alike, h.2.2.moved hW.alike⟩
  have h2 := h.1 w hw
  obtain ⟨a, i, y, b, rfl⟩ := kNc_m hw
  exact va_Nw.warmM hW h2
theorem kNt.same {u U : State} (hv : u.vm = U.vm) (h : kNt u) : kNt U := by
  refine ⟨fun w hw => ?_, h.2.1.moved (hv ▸ Vm.Alike.refl _), h.2.2.moved (hv ▸ Vm.Alike.refl _)⟩
  have h2 := h.1 w hw
  obtain ⟨a, i, y, b, rfl⟩ := kNc_m hw
  exact va_Nw.same rfl hv h2
abbrev bZ : Type := Room × (List Frame → Array Value → State → State → Prop)
def bCx (X : kX) (G : bG) (A : Nat → Prop) (p : Program) (s : State) (m : MethodId) (args : Array Value) (meth : Method) (c : Code) : Prop :=
  p.tables.exec = Jvm.exec ∧ c.code = X.2.1 ∧ c.maxLocals = X.2.2.1 ∧ s.vm.findClass X.1 = some m.cls ∧ (∀ w ∈ kTb, w.before args s = true) ∧ meth.sig.returnType = X.2.2.2.1 ∧ meth.locks = false ∧
  va_K G.2.1 classes (kTys G.2.2) s ∧ (∀ q ∈ X.2.2.2.2, decode X.2.1 q.1 = .ok q.2) ∧ kNt s ∧ (X.1 = "KitesWarLaw" ∨ meth.name = "<init>") ∧ (∀ q, s.heap.size ≤ q → A q)
def KB (X : kX) (G : bG) (Z : bZ) (A : Nat → Prop) (pc : Nat) (lo : List (Nat × Value)) (st : List Value) (ad : Nat → Nat) (B : bS) (cells slots : Nat) : Prop :=
  ∀ (p : Program) (e : Env) (s : State) (m : MethodId) (args : Array Value) (below : List Frame) (meth : Method) (c : Code) (H : Heap) (locs : List Loc) (ls : Array Slot),
    bCx X G A p s m args meth c → va_P G.2.1 classes (bW G.2.2 ad B) H → va_D A (bW G.2.2 ad B) → va_S A s.heap H locs → lv_has ls X.2.2.1 lo →
    W p G.1 e Z.1 s m args below meth c H locs cells slots (Z.2 below args s) (F0 m pc ls st)
section BRules
variable {X : kX} {G : bG} {Z : bZ} {A : Nat → Prop} {pc i cells slots : Nat} {lo lo' : List (Nat × Value)} {st : List Value} {ad : Nat → Nat} {B B' : bS} {a b : Int}
theorem KB_aload_n {j : Fin 4} {q : Nat} (hd : X.2.2.2.2[i]? = some (pc, .aload_n j, 1)) (hl : kGet lo j.val = some (.ref q)) (k : KB X G Z A (pc + 1) lo (.ref q :: st) ad B cells slots) : KB X G Z A pc lo st ad B cells slots := by
  intro p e s m args below meth c H locs ls C hP hD hS hls
  exact lv_aload_n C.1 C.2.1 (kTab_at C.2.2.2.2.2.2.2.2.1 hd) rfl (kGet_at hls hl) (k p e s m args below meth c H locs ls C hP hD hS hls)
theorem KB_iload_n {j : Fin 4} (hd : X.2.2.2.2[i]? = some (pc, .iload_n j, 1)) (hl : kGet lo j.val = some (kI a)) (k : KB X G Z A (pc + 1) lo (kI a :: st) ad B cells slots) : KB X G Z A pc lo st ad B cells slots := by
  intro p e s m args below meth c H locs ls C hP hD hS hls
  exact lv_iload_n C.1 C.2.1 (kTab_at C.2.2.2.2.2.2.2.2.1 hd) rfl (kGet_at hls hl) (k p e s m args below meth c H locs ls C hP hD hS hls)
theorem KB_iconst {z : Int} (hd : X.2.2.2.2[i]? = some (pc, .iconst z, 1)) (k : KB X G Z A (pc + 1) lo (kI z :: st) ad B cells slots) : KB X G Z A pc lo st ad B cells slots := by
  intro p e s m args below meth c H locs ls C hP hD hS hl
  exact lv_iconst C.1 C.2.1 (kTab_at C.2.2.2.2.2.2.2.2.1 hd) rfl (k p e s m args below meth c H locs ls C hP hD hS hl)
theorem KB_lconst {z : Fin 2} (y : Int) (hd : X.2.2.2.2[i]? = some (pc, .lconst z, 1)) (hz : Int64.ofNat (z : Nat) = Int64.ofInt y) (k : KB X G Z A (pc + 1) lo (kJ y :: st) ad B cells slots) : KB X G Z A pc lo st ad B cells slots := by
  intro p e s m args below meth c H locs ls C hP hD hS hl
  exact lv_lconst C.1 C.2.1 (kTab_at C.2.2.2.2.2.2.2.2.1 hd) hz (k p e s m args below meth c H locs ls C hP hD hS hl)
theorem KB_bipush {z : Int} (hd : X.2.2.2.2[i]? = some (pc, .bipush z, 2)) (hz : (Int8.ofInt z).toInt32 = Int32.ofInt z) (k : KB X G Z A (pc + 2) lo (kI z :: st) ad B cells slots) : KB X G Z A pc lo st ad B cells slots := by
  intro p e s m args below meth c H locs ls C hP hD hS hl
  exact lv_bipush C.1 C.2.1 (kTab_at C.2.2.2.2.2.2.2.2.1 hd) hz (k p e s m args below meth c H locs ls C hP hD hS hl)
theorem KB_sipush {z : Int} (hd : X.2.2.2.2[i]? = some (pc, .sipush z, 3)) (hz : (Int16.ofInt z).toInt32 = Int32.ofInt z) (k : KB X G Z A (pc + 3) lo (kI z :: st) ad B cells slots) : KB X G Z A pc lo st ad B cells slots := by
  intro p e s m args below meth c H locs ls C hP hD hS hl
  exact lv_sipush C.1 C.2.1 (kTab_at C.2.2.2.2.2.2.2.2.1 hd) hz (k p e s m args below meth c H locs ls C hP hD hS hl)
theorem KB_dup {v : Value} (hd : X.2.2.2.2[i]? = some (pc, .dup, 1)) (hv : v.category = 1) (k : KB X G Z A (pc + 1) lo (v :: v :: st) ad B cells slots) : KB X G Z A pc lo (v :: st) ad B cells slots := by
  intro p e s m args below meth c H locs ls C hP hD hS hl
  exact lv_dup C.1 C.2.1 (kTab_at C.2.2.2.2.2.2.2.2.1 hd) hv (k p e s m args below meth c H locs ls C hP hD hS hl)
theorem KB_ist_n {j : Fin 4} (hd : X.2.2.2.2[i]? = some (pc, .istore_n j, 1)) (hn : Nat.ble (j.val + 1) X.2.2.1 = true) (h2 : kNo2 lo j.val = true) (hl : kIns (kDel lo j.val) j.val (kI a) = lo') (k : KB X G Z A (pc + 1) lo' st ad B cells slots) : KB X G Z A pc lo (kI a :: st) ad B cells slots := by
  intro p e s m args below meth c H locs ls C hP hD hS hls
  exact lv_istore_n C.1 C.2.1 (kTab_at C.2.2.2.2.2.2.2.2.1 hd) rfl hls (Nat.le_of_ble_eq_true hn) rfl (fun ls' hl' => k p e s m args below meth c H locs ls' C hP hD hS (lv_mono hl' (by rw [← hl]; exact kIns_ok h2)))
theorem KB_ast_n {j : Fin 4} {q : Nat} (hd : X.2.2.2.2[i]? = some (pc, .astore_n j, 1)) (hn : Nat.ble (j.val + 1) X.2.2.1 = true) (h2 : kNo2 lo j.val = true) (hl : kIns (kDel lo j.val) j.val (.ref q) = lo') (k : KB X G Z A (pc + 1) lo' st ad B cells slots) : KB X G Z A pc lo (.ref q :: st) ad B cells slots := by
  intro p e s m args below meth c H locs ls C hP hD hS hls
  exact lv_astore_n C.1 C.2.1 (kTab_at C.2.2.2.2.2.2.2.2.1 hd) rfl hls (Nat.le_of_ble_eq_true hn) rfl (fun ls' hl' => k p e s m args below meth c H locs ls' C hP hD hS (lv_mono hl' (by rw [← hl]; exact kIns_ok h2)))
theorem KB_inc {j q : Nat} {z : Int} (hd : X.2.2.2.2[i]? = some (pc, .iinc j z, 3)) (hq : lo[q]? = some (j, kI a)) (hn : Nat.ble (j + 1) X.2.2.1 = true) (h2 : kNo2 lo j = true) (hb : a + z = b) (hl : kIns (kDel lo j) j (kI b) = lo') (k : KB X G Z A (pc + 3) lo' st ad B cells slots) : KB X G Z A pc lo st ad B cells slots := by
  intro p e s m args below meth c H locs ls C hP hD hS hls
  subst hb
  exact lv_iinc (v := Int32.ofInt (a + z)) C.1 C.2.1 (kTab_at C.2.2.2.2.2.2.2.2.1 hd) hls hq (by rw [Int32.ofInt_add]) (Nat.le_of_ble_eq_true hn) rfl (fun ls' hl' => k p e s m args below meth c H locs ls' C hP hD hS (lv_mono hl' (by rw [← hl]; exact kIns_ok h2)))
theorem KB_goto {off : Int} (tgt : Nat) (hd : X.2.2.2.2[i]? = some (pc, .goto off, 3)) (ht : (pc : Int) + off = (tgt : Int)) (k : KB X G Z A tgt lo st ad B cells slots) : KB X G Z A pc lo st ad B cells slots := by
  intro p e s m args below meth c H locs ls C hP hD hS hl
  exact lv_goto C.1 C.2.1 (kTab_at C.2.2.2.2.2.2.2.2.1 hd) ht (k p e s m args below meth c H locs ls C hP hD hS hl)
theorem KB_ge_t {off : Int} (tgt : Nat) (hd : X.2.2.2.2[i]? = some (pc, .if_icmp .ge off, 3)) (ht : (pc : Int) + off = (tgt : Int)) (ha : kR a) (hb : kR b) (h : b ≤ a) (k : KB X G Z A tgt lo st ad B cells slots) : KB X G Z A pc lo (kI b :: kI a :: st) ad B cells slots := by
  intro p e s m args below meth c H locs ls C hP hD hS hl
  exact lv_icmp_ge C.1 C.2.1 (kTab_at C.2.2.2.2.2.2.2.2.1 hd) ht (fun _ => k p e s m args below meth c H locs ls C hP hD hS hl) (fun q => absurd ((kR_le hb ha).mpr h) q)
theorem KB_ge_f {off : Int} (tgt : Nat) (hd : X.2.2.2.2[i]? = some (pc, .if_icmp .ge off, 3)) (ht : (pc : Int) + off = (tgt : Int)) (ha : kR a) (hb : kR b) (h : ¬ b ≤ a) (k : KB X G Z A (pc + 3) lo st ad B cells slots) : KB X G Z A pc lo (kI b :: kI a :: st) ad B cells slots := by
  intro p e s m args below meth c H locs ls C hP hD hS hl
  exact lv_icmp_ge C.1 C.2.1 (kTab_at C.2.2.2.2.2.2.2.2.1 hd) ht (fun q => absurd ((kR_le hb ha).mp q) h) (fun _ => k p e s m args below meth c H locs ls C hP hD hS hl)
theorem KB_objInit {idx q : Nat} (hd : X.2.2.2.2[i]? = some (pc, .invokespecial idx, 3)) (hw : Cond.methodLink X.1 idx Lib.objectInit ∈ lw_tbl) (hR : 1 ≤ Z.1.frames ∧ 20 ≤ Z.1.locals) (hcat : (st.map fun v => v.category).sum ≤ 8) (k : KB X G Z A (pc + 3) lo st ad B cells slots) : KB X G Z A pc lo (.ref q :: st) ad B cells slots := by
  intro p e s m args below meth c H locs ls C hP hD hS hl
  refine W.objInit C.1 C.2.1 C.2.2.2.1 (C.2.2.2.2.1 _ (kw hw rfl)) (C.2.2.2.2.1 _ (kw (w := .instanceMethod Lib.objectInit) (by decide +kernel) rfl)) (C.2.2.2.2.1 _ (kw (w := .code Lib.objectInit ⟨#[0xb1]⟩ 1 none) (by decide +kernel) rfl)) (g := F0 m pc ls (.ref q :: st)) rfl (hl.1.trans C.2.2.1.symm) rfl (kTab_at C.2.2.2.2.2.2.2.2.1 hd) hR.1 (by have := lv_room (m := m) (pc := pc) (ls := ls) (rest := .ref q :: st) hcat; omega) ?_
  exact k p e s m args below meth c H locs ls C hP hD hS hl
theorem KB_new {idx k N n : Nat} {C : String} {T : u_T} {fs : List Nat} (hd : X.2.2.2.2[i]? = some (pc, .new idx, 3)) (hc : classes[k]? = some (C, T, N)) (w1 : Cond.classLink X.1 idx C ∈ lw_tbl) (w2 : Cond.instantiable C N ∈ lw_tbl) (w3 : Cond.initialized C ∈ lw_tbl) (hfs : ∀ ad : Nat → Nat, ∀ j, j < N → defaultValue (kTy k j) = vp_V (fs.map (bFv ad)) j) (hn : B.length = n) (hB : bWf B = true) (hk : bOk 0 (k, fs) = true) (hR : cells + 1 ≤ Z.1.cells ∧ slots + N ≤ Z.1.slots) (hB' : B ++ [(k, fs)] = B')
    (k0 : ∀ (q : Nat) (ad' : Nat → Nat), (∀ i, i < n → ad' i = ad i) → ad' n = q → KB X G Z A (pc + 3) lo (.ref q :: st) ad' B' (cells + 1) (slots + N)) : KB X G Z A pc lo st ad B cells slots := by
  intro p e s m args below meth c H locs ls Cx hP hD hS hl
  subst hn
  obtain ⟨hk10, hg⟩ := kCl_get hc
  have ok := kTy_ok k hk10
  rw [hg] at ok
  have hcell : bCell G.2.2 ad (k, fs) = .inr (k, fs.map (bFv ad)) := by simp [bCell, hk10]
  refine va_new (ci := k) (fs := fs.map (bFv ad)) Cx.1 Cx.2.1 Cx.2.2.2.2.1 (kWs_ok _ (List.mem_of_getElem? hc)) (kTy k) ok Cx.2.2.2.1 (Cx.2.2.2.2.1 _ (kw w1 rfl)) (Cx.2.2.2.2.1 _ (kw w2 rfl)) (Cx.2.2.2.2.1 _ (kw w3 rfl)) Cx.2.2.2.2.2.2.2.1 hP hD hS Cx.2.2.2.2.2.2.2.2.2.2.2 hc (hfs ad) hR.1 hR.2 (kTab_at Cx.2.2.2.2.2.2.2.2.1 hd) (fun q H1 hP1 hD1 hS1 => ?_)
  rw [← hcell, bW_push hB hk, hB'] at hP1 hD1
  exact k0 q _ (fun i hi => by simp [bAd, show i ≠ B.length by omega]) (by simp [bAd]) p e s m args below meth c H1 locs ls Cx hP1 hD1 hS1 hl
end BRules
end
section
/-! the builder: arrays, fields, calls, ends -/
theorem kTys_eq {D : va_G} {cl : List vw_C} {tys : List (ClassId × FieldType)} {cA cB : ClassId} {ty : FieldType} {s : State} {t0 : Nat} (hK : va_K D cl (tys ++ [(cA, ty)]) s) (ht : tys[t0]? = some (cB, ty)) (hR : ∀ c : ClassId, va_RA s c ty → s.vm.findClass ("[" ++ ty.toString) = some c) : cA = cB := by
  have h1 := hR cA (hK.2 tys.length (cA, ty) (by simp)).2
  have h2 := hR cB (hK.2 t0 (cB, ty) (by rw [List.getElem?_append_left (List.getElem?_eq_some_iff.mp ht).1]; exact ht)).2
  rw [h1] at h2
  exact Option.some.inj h2
theorem kw_int : Cond.arrayClass .int ∈ kTb := kw (List.mem_of_getElem? (i := 83) (by decide +kernel)) rfl
theorem kw_bool : Cond.arrayClass .boolean ∈ kTb := kw (List.mem_of_getElem? (i := 244) (by decide +kernel)) rfl
theorem bA_int (l : Nat) (cA : ClassId) : vp_cell cA (l, .inl (fun _ => 0)) = arrV cA l (fun _ => defaultValue .int) := rfl
theorem bA_bool (l : Nat) (cA : ClassId) : vp_cell cA (l, .inl (fun _ => 0)) = arrV cA l (fun _ => defaultValue .boolean) := rfl
theorem bA_by {l : Nat} (h : l ≤ 1000) : l * componentBytes .int ≤ 536870912 ∧ l * componentBytes .boolean ≤ 536870912 := by
  have e1 : componentBytes .int = 4 := rfl
  have e2 : componentBytes .boolean = 1 := rfl
  rw [e1, e2]; omega
theorem ty_int : newarray.typeOf .int = .int := rfl
theorem ty_bool : newarray.typeOf .boolean = .boolean := rfl
section BRules2
variable {X : kX} {G : bG} {Z : bZ} {A : Nat → Prop} {pc i cells slots n : Nat} {lo lo' : List (Nat × Value)} {st : List Value} {ad : Nat → Nat} {B B' : bS} {a b : Int}
theorem KB_newI {l : Nat} (hd : X.2.2.2.2[i]? = some (pc, .newarray .int, 2)) (ha : a = l) (hl1 : l ≤ 1000) (hn : B.length = n) (hB : bWf B = true) (hR : cells + 1 ≤ Z.1.cells ∧ slots + l ≤ Z.1.slots) (hB' : B ++ [(10, [l])] = B')
    (k0 : ∀ (q : Nat) (ad' : Nat → Nat), (∀ i, i < n → ad' i = ad i) → ad' n = q → KB X G Z A (pc + 2) lo (.ref q :: st) ad' B' (cells + 1) (slots + l)) : KB X G Z A pc lo (kI a :: st) ad B cells slots := by
  intro p e s m args below meth c H locs ls Cx hP hD hS hl
  subst hn
  subst ha
  have e1 : (Int32.ofInt (l : Int)).toNatClampNeg = l := by rw [kR_clamp ⟨by omega, by omega⟩]; omega
  have e2 : ¬ Int32.ofInt (l : Int) < 0 := fun hc => by
    have := (kR_lt (a := (l : Int)) (b := 0) ⟨by omega, by omega⟩ (by decide)).mp (by simpa using hc)
    omega
  refine va_newa (ty := .int) (a0 := (l, .inl (fun _ => 0))) Cx.1 Cx.2.1 (ty_int ▸ Cx.2.2.2.2.1 _ kw_int) ty_int Cx.2.2.2.2.2.2.2.1 hP hD hS Cx.2.2.2.2.2.2.2.2.2.2.2 (bA_int l) e2 e1 (bA_by hl1).1 hR.1 hR.2 (kTab_at Cx.2.2.2.2.2.2.2.2.1 hd) (fun q cA H1 hK1 hP1 hD1 hS1 => ?_)
  have hcA : cA = G.2.2 10 := kTys_eq (t0 := 0) hK1 rfl (fun c h => h)
  subst hcA
  have hcell : bCell G.2.2 ad (10, [l]) = .inl (G.2.2 10, l, .inl (fun _ => 0)) := rfl
  rw [← hcell, bW_push hB rfl, hB'] at hP1 hD1
  exact k0 q _ (fun i hi => by simp [bAd, show i ≠ B.length by omega]) (by simp [bAd]) p e s m args below meth c H1 locs ls Cx hP1 hD1 hS1 hl
theorem KB_newZ {l : Nat} (hd : X.2.2.2.2[i]? = some (pc, .newarray .boolean, 2)) (ha : a = l) (hl1 : l ≤ 1000) (hn : B.length = n) (hB : bWf B = true) (hR : cells + 1 ≤ Z.1.cells ∧ slots + l ≤ Z.1.slots) (hB' : B ++ [(11, [l])] = B')
    (k0 : ∀ (q : Nat) (ad' : Nat → Nat), (∀ i, i < n → ad' i = ad i) → ad' n = q → KB X G Z A (pc + 2) lo (.ref q :: st) ad' B' (cells + 1) (slots + l)) : KB X G Z A pc lo (kI a :: st) ad B cells slots := by
  intro p e s m args below meth c H locs ls Cx hP hD hS hl
  subst hn
  subst ha
  have e1 : (Int32.ofInt (l : Int)).toNatClampNeg = l := by rw [kR_clamp ⟨by omega, by omega⟩]; omega
  have e2 : ¬ Int32.ofInt (l : Int) < 0 := fun hc => by
    have := (kR_lt (a := (l : Int)) (b := 0) ⟨by omega, by omega⟩ (by decide)).mp (by simpa using hc)
    omega
  refine va_newa (ty := .boolean) (a0 := (l, .inl (fun _ => 0))) Cx.1 Cx.2.1 (ty_bool ▸ Cx.2.2.2.2.1 _ kw_bool) ty_bool Cx.2.2.2.2.2.2.2.1 hP hD hS Cx.2.2.2.2.2.2.2.2.2.2.2 (bA_bool l) e2 e1 (bA_by hl1).2 hR.1 hR.2 (kTab_at Cx.2.2.2.2.2.2.2.2.1 hd) (fun q cA H1 hK1 hP1 hD1 hS1 => ?_)
  have hcA : cA = G.2.2 11 := kTys_eq (t0 := 1) hK1 rfl (fun c h => h)
  subst hcA
  have hcell : bCell G.2.2 ad (11, [l]) = .inl (G.2.2 11, l, .inl (fun _ => 0)) := rfl
  rw [← hcell, bW_push hB rfl, hB'] at hP1 hD1
  exact k0 q _ (fun i hi => by simp [bAd, show i ≠ B.length by omega]) (by simp [bAd]) p e s m args below meth c H1 locs ls Cx hP1 hD1 hS1 hl
theorem bRf_null {ad : Nat → Nat} {l j : Nat} : ((List.replicate l 2)[j]?).bind (bRf ad) = none := by
  by_cases h : j < l
  · simp [h, bRf]
  · simp [h]
theorem KB_anew {idx l t : Nat} {C : String} (ht : t = 12 ∧ C = "KitesWar$Fleet" ∨ t = 13 ∧ C = "KitesWar$Slot") (hd : X.2.2.2.2[i]? = some (pc, .anewarray idx, 3)) (w1 : Cond.classLink X.1 idx C ∈ lw_tbl) (ha : a = l) (hl1 : l ≤ 1000) (hn : B.length = n) (hB : bWf B = true) (hk : bOk 0 (t, List.replicate l 2) = true) (hR : cells + 1 ≤ Z.1.cells ∧ slots + l ≤ Z.1.slots) (hB' : B ++ [(t, List.replicate l 2)] = B')
    (k0 : ∀ (q : Nat) (ad' : Nat → Nat), (∀ i, i < n → ad' i = ad i) → ad' n = q → KB X G Z A (pc + 3) lo (.ref q :: st) ad' B' (cells + 1) (slots + l)) : KB X G Z A pc lo (kI a :: st) ad B cells slots := by
  intro p e s m args below meth c H locs ls Cx hP hD hS hl
  subst hn
  subst ha
  have e1 : (Int32.ofInt (l : Int)).toNatClampNeg = l := by rw [kR_clamp ⟨by omega, by omega⟩]; omega
  have e2 : ¬ Int32.ofInt (l : Int) < 0 := fun hc => by
    have := (kR_lt (a := (l : Int)) (b := 0) ⟨by omega, by omega⟩ (by decide)).mp (by simpa using hc)
    omega
  have hao : va_AO C s := by
    rcases ht with ⟨-, rfl⟩ | ⟨-, rfl⟩
    · exact Cx.2.2.2.2.2.2.2.2.2.1.2.1
    · exact Cx.2.2.2.2.2.2.2.2.2.1.2.2
  refine va_newq Cx.1 Cx.2.1 Cx.2.2.2.1 (Cx.2.2.2.2.1 _ (kw w1 rfl)) hao Cx.2.2.2.2.2.2.2.1 hP hD hS Cx.2.2.2.2.2.2.2.2.2.2.2 e2 e1 (by omega) hR.1 hR.2 (kTab_at Cx.2.2.2.2.2.2.2.2.1 hd) (fun q cA H1 hK1 hP1 hD1 hS1 => ?_)
  have hcA : cA = G.2.2 t := by
    rcases ht with ⟨rfl, rfl⟩ | ⟨rfl, rfl⟩
    · exact kTys_eq (t0 := 2) hK1 rfl (fun c h => by obtain ⟨_, _, _, _, _, h4⟩ := h; exact h4)
    · exact kTys_eq (t0 := 3) hK1 rfl (fun c h => by obtain ⟨_, _, _, _, _, h4⟩ := h; exact h4)
  subst hcA
  have hcell : bCell G.2.2 ad (t, List.replicate l 2) = .inl (G.2.2 t, l, .inr (.inr (.inr (.inr (fun _ => none))))) := by
    have h1 : ¬ t < 10 := by omega
    have h2 : ¬ t < 12 := by omega
    simp only [bCell, if_neg h1, if_neg h2, List.length_replicate, bRf_null]
  rw [← hcell, bW_push hB hk, hB'] at hP1 hD1
  exact k0 q _ (fun i hi => by simp [bAd, show i ≠ B.length by omega]) (by simp [bAd]) p e s m args below meth c H1 locs ls Cx hP1 hD1 hS1 hl
variable {idx k N j f : Nat} {C : String} {T : u_T} {fs : List Nat}
theorem bMap_set {ad : Nat → Nat} : (fs.map (bFv ad)).set j (bFv ad f) = (fs.set j f).map (bFv ad) := by rw [List.map_set]
/-- a final field gets its reference; this is the constructor's first cell -/
theorem KB_putF {a0 v d : Nat} (hX : X.1 ≠ "KitesWarLaw") (hd : X.2.2.2.2[i]? = some (pc, .putfield idx, 3)) (h0 : ad 0 = a0) (hv : ad d = v) (hs : B[0]? = some (k, fs)) (hc : classes[k]? = some (C, T, N)) (hj : j < N) (hjl : j < fs.length) (hfin : (T j).2.2.2 = true) (hdecl : (T j).1 = X.1) (hty : ∃ C', kTy k j = .object C' ∨ ∃ t, kTy k j = .array t) (hw : Cond.fieldLink X.1 idx (T j).1 (T j).2.1 (T j).2.2.1 ∈ lw_tbl) (hB' : B.set 0 (k, fs.set j (d + 3)) = B') (k0 : KB X G Z A (pc + 3) lo st ad B' cells slots) : KB X G Z A pc lo (.ref v :: .ref a0 :: st) ad B cells slots := by
  intro p e s m args below meth c H locs ls Cx hP hD hS hl
  subst h0
  subst hv
  obtain ⟨hk10, hg⟩ := kCl_get hc
  have ok := kTy_ok k hk10
  have nm := kNm_ok k hk10
  rw [hg] at ok nm
  have hcell : ∀ gs : List Nat, bCell G.2.2 ad (k, gs) = .inr (k, gs.map (bFv ad)) := fun gs => by simp [bCell, hk10]
  have hnar : narrow (kTy k j) (.ref (ad d)) = .ref (ad d) ∧ fits (kTy k j) (.ref (ad d)) = true := by
    obtain ⟨C', h | ⟨t, h⟩⟩ := hty <;> rw [h] <;> exact ⟨rfl, rfl⟩
  refine va_putF (ci := k) (ty := kTy k j) (v := .ref (ad d)) Cx.1 Cx.2.1 Cx.2.2.2.2.1 (kWs_ok _ (List.mem_of_getElem? hc)) (kTy k) ok nm Cx.2.2.2.1 Cx.2.2.2.2.2.2.2.1 hP hD hS 0 (fs := fs.map (bFv ad)) (by rw [bW_at hs, hcell]) hc j hj (Cx.2.2.2.2.1 _ (kw hw rfl)) (fun _ q => q) hfin (Cx.2.2.2.2.2.2.2.2.2.2.1.resolve_left hX) hdecl (ok j hj) hnar.1 hnar.2 (by rw [List.length_map]; exact hjl) (kTab_at Cx.2.2.2.2.2.2.2.2.1 hd) (fun H1 locs1 hP1 hD1 hS1 => ?_)
  have e1 : (fs.map (bFv ad)).set j (.ref (ad d)) = (fs.set j (d + 3)).map (bFv ad) := bMap_set (f := d + 3)
  rw [e1, ← hcell, bW_set, hB'] at hP1 hD1
  exact k0 p e s m args below meth c H1 locs1 ls Cx hP1 hD1 hS1 hl
theorem KB_put0 {a0 : Nat} {v : Value} (hd : X.2.2.2.2[i]? = some (pc, .putfield idx, 3)) (h0 : ad 0 = a0) (hv : bFv ad f = v) (hs : B[0]? = some (k, fs)) (hc : classes[k]? = some (C, T, N)) (hj : j < N) (hjl : j < fs.length) (hfin : (T j).2.2.2 = false) (hnar : narrow (kTy k j) v = v ∧ fits (kTy k j) v = true) (hw : Cond.fieldLink X.1 idx (T j).1 (T j).2.1 (T j).2.2.1 ∈ lw_tbl) (hB' : B.set 0 (k, fs.set j f) = B') (k0 : KB X G Z A (pc + 3) lo st ad B' cells slots) : KB X G Z A pc lo (v :: .ref a0 :: st) ad B cells slots := by
  intro p e s m args below meth c H locs ls Cx hP hD hS hl
  subst h0
  subst hv
  obtain ⟨hk10, hg⟩ := kCl_get hc
  have ok := kTy_ok k hk10
  have nm := kNm_ok k hk10
  rw [hg] at ok nm
  have hcell : ∀ gs : List Nat, bCell G.2.2 ad (k, gs) = .inr (k, gs.map (bFv ad)) := fun gs => by simp [bCell, hk10]
  refine va_put (ci := k) (ty := kTy k j) (v := bFv ad f) Cx.1 Cx.2.1 Cx.2.2.2.2.1 (kWs_ok _ (List.mem_of_getElem? hc)) (kTy k) ok nm Cx.2.2.2.1 Cx.2.2.2.2.2.2.2.1 hP hD hS 0 (fs := fs.map (bFv ad)) (by rw [bW_at hs, hcell]) hc j hj (Cx.2.2.2.2.1 _ (kw hw rfl)) (fun _ q => q) hfin (ok j hj) hnar.1 hnar.2 (by rw [List.length_map]; exact hjl) (kTab_at Cx.2.2.2.2.2.2.2.2.1 hd) (fun H1 locs1 hP1 hD1 hS1 => ?_)
  rw [bMap_set, ← hcell, bW_set, hB'] at hP1 hD1
  exact k0 p e s m args below meth c H1 locs1 ls Cx hP1 hD1 hS1 hl
theorem KB_getR {a0 v d : Nat} (hd : X.2.2.2.2[i]? = some (pc, .getfield idx, 3)) (h0 : ad 0 = a0) (hv : ad d = v) (hs : B[0]? = some (k, fs)) (hc : classes[k]? = some (C, T, N)) (hj : j < N) (hf : fs[j]? = some (d + 3)) (hw : Cond.fieldLink X.1 idx (T j).1 (T j).2.1 (T j).2.2.1 ∈ lw_tbl) (k0 : KB X G Z A (pc + 3) lo (.ref v :: st) ad B cells slots) : KB X G Z A pc lo (.ref a0 :: st) ad B cells slots := by
  intro p e s m args below meth c H locs ls Cx hP hD hS hl
  subst h0
  subst hv
  have hk10 := (kCl_get hc).1
  have hcell : bCell G.2.2 ad (k, fs) = .inr (k, fs.map (bFv ad)) := by simp [bCell, hk10]
  refine va_get (ci := k) Cx.1 Cx.2.1 Cx.2.2.2.2.1 (kWs_ok _ (List.mem_of_getElem? hc)) Cx.2.2.2.1 Cx.2.2.2.2.2.2.2.1 hP 0 (fs := fs.map (bFv ad)) (by rw [bW_at hs, hcell]) hc j hj (Cx.2.2.2.2.1 _ (kw hw rfl)) (fun _ q => q) (v := .ref (ad d)) (by rw [List.getElem?_map, hf]; rfl) (kTab_at Cx.2.2.2.2.2.2.2.2.1 hd) ?_
  exact k0 p e s m args below meth c H locs ls Cx hP hD hS hl
theorem KB_aast {r v rc vc t : Nat} {rs vs : List Nat} {rr : vw_C} (ht : t = 12 ∧ rr.1 = "KitesWar$Fleet" ∨ t = 13 ∧ rr.1 = "KitesWar$Slot") (hd : X.2.2.2.2[i]? = some (pc, .aastore, 1)) (hr : ad rc = r) (hv : ad vc = v) (hs : B[rc]? = some (t, rs)) (hvs : B[vc]? = some (k, vs)) (hc : classes[k]? = some rr) (h0 : 0 ≤ a) (h1 : a < rs.length) (hl1 : rs.length ≤ 1000) (hB' : B.set rc (t, rs.set a.toNat (vc + 3)) = B') (k0 : KB X G Z A (pc + 1) lo st ad B' cells slots) : KB X G Z A pc lo (.ref v :: kI a :: .ref r :: st) ad B cells slots := by
  intro p e s m args below meth c H locs ls Cx hP hD hS hl
  subst hr
  subst hv
  have hk10 := (kCl_get hc).1
  have h10 : ¬ t < 10 := by omega
  have h12 : ¬ t < 12 := by omega
  have hcell : ∀ gs : List Nat, bCell G.2.2 ad (t, gs) = .inl (G.2.2 t, gs.length, .inr (.inr (.inr (.inr (fun j => (gs[j]?).bind (bRf ad)))))) := fun gs => by simp [bCell, h10, h12]
  have hvc : bCell G.2.2 ad (k, vs) = .inr (k, vs.map (bFv ad)) := by simp [bCell, hk10]
  have htys : ∃ t0 : Nat, (kTys G.2.2)[t0]? = some (G.2.2 t, FieldType.object rr.1) := by
    rcases ht with ⟨rfl, h⟩ | ⟨rfl, h⟩
    · exact ⟨2, by rw [h]; rfl⟩
    · exact ⟨3, by rw [h]; rfl⟩
  obtain ⟨t0, ht0⟩ := htys
  refine va_astq Cx.1 Cx.2.1 Cx.2.2.2.2.2.2.2.1 hP hD hS rc t0 vc k (f := fun j => (rs[j]?).bind (bRf ad)) (by rw [bW_at hs, hcell]) ht0 (by rw [bW_at hvs, hvc]) hc (kR_in h0 h1 (by omega)) (kTab_at Cx.2.2.2.2.2.2.2.2.1 hd) (fun H1 locs1 hP1 hD1 hS1 => ?_)
  have e1 : (.inl (G.2.2 t, rs.length, .inr (.inr (.inr (.inr (va_up (fun j => (rs[j]?).bind (bRf ad)) (Int32.ofInt a).toNatClampNeg (some (ad vc))))))) : va_E) = bCell G.2.2 ad (t, rs.set a.toNat (vc + 3)) := by
    rw [hcell, List.length_set, kR_clamp ⟨by omega, by omega⟩]
    congr 7
    funext q
    unfold va_up
    by_cases hq : q = a.toNat
    · rw [if_pos hq, hq, List.getElem?_set_self (by omega)]; rfl
    · rw [if_neg hq, List.getElem?_set_ne (fun z => hq z.symm)]
  rw [e1, bW_set, hB'] at hP1 hD1
  exact k0 p e s m args below meth c H1 locs1 ls Cx hP1 hD1 hS1 hl
end BRules2
end
section
/-! a constructor's contract; its call -/
def bRm (d mc ms : Nat) : Room := { frames := d, cells := mc, slots := ms, locals := 64 * d }
def bA (dA : Nat → ClassId) (a0 : Nat) (s0 : Nat × List Nat) (sz : Nat) : Nat → Prop := va_A [(a0, bCell dA (fun _ => 0) s0)] sz
def bPc (G : bG) (a0 : Nat) (s0 : Nat × List Nat) (sz : Nat) : Array Value → State → Prop := va_Pc [.ref a0] (fun U => U.heap.size = sz ∧ va_P G.2.1 classes [(a0, bCell G.2.2 (fun _ => 0) s0)] U.heap ∧ va_K G.2.1 classes (kTys G.2.2) U ∧ kNt U)
def bQc (G : bG) (a0 : Nat) (s0 : Nat × List Nat) (sz : Nat) (B1 : bS) : Array Value → State → Outcome → State → Prop := va_Qv (fun ad : Nat → Nat => ad 0 = a0) (fun ad t => va_P G.2.1 classes (bW G.2.2 ad B1) t.heap ∧ va_K G.2.1 classes (kTys G.2.2) t ∧ va_D (bA G.2.2 a0 s0 sz) (bW G.2.2 ad B1)) (bA G.2.2 a0 s0 sz)
def CtB (G : bG) (y : MethodName) (X : kX) (d mc ms : Nat) (s0 : Nat × List Nat) (B1 : bS) : Prop :=
  ∀ a0 sz : Nat, Met G.1 y (kWs y X) (bRm d mc ms) (bPc G a0 s0 sz) (bQc G a0 s0 sz B1) mc ms (bA G.2.2 a0 s0 sz)
def bZm (G : bG) (d mc ms a0 : Nat) (s0 : Nat × List Nat) (sz : Nat) (B1 : bS) : bZ := (bRm d mc ms, fun below args s => MQ below (bQc G a0 s0 sz B1) args s mc ms (bA G.2.2 a0 s0 sz))
theorem bBlind (G : bG) (a0 : Nat) (s0 : Nat × List Nat) (sz : Nat) : FrameBlind (bPc G a0 s0 sz) := fun a U g mk q => by
  obtain ⟨q0, q1, qP, qK, qN⟩ := q
  exact ⟨q0, q1, qP, va_K.moved (u := U) (U := U.calling g mk a) (Vm.Alike.refl U.vm) qK, kNt.same (u := U) (U := U.calling g mk a) rfl qN⟩
theorem CtB.ofKB {G : bG} {y : MethodName} {X : kX} {d mc ms : Nat} {s0 : Nat × List Nat} {B1 : bS} (hy : plainName y.cls = true) (hyX : y.cls = X.1) (hyn : y.name = "<init>") (hT : ∀ q ∈ X.2.2.2.2, decode X.2.1 q.1 = .ok q.2) (hn : 1 ≤ X.2.2.1) (hs0 : bOk 0 s0 = true)
    (k : ∀ (a0 sz : Nat) (ad : Nat → Nat), ad 0 = a0 → KB X G (bZm G d mc ms a0 s0 sz B1) (bA G.2.2 a0 s0 sz) 0 [(0, .ref a0)] [] ad [s0] 0 0) : CtB G y X d mc ms s0 B1 := by
  intro a0 sz
  refine Met.ofW (cc := X.2.1) (maxL := X.2.2.1) (ret := X.2.2.2.1) hy rfl ?_
  intro p e s m args below meth c s₁ B hml hv
  obtain ⟨rfl, hsz, hP, hK, hN⟩ := hv
  subst hsz
  have hts := atoms_spec (ws := kWs y X) B.pre
  have hown : s.vm.findClass y.cls = some m.cls := findClass_of_methodNamed B.named
  have hin : meth.name = "<init>" := (name_of_methodNamed B.named B.method).1.trans hyn
  have hl := lv_entry [.ref a0] (n := X.2.2.1) hn
  rw [lg_entry_eq]
  have hw : bW G.2.2 (fun _ => a0) [s0] = [(a0, bCell G.2.2 (fun _ => 0) s0)] := by
    have : bCell G.2.2 (fun _ => a0) s0 = bCell G.2.2 (fun _ => 0) s0 := bCell_congr (n := 0) (fun i hi => absurd hi (by omega)) hs0
    show [(a0, bCell G.2.2 (fun _ => a0) s0)] = _
    rw [this]
  refine k a0 s.heap.size (fun _ => a0) rfl p e s m _ below meth c s.heap [] _ ⟨B.exec, B.bytes, hml, by rw [← hyX]; exact hown, fun w hw => hts w (List.mem_cons_of_mem _ hw), B.returns, B.notSynchronized, hK, hT, hN, Or.inr hin, fun q hq => Or.inr hq⟩ (by rw [hw]; exact hP) ?_ va_S.rf hl
  rw [hw]
  refine ⟨fun i j p q hp hq _ => ?_, fun k q hk => ?_⟩
  · have h1 := (List.getElem?_eq_some_iff.mp hp).1
    have h2 := (List.getElem?_eq_some_iff.mp hq).1
    simp at h1 h2
    omega
  · exact Or.inl ⟨k, q.2, hk⟩
theorem va_nd_of {l : List Nat} (h : va_nd l = true) : va_nd l = true := h
section BCalls
variable {X : kX} {G : bG} {Z : bZ} {A : Nat → Prop} {pc i cells slots n q idx d mc ms : Nat} {lo : List (Nat × Value)} {st : List Value} {ad : Nat → Nat} {B B0 B1 B' : bS} {s0 : Nat × List Nat} {y : MethodName} {Y : kX}
theorem KB_ret {a0 sz : Nat} (hd : X.2.2.2.2[i]? = some (pc, .return_, 1)) (hr : X.2.2.2.1 = none) (h0 : ad 0 = a0) : KB X G (bZm G d mc ms a0 s0 sz B1) (bA G.2.2 a0 s0 sz) pc lo [] ad B1 mc ms := by
  intro p e s m args below meth c H locs ls Cx hP hD hS hl
  exact W.vret Cx.1 Cx.2.1 (Cx.2.2.2.2.2.1.trans hr) (fun t ht hW => ⟨⟨ad, rfl, h0, by rw [ht]; exact hP, va_K.moved hW.alike Cx.2.2.2.2.2.2.2.1, hD⟩, hS.F ht⟩) hS.2.2 (kTab_at Cx.2.2.2.2.2.2.2.2.1 hd) Cx.2.2.2.2.2.2.1
/-- behind a constructor's call -/
theorem bBack {p : Program} {e : Env} {s : State} {m : MethodId} {args : Array Value} {below : List Frame} {meth : Method} {c : Code} {H : Heap} {locs : List Loc} {ls : Array Slot} {a : Array Value} (Cx : bCx X G A p s m args meth c) (hP : va_P G.2.1 classes (bW G.2.2 ad B) H) (hD : va_D A (bW G.2.2 ad B)) (hS : va_S A s.heap H locs) (hl : lv_has ls X.2.2.1 lo)
    (hB : B = B0 ++ [s0]) (hn : B0.length = n) (hq : ad n = q) (hw0 : bWf B0 = true) (hs0 : bOk 0 s0 = true) (hnd : va_nd (List.range n) = true) (hB' : B0 ++ B1.map (bSh n) = B')
    (hr : va_Run p G.1 e Z.1 s m args below meth c H locs cells slots mc ms (F0 m pc ls (.ref q :: st)) st (bQc G q s0 H.size B1 a) (bA G.2.2 q s0 H.size))
    (k0 : ∀ ad' : Nat → Nat, (∀ i, i ≤ n → ad' i = ad i) → KB X G Z A (pc + 3) lo st ad' B' (cells + mc) (slots + ms)) :
    W p G.1 e Z.1 s m args below meth c H locs cells slots (Z.2 below args s) (F0 m pc ls (.ref q :: st)) := by
  subst hB
  subst hn
  subst hq
  have hcell : bCell G.2.2 ad s0 = bCell G.2.2 (fun _ => 0) s0 := bCell_congr (n := 0) (fun i hi => absurd hi (by omega)) hs0
  have hlast : (bW G.2.2 ad (B0 ++ [s0]))[B0.length]? = some (ad B0.length, bCell G.2.2 (fun _ => 0) s0) := by rw [bW_at (s := s0) (by simp), hcell]
  have hC : [B0.length].map (fun i => (bW G.2.2 ad (B0 ++ [s0]))[i]?) = [(ad B0.length, bCell G.2.2 (fun _ => 0) s0)].map some := by simp [hlast]
  have hR : (List.range B0.length).map (fun i => (bW G.2.2 ad (B0 ++ [s0]))[i]?) = (bW G.2.2 ad B0).map some := by
    apply List.ext_getElem?
    intro j
    by_cases hj : j < B0.length
    · have e1 : B0[j]? = some B0[j] := List.getElem?_eq_getElem hj
      rw [List.getElem?_map, List.getElem?_range hj, List.getElem?_map, bW_at e1]
      simp only [Option.map_some]
      rw [bW_at (s := B0[j]) (by rw [List.getElem?_append_left hj]; exact e1)]
    · rw [List.getElem?_eq_none (by simp; omega), List.getElem?_eq_none (by simp [bW]; omega)]
  have hFc := va_free (wc := [(ad B0.length, bCell G.2.2 (fun _ => 0) s0)]) hD hS Cx.2.2.2.2.2.2.2.2.2.2.2 [B0.length] hC
  refine va_callv hr hS (fun q _ h => hFc q h) hFc (fun ad1 t H1 locs1 ht hvm hw hB hz1 hk1 hS1 => ?_)
  obtain ⟨hP1, hK1, hD1⟩ := hB
  rw [ht] at hP1
  obtain ⟨hPj, hDj⟩ := va_join (wr := bW G.2.2 ad B0) (w1 := bW G.2.2 ad1 B1) hP hD [B0.length] (List.range B0.length) hC hR hnd (fun i hi => by simp at hi ⊢; omega) hk1 hFc hP1 hD1
  have hagree : ∀ i, i < B0.length → (fun i => if i < B0.length then ad i else ad1 (i - B0.length)) i = ad i := fun i hi => by simp [hi]
  have e1 : bW G.2.2 ad B0 = bW G.2.2 (fun i => if i < B0.length then ad i else ad1 (i - B0.length)) B0 := (bW_congr hagree hw0).symm
  have e2 : bW G.2.2 ad1 B1 = bW G.2.2 (fun j => (fun i => if i < B0.length then ad i else ad1 (i - B0.length)) (B0.length + j)) B1 := by
    congr 1
    funext j
    dsimp only
    rw [if_neg (by omega), Nat.add_sub_cancel_left]
  rw [e1, e2, bW_app, hB'] at hPj hDj
  refine k0 _ (fun i hi => ?_) p e s m args below meth c H1 locs1 ls Cx hPj hDj hS1 hl
  by_cases h : i < B0.length
  · simp [h]
  · have : i = B0.length := by omega
    subst this
    simp [hw]
theorem KB_ctorN (hd : X.2.2.2.2[i]? = some (pc, .invokespecial idx, 3)) (hM : CtB G y Y d mc ms s0 B1) (hB : B = B0 ++ [s0]) (hn : B0.length = n) (hq : ad n = q) (hw0 : bWf B0 = true) (hs0 : bOk 0 s0 = true) (hnd : va_nd (List.range n) = true)
    (hy : y.cls ≠ "java/lang/invoke/MethodHandle" ∧ y.cls ≠ "java/lang/invoke/VarHandle" ∧ (parseMethodDescriptor y.desc).map (fun d => d.parameters.length) = some 0) (hyn : y.name = "<init>") (hY : Y.2.2.2.1 = none)
    (w1 : Cond.methodLinkNest X.1 idx y "KitesWar" ∈ kNc) (w2 : Cond.instanceMethod y ∈ lw_tbl) (w4 : Cond.initialized y.cls ∈ lw_tbl) (w5 : Cond.code y Y.2.1 Y.2.2.1 Y.2.2.2.1 ∈ lw_tbl)
    (hR : (d + 1 ≤ Z.1.frames ∧ 8 + (Y.2.2.1 + 11) + 64 * d ≤ Z.1.locals) ∧ cells + mc ≤ Z.1.cells ∧ slots + ms ≤ Z.1.slots) (hcat : (st.map fun v => v.category).sum ≤ 8) (hB' : B0 ++ B1.map (bSh n) = B')
    (k0 : ∀ ad' : Nat → Nat, (∀ i, i ≤ n → ad' i = ad i) → KB X G Z A (pc + 3) lo st ad' B' (cells + mc) (slots + ms)) : KB X G Z A pc lo (.ref q :: st) ad B cells slots := by
  intro p e s m args below meth c H locs ls Cx hP hD hS hl
  have hcell : bCell G.2.2 ad s0 = bCell G.2.2 (fun _ => 0) s0 := bCell_congr (n := 0) (fun i hi => absurd hi (by omega)) hs0
  have hPc : va_P G.2.1 classes [(q, bCell G.2.2 (fun _ => 0) s0)] H := by
    refine hP.sub [n] ?_
    have : (bW G.2.2 ad B)[n]? = some (q, bCell G.2.2 (fun _ => 0) s0) := by rw [← hq, bW_at (s := s0) (by rw [hB, ← hn]; simp), hcell]
    simp [this]
  have w5' : Cond.code y Y.2.1 Y.2.2.1 none ∈ lw_tbl := hY ▸ w5
  refine bBack Cx hP hD hS hl hB hn hq hw0 hs0 hnd hB' (va_runIN (host := "KitesWar") (ws := kWs y Y) (As := []) (rest := st) (Ts := kTb) ⟨Cx.1, Cx.2.1, Cx.2.2.1, Cx.2.2.2.1, Cx.2.2.2.2.1⟩ (hM q H.size) ⟨va_cnB 0 Cx.2.2.2.2.1 (kGoodWs w5) (by rw [← hY]; rfl) rfl rfl (Cx.2.2.2.2.2.2.2.2.2.1.1 _ w1) (Cx.2.2.2.2.1 _ (kw w4 rfl)) hy ⟨hR.1.1, hR.1.2⟩, hyn, Cx.2.2.2.2.1 _ (kw w2 rfl)⟩ ⟨bBlind G q s0 H.size, fun U hU hW => ⟨rfl, by rw [hU], by rw [hU]; exact hPc, va_K.moved hW.alike Cx.2.2.2.2.2.2.2.1, kNt.warm hW Cx.2.2.2.2.2.2.2.2.2.1⟩⟩ rfl rfl hl.1 rfl (lv_room hcat) (kTab_at Cx.2.2.2.2.2.2.2.2.1 hd) hR.2) k0
theorem KB_ctor (hd : X.2.2.2.2[i]? = some (pc, .invokespecial idx, 3)) (hM : CtB G y Y d mc ms s0 B1) (hB : B = B0 ++ [s0]) (hn : B0.length = n) (hq : ad n = q) (hw0 : bWf B0 = true) (hs0 : bOk 0 s0 = true) (hnd : va_nd (List.range n) = true)
    (hy : y.cls ≠ "java/lang/invoke/MethodHandle" ∧ y.cls ≠ "java/lang/invoke/VarHandle" ∧ (parseMethodDescriptor y.desc).map (fun d => d.parameters.length) = some 0) (hyn : y.name = "<init>") (hY : Y.2.2.2.1 = none)
    (w1 : Cond.methodLink X.1 idx y ∈ lw_tbl) (w2 : Cond.instanceMethod y ∈ lw_tbl) (w4 : Cond.initialized y.cls ∈ lw_tbl) (w5 : Cond.code y Y.2.1 Y.2.2.1 Y.2.2.2.1 ∈ lw_tbl)
    (hR : (d + 1 ≤ Z.1.frames ∧ 8 + (Y.2.2.1 + 11) + 64 * d ≤ Z.1.locals) ∧ cells + mc ≤ Z.1.cells ∧ slots + ms ≤ Z.1.slots) (hcat : (st.map fun v => v.category).sum ≤ 8) (hB' : B0 ++ B1.map (bSh n) = B')
    (k0 : ∀ ad' : Nat → Nat, (∀ i, i ≤ n → ad' i = ad i) → KB X G Z A (pc + 3) lo st ad' B' (cells + mc) (slots + ms)) : KB X G Z A pc lo (.ref q :: st) ad B cells slots := by
  intro p e s m args below meth c H locs ls Cx hP hD hS hl
  have hcell : bCell G.2.2 ad s0 = bCell G.2.2 (fun _ => 0) s0 := bCell_congr (n := 0) (fun i hi => absurd hi (by omega)) hs0
  have hPc : va_P G.2.1 classes [(q, bCell G.2.2 (fun _ => 0) s0)] H := by
    refine hP.sub [n] ?_
    have : (bW G.2.2 ad B)[n]? = some (q, bCell G.2.2 (fun _ => 0) s0) := by rw [← hq, bW_at (s := s0) (by rw [hB, ← hn]; simp), hcell]
    simp [this]
  refine bBack Cx hP hD hS hl hB hn hq hw0 hs0 hnd hB' (va_runI (ws := kWs y Y) (As := []) (rest := st) (Ts := kTb) ⟨Cx.1, Cx.2.1, Cx.2.2.1, Cx.2.2.2.1, Cx.2.2.2.2.1⟩ (hM q H.size) ⟨callB_of 0 Cx.2.2.2.2.1 (kGoodWs w5) (by rw [← hY]; rfl) rfl rfl (Cx.2.2.2.2.1 _ (kw w4 rfl)) (Cx.2.2.2.2.1 _ (kw w1 rfl)) hy ⟨hR.1.1, hR.1.2⟩, hyn, Cx.2.2.2.2.1 _ (kw w2 rfl)⟩ ⟨bBlind G q s0 H.size, fun U hU hW => ⟨rfl, by rw [hU], by rw [hU]; exact hPc, va_K.moved hW.alike Cx.2.2.2.2.2.2.2.1, kNt.warm hW Cx.2.2.2.2.2.2.2.2.2.1⟩⟩ rfl rfl hl.1 rfl (lv_room hcat) (kTab_at Cx.2.2.2.2.2.2.2.2.1 hd) hR.2) k0
end BCalls
end
