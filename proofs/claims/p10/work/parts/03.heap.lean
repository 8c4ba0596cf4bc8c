/-! the heap as ints by cell and place: its cells are the same from the constructors on -/
abbrev kH : Type := Nat → Nat → Int
def kI (z : Int) : Value := .int (Int32.ofInt z)
def kJ (z : Int) : Value := .long (Int64.ofInt z)
abbrev kR (z : Int) : Prop := -2147483648 ≤ z ∧ z ≤ 2147483647
def kU (h : kH) (c i : Nat) (v : Int) : kH := fun c' => if c' = c then (fun i' => if i' = i then v else h c i') else h c'
theorem kU_same (h : kH) (c i : Nat) (v : Int) : kU h c i v c i = v := by simp [kU]
theorem kU_i (h : kH) (c i : Nat) (v : Int) {j : Nat} (hj : j ≠ i) : kU h c i v c j = h c j := by simp [kU, hj]
theorem kU_c (h : kH) (c i : Nat) (v : Int) {d : Nat} (hd : d ≠ c) : kU h c i v d = h d := by simp [kU, hd]
/-- the cells' shapes: an object's class and its fields (0 an int, 1 a long, n + 2 a reference to the cell n); 10 ints, 11 booleans, with the length; 12, 13 references -/
def kFl (f : Nat) : List (Nat × List Nat) := [(1, [f+1+2, f+2+2, f+3+2, f+4+2, f+5+2, f+6+2, 0]), (10, [8]), (10, [8]), (10, [8]), (10, [8]), (10, [8]), (10, [2])]
def kSk (s : Nat) : List (Nat × List Nat) := (4, [s+3+2, s+1+2, s+2+2]) :: (10, [10]) :: (10, [8]) :: kFl (s+3)
def kSh : List (Nat × List Nat) :=
  [(8, [1+2, 3+2, 13+2, 23+2, 137+2, 160+2, 169+2, 182+2, 1]), (7, [2+2, 0]), (10, [74])] ++ kSk 3 ++ kSk 13 ++
  [(0, [24+2, 0, 0]), (12, [25, 32, 39, 46, 53, 60, 67, 74, 81, 88, 95, 102, 109, 116, 123, 130])] ++
  kFl 25 ++ kFl 32 ++ kFl 39 ++ kFl 46 ++ kFl 53 ++ kFl 60 ++ kFl 67 ++ kFl 74 ++ kFl 81 ++ kFl 88 ++ kFl 95 ++ kFl 102 ++ kFl 109 ++ kFl 116 ++ kFl 123 ++ kFl 130 ++
  [(13, [138, 149])] ++ [(5, [139+2, 0])] ++ kSk 139 ++ [(5, [150+2, 0])] ++ kSk 150 ++
  [(2, [161+2, 162+2, 163+2, 164+2, 165+2, 166+2, 167+2, 168+2, 0]), (10, [24]), (10, [24]), (10, [24]), (10, [24]), (10, [8]), (10, [8]), (10, [243]), (10, [243])] ++
  [(3, [170+2, 171+2, 172+2, 173+2, 180+2, 181+2, 0]), (10, [8]), (10, [8]), (11, [8])] ++ kFl 173 ++ [(10, [4]), (10, [4])] ++
  [(6, [183+2]), (10, [8])] ++
  [(9, [185+2, 0, 186+2, 187+2, 0, 188+2, 189+2, 190+2, 0, 0, 0, 0, 0, 191+2, 192+2, 0, 0, 193+2, 194+2, 195+2, 196+2, 197+2, 1, 198+2, 199+2, 200+2]),
   (10, [40]), (10, [10]), (10, [80]), (10, [10]), (10, [2]), (10, [74]), (10, [688]), (10, [2]), (10, [8]), (10, [8]), (11, [8]), (10, [4]), (10, [4]), (10, [10]), (11, [2]), (10, [106])]
def kN : Nat := 201
theorem kN_ok : kSh.length = kN := by decide +kernel
def kS (c : Nat) : Nat × List Nat := kSh.getD c (0, [])
def kFv (ad : Nat → Nat) (v : Int) (f : Nat) : Value := match f with
  | 0 => kI v
  | 1 => kJ v
  | n + 2 => .ref (ad n)
def kFs (ad : Nat → Nat) (g : Nat → Int) : Nat → List Nat → List Value
  | _, [] => []
  | j, f :: fs => kFv ad (g j) f :: kFs ad g (j + 1) fs
theorem kFs_get (ad : Nat → Nat) (g : Nat → Int) (fs : List Nat) : ∀ (j k : Nat), (kFs ad g j fs)[k]? = (fs[k]?).map (fun f => kFv ad (g (j + k)) f) := by
  induction fs with
  | nil => intro j k; simp [kFs]
  | cons f fs ih =>
    intro j k
    cases k with
    | zero => simp [kFs]
    | succ k => simp [kFs, ih, Nat.add_assoc, Nat.add_comm 1 k]
theorem kFs_len (ad : Nat → Nat) (g : Nat → Int) (fs : List Nat) : ∀ j : Nat, (kFs ad g j fs).length = fs.length := by
  induction fs with
  | nil => intro j; rfl
  | cons f fs ih => intro j; simp [kFs, ih]
def kCell (dA : Nat → ClassId) (ad : Nat → Nat) (h : kH) (c : Nat) : va_E :=
  if (kS c).1 < 10 then .inr ((kS c).1, kFs ad (h c) 0 (kS c).2)
  else if (kS c).1 < 12 then .inl (dA (kS c).1, (kS c).2.headD 0, .inl (fun j => Int32.ofInt (h c j)))
  else .inl (dA (kS c).1, (kS c).2.length, .inr (.inr (.inr (.inr (fun j => ((kS c).2[j]?).map ad)))))
theorem kCell_congr {dA : Nat → ClassId} {ad : Nat → Nat} {h h' : kH} {c : Nat} (e : h c = h' c) : kCell dA ad h c = kCell dA ad h' c := by simp [kCell, e]
def kW (dA : Nat → ClassId) (ad : Nat → Nat) (h : kH) : va_W := (List.range kN).map (fun c => (ad c, kCell dA ad h c))
theorem kW_at {dA : Nat → ClassId} {ad : Nat → Nat} {h : kH} {c : Nat} (hc : c < kN) : (kW dA ad h)[c]? = some (ad c, kCell dA ad h c) := by
  simp [kW, hc]
theorem kW_lt {dA : Nat → ClassId} {ad : Nat → Nat} {h : kH} {c : Nat} {q : Nat × va_E} (e : (kW dA ad h)[c]? = some q) : c < kN ∧ q = (ad c, kCell dA ad h c) := by
  have hl : c < (kW dA ad h).length := (List.getElem?_eq_some_iff.mp e).1
  have hc : c < kN := by simpa [kW] using hl
  rw [kW_at hc] at e
  exact ⟨hc, (Option.some.inj e).symm⟩
theorem kW_set {dA : Nat → ClassId} {ad : Nat → Nat} {h h' : kH} {c : Nat} (hc : c < kN) (hh : ∀ d, d ≠ c → h' d = h d) {x : va_E} (hx : x = kCell dA ad h' c) : (kW dA ad h).set c (ad c, x) = kW dA ad h' := by
  subst hx
  apply List.ext_getElem?
  intro k
  by_cases hk : k < kN
  · rw [kW_at hk]
    by_cases e : k = c
    · subst e
      rw [List.getElem?_set_self (by simpa [kW] using hk)]
    · rw [List.getElem?_set_ne (fun q => e q.symm), kW_at hk, kCell_congr (hh k e)]
  · rw [List.getElem?_eq_none (by simp [kW]; omega), List.getElem?_eq_none (by simp [kW]; omega)]
def kA (ad : Nat → Nat) : Nat → Prop := fun q => ∃ c, c < kN ∧ ad c = q
def kInj (ad : Nat → Nat) : Prop := ∀ c d, c < kN → d < kN → ad c = ad d → c = d
theorem kW_D {dA : Nat → ClassId} {ad : Nat → Nat} {h : kH} (hi : kInj ad) : va_D (kA ad) (kW dA ad h) := by
  refine ⟨fun i j p q hp hq e => ?_, fun k q hq => ?_⟩
  · obtain ⟨h1, rfl⟩ := kW_lt hp
    obtain ⟨h2, rfl⟩ := kW_lt hq
    exact hi i j h1 h2 e
  · obtain ⟨h1, rfl⟩ := kW_lt hq
    exact ⟨k, h1, rfl⟩
def kTys (dA : Nat → ClassId) : List (ClassId × FieldType) := [(dA 10, .int), (dA 11, .boolean), (dA 12, .object "KitesWar$Fleet"), (dA 13, .object "KitesWar$Slot")]
theorem kTab_at {X : kX} {i pc len : Nat} {ins : Instr} (hT : ∀ q ∈ X.2.2.2.2, decode X.2.1 q.1 = .ok q.2) (hd : X.2.2.2.2[i]? = some (pc, ins, len)) : decode X.2.1 pc = .ok (ins, len) := hT (pc, ins, len) (List.mem_of_getElem? hd)
/-- the tables' words that hold in every state of the run -/
def kTb : List Cond := lw_tbl.filter goodWord
theorem kw {w : Cond} (h : w ∈ lw_tbl) (hg : goodWord w = true) : w ∈ kTb := List.mem_filter.mpr ⟨h, hg⟩
/-- the words on calls of a nest mate's private methods, which a contract carries -/
def kNw : List Cond := [Cond.methodLinkNest "KitesWar$Text" 65 y_War_isWithin "KitesWar", Cond.methodLinkNest "KitesWar$Text" 41 y_War_isStake "KitesWar"]
def kNs (U : State) : Prop := ∀ w ∈ kNw, va_Nw w U
theorem kNs_of {args : Array Value} {U : State} (h : ∀ w ∈ lw_tbl, w.before args U = true) : kNs U := by
  intro w hw
  simp only [kNw, List.mem_cons, List.not_mem_nil, or_false] at hw
  rcases hw with rfl | rfl
  · exact va_Nw.of rfl (h _ (by decide +kernel))
  · exact va_Nw.of rfl (h _ (by decide +kernel))
theorem kNs.warm {s U : State} (hW : s.WarmedH U.vm) (h : kNs s) : kNs U := by
  intro w hw
  have h2 := h w hw
  simp only [kNw, List.mem_cons, List.not_mem_nil, or_false] at hw
  rcases hw with rfl | rfl
  · exact va_Nw.warmM hW h2
  · exact va_Nw.warmM hW h2
theorem kNs.same {u U : State} (hv : u.vm = U.vm) (h : kNs u) : kNs U := by
  intro w hw
  have h2 := h w hw
  simp only [kNw, List.mem_cons, List.not_mem_nil, or_false] at hw
  rcases hw with rfl | rfl
  · exact va_Nw.same rfl hv h2
  · exact va_Nw.same rfl hv h2
/-- the launch, the classes' numbers, the arrays' classes, the cells' addresses -/
abbrev kG : Type := Launch × va_G × (Nat → ClassId) × (Nat → Nat)
/-- the room, the cells and slots made so far, the end that is owed, what holds at the entry besides -/
abbrev kZ : Type := Room × Nat × Nat × (List Frame → Array Value → State → State → Prop) × (Array Value → State → Prop)
def kCx (X : kX) (G : kG) (Z : kZ) (p : Program) (s : State) (m : MethodId) (args : Array Value) (meth : Method) (c : Code) : Prop :=
  p.tables.exec = Jvm.exec ∧ c.code = X.2.1 ∧ c.maxLocals = X.2.2.1 ∧ s.vm.findClass X.1 = some m.cls ∧ (∀ w ∈ kTb, w.before args s = true) ∧ meth.sig.returnType = X.2.2.2.1 ∧ meth.locks = false ∧
  va_K G.2.1 classes (kTys G.2.2.1) s ∧ kInj G.2.2.2 ∧ (∀ q ∈ X.2.2.2.2, decode X.2.1 q.1 = .ok q.2) ∧ kNs s ∧ Z.2.2.2.2 args s
/-- from pc, with these locals, this operand stack and this heap, the machine comes to the end that is owed -/
def K (X : kX) (G : kG) (Z : kZ) (pc : Nat) (lo : List (Nat × Value)) (st : List Value) (h : kH) : Prop :=
  ∀ (p : Program) (e : Env) (s : State) (m : MethodId) (args : Array Value) (below : List Frame) (meth : Method) (c : Code) (H : Heap) (locs : List Loc) (ls : Array Slot),
    kCx X G Z p s m args meth c → va_P G.2.1 classes (kW G.2.2.1 G.2.2.2 h) H → va_S (kA G.2.2.2) s.heap H locs → lv_has ls X.2.2.1 lo →
    W p G.1 e Z.1 s m args below meth c H locs Z.2.1 Z.2.2.1 (Z.2.2.2.1 below args s) (F0 m pc ls st)
def kGet : List (Nat × Value) → Nat → Option Value
  | [], _ => none
  | q :: r, n => bif Nat.beq q.1 n then some q.2 else kGet r n
theorem kGet_at {ls : Array Slot} {nL : Nat} {lo : List (Nat × Value)} (h : lv_has ls nL lo) {n : Nat} {v : Value} (e : kGet lo n = some v) : ls[n]? = some (.val v) := by
  have hm : (n, v) ∈ lo := by
    clear h
    induction lo with
    | nil => simp [kGet] at e
    | cons q r ih =>
      rw [kGet] at e
      cases hq : Nat.beq q.1 n with
      | true =>
        rw [hq] at e
        simp at e
        have := Nat.eq_of_beq_eq_true hq
        subst this
        subst e
        exact List.mem_cons_self
      | false =>
        rw [hq] at e
        simp at e
        exact List.mem_cons_of_mem _ (ih e)
  exact h.2.2 (n, v) hm
theorem ofInt_inj32 {a b : Int} (ha : kR a) (hb : kR b) : Int32.ofInt a = Int32.ofInt b ↔ a = b := by
  constructor
  · intro e
    have := congrArg Int32.toInt e
    rw [Int32.toInt_ofInt_of_le (by have := ha.1; omega) (by have := ha.2; omega), Int32.toInt_ofInt_of_le (by have := hb.1; omega) (by have := hb.2; omega)] at this
    exact this
  · intro e; rw [e]
theorem kR_toInt {a : Int} (ha : kR a) : (Int32.ofInt a).toInt = a := Int32.toInt_ofInt_of_le (by have := ha.1; omega) (by have := ha.2; omega)
theorem kR_of (x : Int32) : kR x.toInt := by
  have h1 := Int32.minValue_le_toInt x
  have h2 := Int32.toInt_le x
  have e1 : Int32.maxValue.toInt = 2147483647 := by decide
  have e2 : Int32.minValue.toInt = -2147483648 := by decide
  exact ⟨by omega, by omega⟩
theorem kR_lt {a b : Int} (ha : kR a) (hb : kR b) : Int32.ofInt a < Int32.ofInt b ↔ a < b := by rw [Int32.lt_iff_toInt_lt, kR_toInt ha, kR_toInt hb]
theorem kR_le {a b : Int} (ha : kR a) (hb : kR b) : Int32.ofInt a ≤ Int32.ofInt b ↔ a ≤ b := by rw [Int32.le_iff_toInt_le, kR_toInt ha, kR_toInt hb]
theorem kI_norm (a : Int) : ∃ z : Int, kR z ∧ kI a = kI z := ⟨(Int32.ofInt a).toInt, kR_of _, by unfold kI; rw [Int32.ofInt_toInt]⟩
theorem kR_clamp {a : Int} (ha : kR a) : (Int32.ofInt a).toNatClampNeg = a.toNat := by
  rw [← kR_toInt ha]; simp [Int32.toNatClampNeg]
theorem kR_in {a : Int} {n : Nat} (h0 : 0 ≤ a) (hn : a < n) (hN : n ≤ 2147483647) : vp_in (Int32.ofInt a) n := by
  rw [vp_in_iff, kR_toInt ⟨by omega, by omega⟩]
  omega
