/-! the builder's judgement and rules -/
abbrev bG : Type := Launch × va_G × (Nat → ClassId)
/-- what a constructor's contract carries besides the words: calls of nest mates' constructors, the arrays of references -/
def kNc : List Cond := [.methodLinkNest "KitesWar" 9 y_Text_init "KitesWar", .methodLinkNest "KitesWar" 18 y_Sky_init "KitesWar", .methodLinkNest "KitesWar$Sky" 11 y_Fleet_init "KitesWar", .methodLinkNest "KitesWar$Acts" 24 y_Fleet_init "KitesWar", .methodLinkNest "KitesWar" 41 y_Plans_init "KitesWar", .methodLinkNest "KitesWar" 48 y_Seen_init "KitesWar", .methodLinkNest "KitesWar$Seen" 24 y_Fleet_init "KitesWar", .methodLinkNest "KitesWar" 55 y_Tangle_init "KitesWar", .methodLinkNest "KitesWar" 64 y_Slot_init "KitesWar", .methodLinkNest "KitesWar$Slot" 9 y_Sky_init "KitesWar"]
theorem kNc_in : ∀ w ∈ kNc, w ∈ lw_tbl := by decide +kernel
def kNt (U : State) : Prop := (∀ w ∈ kNc, va_Nw w U) ∧ va_AO "KitesWar$Fleet" U ∧ va_AO "KitesWar$Slot" U
theorem kNc_m {w : Cond} (h : w ∈ kNc) : ∃ a i y b, w = .methodLinkNest a i y b := by
  simp only [kNc, List.mem_cons, List.not_mem_nil, or_false] at h
  rcases h with rfl | rfl | rfl | rfl | rfl | rfl | rfl | rfl | rfl | rfl <;> exact ⟨_, _, _, _, rfl⟩
theorem kNt.warm {s U : State} (hW : s.WarmedH U.vm) (h : kNt s) : kNt U := by
  refine ⟨fun w hw => ?_, h.2.1.moved hW.alike, h.2.2.moved hW.alike⟩
  have h2 := h.1 w hw
  obtain ⟨a, i, y, b, rfl⟩ := kNc_m hw
  exact va_Nw.warmM hW h2
theorem kNt.same {u U : State} (hv : u.vm = U.vm) (h : kNt u) : kNt U := by
  refine ⟨fun w hw => ?_, h.2.1.moved (hv ▸ Vm.Alike.refl _), h.2.2.moved (hv ▸ Vm.Alike.refl _)⟩
  have h2 := h.1 w hw
  obtain ⟨a, i, y, b, rfl⟩ := kNc_m hw
  exact va_Nw.same rfl hv h2
abbrev bZ : Type := Room × (List Frame → Array Value → State → State → Prop)
def bCx (X : kX) (G : bG) (A : Nat → Prop) (p : Program) (s : State) (m : MethodId) (args : Array Value) (meth : Method) (c : Code) : Prop :=
  p.tables.exec = Jvm.exec ∧ c.code = X.2.1 ∧ c.maxLocals = X.2.2.1 ∧ s.vm.findClass X.1 = some m.cls ∧ (∀ w ∈ kTb, w.before args s = true) ∧ meth.sig.returnType = X.2.2.2.1 ∧ meth.locks = false ∧
  va_K G.2.1 classes (kTys G.2.2) s ∧ (∀ q ∈ X.2.2.2.2, decode X.2.1 q.1 = .ok q.2) ∧ kNt s ∧ (X.1 = "KitesWarLaw" ∨ meth.name = "<init>") ∧ (∀ q, s.heap.size ≤ q → A q)
def KB (X : kX) (G : bG) (Z : bZ) (A : Nat → Prop) (pc : Nat) (lo : List (Nat × Value)) (st : List Value) (ad : Nat → Nat) (B : bS) (cells slots : Nat) : Prop :=
  ∀ (p : Program) (e : Env) (s : State) (m : MethodId) (args : Array Value) (below : List Frame) (meth : Method) (c : Code) (H : Heap) (locs : List Loc) (ls : Array Slot),
    bCx X G A p s m args meth c → va_P G.2.1 classes (bW G.2.2 ad B) H → va_D A (bW G.2.2 ad B) → va_S A s.heap H locs → lv_has ls X.2.2.1 lo →
    W p G.1 e Z.1 s m args below meth c H locs cells slots (Z.2 below args s) (F0 m pc ls st)
section BRules
variable {X : kX} {G : bG} {Z : bZ} {A : Nat → Prop} {pc i cells slots : Nat} {lo lo' : List (Nat × Value)} {st : List Value} {ad : Nat → Nat} {B B' : bS} {a b : Int}
theorem KB_aload_n {j : Fin 4} {q : Nat} (hd : X.2.2.2.2[i]? = some (pc, .aload_n j, 1)) (hl : kGet lo j.val = some (.ref q)) (k : KB X G Z A (pc + 1) lo (.ref q :: st) ad B cells slots) : KB X G Z A pc lo st ad B cells slots := by
  intro p e s m args below meth c H locs ls C hP hD hS hls
  exact lv_aload_n C.1 C.2.1 (kTab_at C.2.2.2.2.2.2.2.2.1 hd) rfl (kGet_at hls hl) (k p e s m args below meth c H locs ls C hP hD hS hls)
theorem KB_iload_n {j : Fin 4} (hd : X.2.2.2.2[i]? = some (pc, .iload_n j, 1)) (hl : kGet lo j.val = some (kI a)) (k : KB X G Z A (pc + 1) lo (kI a :: st) ad B cells slots) : KB X G Z A pc lo st ad B cells slots := by
  intro p e s m args below meth c H locs ls C hP hD hS hls
  exact lv_iload_n C.1 C.2.1 (kTab_at C.2.2.2.2.2.2.2.2.1 hd) rfl (kGet_at hls hl) (k p e s m args below meth c H locs ls C hP hD hS hls)
theorem KB_iconst {z : Int} (hd : X.2.2.2.2[i]? = some (pc, .iconst z, 1)) (k : KB X G Z A (pc + 1) lo (kI z :: st) ad B cells slots) : KB X G Z A pc lo st ad B cells slots := by
  intro p e s m args below meth c H locs ls C hP hD hS hl
  exact lv_iconst C.1 C.2.1 (kTab_at C.2.2.2.2.2.2.2.2.1 hd) rfl (k p e s m args below meth c H locs ls C hP hD hS hl)
theorem KB_lconst {z : Fin 2} (y : Int) (hd : X.2.2.2.2[i]? = some (pc, .lconst z, 1)) (hz : Int64.ofNat (z : Nat) = Int64.ofInt y) (k : KB X G Z A (pc + 1) lo (kJ y :: st) ad B cells slots) : KB X G Z A pc lo st ad B cells slots := by
  intro p e s m args below meth c H locs ls C hP hD hS hl
  exact lv_lconst C.1 C.2.1 (kTab_at C.2.2.2.2.2.2.2.2.1 hd) hz (k p e s m args below meth c H locs ls C hP hD hS hl)
theorem KB_bipush {z : Int} (hd : X.2.2.2.2[i]? = some (pc, .bipush z, 2)) (hz : (Int8.ofInt z).toInt32 = Int32.ofInt z) (k : KB X G Z A (pc + 2) lo (kI z :: st) ad B cells slots) : KB X G Z A pc lo st ad B cells slots := by
  intro p e s m args below meth c H locs ls C hP hD hS hl
  exact lv_bipush C.1 C.2.1 (kTab_at C.2.2.2.2.2.2.2.2.1 hd) hz (k p e s m args below meth c H locs ls C hP hD hS hl)
theorem KB_sipush {z : Int} (hd : X.2.2.2.2[i]? = some (pc, .sipush z, 3)) (hz : (Int16.ofInt z).toInt32 = Int32.ofInt z) (k : KB X G Z A (pc + 3) lo (kI z :: st) ad B cells slots) : KB X G Z A pc lo st ad B cells slots := by
  intro p e s m args below meth c H locs ls C hP hD hS hl
  exact lv_sipush C.1 C.2.1 (kTab_at C.2.2.2.2.2.2.2.2.1 hd) hz (k p e s m args below meth c H locs ls C hP hD hS hl)
theorem KB_dup {v : Value} (hd : X.2.2.2.2[i]? = some (pc, .dup, 1)) (hv : v.category = 1) (k : KB X G Z A (pc + 1) lo (v :: v :: st) ad B cells slots) : KB X G Z A pc lo (v :: st) ad B cells slots := by
  intro p e s m args below meth c H locs ls C hP hD hS hl
  exact lv_dup C.1 C.2.1 (kTab_at C.2.2.2.2.2.2.2.2.1 hd) hv (k p e s m args below meth c H locs ls C hP hD hS hl)
theorem KB_ist_n {j : Fin 4} (hd : X.2.2.2.2[i]? = some (pc, .istore_n j, 1)) (hn : Nat.ble (j.val + 1) X.2.2.1 = true) (h2 : kNo2 lo j.val = true) (hl : kIns (kDel lo j.val) j.val (kI a) = lo') (k : KB X G Z A (pc + 1) lo' st ad B cells slots) : KB X G Z A pc lo (kI a :: st) ad B cells slots := by
  intro p e s m args below meth c H locs ls C hP hD hS hls
  exact lv_istore_n C.1 C.2.1 (kTab_at C.2.2.2.2.2.2.2.2.1 hd) rfl hls (Nat.le_of_ble_eq_true hn) rfl (fun ls' hl' => k p e s m args below meth c H locs ls' C hP hD hS (lv_mono hl' (by rw [← hl]; exact kIns_ok h2)))
theorem KB_ast_n {j : Fin 4} {q : Nat} (hd : X.2.2.2.2[i]? = some (pc, .astore_n j, 1)) (hn : Nat.ble (j.val + 1) X.2.2.1 = true) (h2 : kNo2 lo j.val = true) (hl : kIns (kDel lo j.val) j.val (.ref q) = lo') (k : KB X G Z A (pc + 1) lo' st ad B cells slots) : KB X G Z A pc lo (.ref q :: st) ad B cells slots := by
  intro p e s m args below meth c H locs ls C hP hD hS hls
  exact lv_astore_n C.1 C.2.1 (kTab_at C.2.2.2.2.2.2.2.2.1 hd) rfl hls (Nat.le_of_ble_eq_true hn) rfl (fun ls' hl' => k p e s m args below meth c H locs ls' C hP hD hS (lv_mono hl' (by rw [← hl]; exact kIns_ok h2)))
theorem KB_inc {j q : Nat} {z : Int} (hd : X.2.2.2.2[i]? = some (pc, .iinc j z, 3)) (hq : lo[q]? = some (j, kI a)) (hn : Nat.ble (j + 1) X.2.2.1 = true) (h2 : kNo2 lo j = true) (hb : a + z = b) (hl : kIns (kDel lo j) j (kI b) = lo') (k : KB X G Z A (pc + 3) lo' st ad B cells slots) : KB X G Z A pc lo st ad B cells slots := by
  intro p e s m args below meth c H locs ls C hP hD hS hls
  subst hb
  exact lv_iinc (v := Int32.ofInt (a + z)) C.1 C.2.1 (kTab_at C.2.2.2.2.2.2.2.2.1 hd) hls hq (by rw [Int32.ofInt_add]) (Nat.le_of_ble_eq_true hn) rfl (fun ls' hl' => k p e s m args below meth c H locs ls' C hP hD hS (lv_mono hl' (by rw [← hl]; exact kIns_ok h2)))
theorem KB_goto {off : Int} (tgt : Nat) (hd : X.2.2.2.2[i]? = some (pc, .goto off, 3)) (ht : (pc : Int) + off = (tgt : Int)) (k : KB X G Z A tgt lo st ad B cells slots) : KB X G Z A pc lo st ad B cells slots := by
  intro p e s m args below meth c H locs ls C hP hD hS hl
  exact lv_goto C.1 C.2.1 (kTab_at C.2.2.2.2.2.2.2.2.1 hd) ht (k p e s m args below meth c H locs ls C hP hD hS hl)
theorem KB_ge_t {off : Int} (tgt : Nat) (hd : X.2.2.2.2[i]? = some (pc, .if_icmp .ge off, 3)) (ht : (pc : Int) + off = (tgt : Int)) (ha : kR a) (hb : kR b) (h : b ≤ a) (k : KB X G Z A tgt lo st ad B cells slots) : KB X G Z A pc lo (kI b :: kI a :: st) ad B cells slots := by
  intro p e s m args below meth c H locs ls C hP hD hS hl
  exact lv_icmp_ge C.1 C.2.1 (kTab_at C.2.2.2.2.2.2.2.2.1 hd) ht (fun _ => k p e s m args below meth c H locs ls C hP hD hS hl) (fun q => absurd ((kR_le hb ha).mpr h) q)
theorem KB_ge_f {off : Int} (tgt : Nat) (hd : X.2.2.2.2[i]? = some (pc, .if_icmp .ge off, 3)) (ht : (pc : Int) + off = (tgt : Int)) (ha : kR a) (hb : kR b) (h : ¬ b ≤ a) (k : KB X G Z A (pc + 3) lo st ad B cells slots) : KB X G Z A pc lo (kI b :: kI a :: st) ad B cells slots := by
  intro p e s m args below meth c H locs ls C hP hD hS hl
  exact lv_icmp_ge C.1 C.2.1 (kTab_at C.2.2.2.2.2.2.2.2.1 hd) ht (fun q => absurd ((kR_le hb ha).mp q) h) (fun _ => k p e s m args below meth c H locs ls C hP hD hS hl)
theorem KB_objInit {idx q : Nat} (hd : X.2.2.2.2[i]? = some (pc, .invokespecial idx, 3)) (hw : Cond.methodLink X.1 idx Lib.objectInit ∈ lw_tbl) (hR : 1 ≤ Z.1.frames ∧ 20 ≤ Z.1.locals) (hcat : (st.map fun v => v.category).sum ≤ 8) (k : KB X G Z A (pc + 3) lo st ad B cells slots) : KB X G Z A pc lo (.ref q :: st) ad B cells slots := by
  intro p e s m args below meth c H locs ls C hP hD hS hl
  refine W.objInit C.1 C.2.1 C.2.2.2.1 (C.2.2.2.2.1 _ (kw hw rfl)) (C.2.2.2.2.1 _ (kw (w := .instanceMethod Lib.objectInit) (by decide +kernel) rfl)) (C.2.2.2.2.1 _ (kw (w := .code Lib.objectInit ⟨#[0xb1]⟩ 1 none) (by decide +kernel) rfl)) (g := F0 m pc ls (.ref q :: st)) rfl (hl.1.trans C.2.2.1.symm) rfl (kTab_at C.2.2.2.2.2.2.2.2.1 hd) hR.1 (by have := lv_room (m := m) (pc := pc) (ls := ls) (rest := .ref q :: st) hcat; omega) ?_
  exact k p e s m args below meth c H locs ls C hP hD hS hl
theorem KB_new {idx k N n : Nat} {C : String} {T : u_T} {fs : List Nat} (hd : X.2.2.2.2[i]? = some (pc, .new idx, 3)) (hc : classes[k]? = some (C, T, N)) (w1 : Cond.classLink X.1 idx C ∈ lw_tbl) (w2 : Cond.instantiable C N ∈ lw_tbl) (w3 : Cond.initialized C ∈ lw_tbl) (hfs : ∀ ad : Nat → Nat, ∀ j, j < N → defaultValue (kTy k j) = vp_V (fs.map (bFv ad)) j) (hn : B.length = n) (hB : bWf B = true) (hk : bOk 0 (k, fs) = true) (hR : cells + 1 ≤ Z.1.cells ∧ slots + N ≤ Z.1.slots) (hB' : B ++ [(k, fs)] = B')
    (k0 : ∀ (q : Nat) (ad' : Nat → Nat), (∀ i, i < n → ad' i = ad i) → ad' n = q → KB X G Z A (pc + 3) lo (.ref q :: st) ad' B' (cells + 1) (slots + N)) : KB X G Z A pc lo st ad B cells slots := by
  intro p e s m args below meth c H locs ls Cx hP hD hS hl
  subst hn
  obtain ⟨hk10, hg⟩ := kCl_get hc
  have ok := kTy_ok k hk10
  rw [hg] at ok
  have hcell : bCell G.2.2 ad (k, fs) = .inr (k, fs.map (bFv ad)) := by simp [bCell, hk10]
  refine va_new (ci := k) (fs := fs.map (bFv ad)) Cx.1 Cx.2.1 Cx.2.2.2.2.1 (kWs_ok _ (List.mem_of_getElem? hc)) (kTy k) ok Cx.2.2.2.1 (Cx.2.2.2.2.1 _ (kw w1 rfl)) (Cx.2.2.2.2.1 _ (kw w2 rfl)) (Cx.2.2.2.2.1 _ (kw w3 rfl)) Cx.2.2.2.2.2.2.2.1 hP hD hS Cx.2.2.2.2.2.2.2.2.2.2.2 hc (hfs ad) hR.1 hR.2 (kTab_at Cx.2.2.2.2.2.2.2.2.1 hd) (fun q H1 hP1 hD1 hS1 => ?_)
  rw [← hcell, bW_push hB hk, hB'] at hP1 hD1
  exact k0 q _ (fun i hi => by simp [bAd, show i ≠ B.length by omega]) (by simp [bAd]) p e s m args below meth c H1 locs ls Cx hP1 hD1 hS1 hl
end BRules
