/-! a constructor's contract; its call -/
def bRm (d mc ms : Nat) : Room := { frames := d, cells := mc, slots := ms, locals := 64 * d }
def bA (dA : Nat → ClassId) (a0 : Nat) (s0 : Nat × List Nat) (sz : Nat) : Nat → Prop := va_A [(a0, bCell dA (fun _ => 0) s0)] sz
def bPc (G : bG) (a0 : Nat) (s0 : Nat × List Nat) (sz : Nat) : Array Value → State → Prop := va_Pc [.ref a0] (fun U => U.heap.size = sz ∧ va_P G.2.1 classes [(a0, bCell G.2.2 (fun _ => 0) s0)] U.heap ∧ va_K G.2.1 classes (kTys G.2.2) U ∧ kNt U)
def bQc (G : bG) (a0 : Nat) (s0 : Nat × List Nat) (sz : Nat) (B1 : bS) : Array Value → State → Outcome → State → Prop := va_Qv (fun ad : Nat → Nat => ad 0 = a0) (fun ad t => va_P G.2.1 classes (bW G.2.2 ad B1) t.heap ∧ va_K G.2.1 classes (kTys G.2.2) t ∧ va_D (bA G.2.2 a0 s0 sz) (bW G.2.2 ad B1)) (bA G.2.2 a0 s0 sz)
def CtB (G : bG) (y : MethodName) (X : kX) (d mc ms : Nat) (s0 : Nat × List Nat) (B1 : bS) : Prop :=
  ∀ a0 sz : Nat, Met G.1 y (kWs y X) (bRm d mc ms) (bPc G a0 s0 sz) (bQc G a0 s0 sz B1) mc ms (bA G.2.2 a0 s0 sz)
def bZm (G : bG) (d mc ms a0 : Nat) (s0 : Nat × List Nat) (sz : Nat) (B1 : bS) : bZ := (bRm d mc ms, fun below args s => MQ below (bQc G a0 s0 sz B1) args s mc ms (bA G.2.2 a0 s0 sz))
theorem bBlind (G : bG) (a0 : Nat) (s0 : Nat × List Nat) (sz : Nat) : FrameBlind (bPc G a0 s0 sz) := fun a U g mk q => by
  obtain ⟨q0, q1, qP, qK, qN⟩ := q
  exact ⟨q0, q1, qP, va_K.moved (u := U) (U := U.calling g mk a) (Vm.Alike.refl U.vm) qK, kNt.same (u := U) (U := U.calling g mk a) rfl qN⟩
theorem CtB.ofKB {G : bG} {y : MethodName} {X : kX} {d mc ms : Nat} {s0 : Nat × List Nat} {B1 : bS} (hy : plainName y.cls = true) (hyX : y.cls = X.1) (hyn : y.name = "<init>") (hT : ∀ q ∈ X.2.2.2.2, decode X.2.1 q.1 = .ok q.2) (hn : 1 ≤ X.2.2.1) (hs0 : bOk 0 s0 = true)
    (k : ∀ (a0 sz : Nat) (ad : Nat → Nat), ad 0 = a0 → KB X G (bZm G d mc ms a0 s0 sz B1) (bA G.2.2 a0 s0 sz) 0 [(0, .ref a0)] [] ad [s0] 0 0) : CtB G y X d mc ms s0 B1 := by
  intro a0 sz
  refine Met.ofW (cc := X.2.1) (maxL := X.2.2.1) (ret := X.2.2.2.1) hy rfl ?_
  intro p e s m args below meth c s₁ B hml hv
  obtain ⟨rfl, hsz, hP, hK, hN⟩ := hv
  subst hsz
  have hts := atoms_spec (ws := kWs y X) B.pre
  have hown : s.vm.findClass y.cls = some m.cls := findClass_of_methodNamed B.named
  have hin : meth.name = "<init>" := (name_of_methodNamed B.named B.method).1.trans hyn
  have hl := lv_entry [.ref a0] (n := X.2.2.1) hn
  rw [lg_entry_eq]
  have hw : bW G.2.2 (fun _ => a0) [s0] = [(a0, bCell G.2.2 (fun _ => 0) s0)] := by
    have : bCell G.2.2 (fun _ => a0) s0 = bCell G.2.2 (fun _ => 0) s0 := bCell_congr (n := 0) (fun i hi => absurd hi (by omega)) hs0
    show [(a0, bCell G.2.2 (fun _ => a0) s0)] = _
    rw [this]
  refine k a0 s.heap.size (fun _ => a0) rfl p e s m _ below meth c s.heap [] _ ⟨B.exec, B.bytes, hml, by rw [← hyX]; exact hown, fun w hw => hts w (List.mem_cons_of_mem _ hw), B.returns, B.notSynchronized, hK, hT, hN, Or.inr hin, fun q hq => Or.inr hq⟩ (by rw [hw]; exact hP) ?_ va_S.rf hl
  rw [hw]
  refine ⟨fun i j p q hp hq _ => ?_, fun k q hk => ?_⟩
  · have h1 := (List.getElem?_eq_some_iff.mp hp).1
    have h2 := (List.getElem?_eq_some_iff.mp hq).1
    simp at h1 h2
    omega
  · exact Or.inl ⟨k, q.2, hk⟩
theorem va_nd_of {l : List Nat} (h : va_nd l = true) : va_nd l = true := h
section BCalls
variable {X : kX} {G : bG} {Z : bZ} {A : Nat → Prop} {pc i cells slots n q idx d mc ms : Nat} {lo : List (Nat × Value)} {st : List Value} {ad : Nat → Nat} {B B0 B1 B' : bS} {s0 : Nat × List Nat} {y : MethodName} {Y : kX}
theorem KB_ret {a0 sz : Nat} (hd : X.2.2.2.2[i]? = some (pc, .return_, 1)) (hr : X.2.2.2.1 = none) (h0 : ad 0 = a0) : KB X G (bZm G d mc ms a0 s0 sz B1) (bA G.2.2 a0 s0 sz) pc lo [] ad B1 mc ms := by
  intro p e s m args below meth c H locs ls Cx hP hD hS hl
  exact W.vret Cx.1 Cx.2.1 (Cx.2.2.2.2.2.1.trans hr) (fun t ht hW => ⟨⟨ad, rfl, h0, by rw [ht]; exact hP, va_K.moved hW.alike Cx.2.2.2.2.2.2.2.1, hD⟩, hS.F ht⟩) hS.2.2 (kTab_at Cx.2.2.2.2.2.2.2.2.1 hd) Cx.2.2.2.2.2.2.1
/-- behind a constructor's call -/
theorem bBack {p : Program} {e : Env} {s : State} {m : MethodId} {args : Array Value} {below : List Frame} {meth : Method} {c : Code} {H : Heap} {locs : List Loc} {ls : Array Slot} {a : Array Value} (Cx : bCx X G A p s m args meth c) (hP : va_P G.2.1 classes (bW G.2.2 ad B) H) (hD : va_D A (bW G.2.2 ad B)) (hS : va_S A s.heap H locs) (hl : lv_has ls X.2.2.1 lo)
    (hB : B = B0 ++ [s0]) (hn : B0.length = n) (hq : ad n = q) (hw0 : bWf B0 = true) (hs0 : bOk 0 s0 = true) (hnd : va_nd (List.range n) = true) (hB' : B0 ++ B1.map (bSh n) = B')
    (hr : va_Run p G.1 e Z.1 s m args below meth c H locs cells slots mc ms (F0 m pc ls (.ref q :: st)) st (bQc G q s0 H.size B1 a) (bA G.2.2 q s0 H.size))
    (k0 : ∀ ad' : Nat → Nat, (∀ i, i ≤ n → ad' i = ad i) → KB X G Z A (pc + 3) lo st ad' B' (cells + mc) (slots + ms)) :
    W p G.1 e Z.1 s m args below meth c H locs cells slots (Z.2 below args s) (F0 m pc ls (.ref q :: st)) := by
  subst hB
  subst hn
  subst hq
  have hcell : bCell G.2.2 ad s0 = bCell G.2.2 (fun _ => 0) s0 := bCell_congr (n := 0) (fun i hi => absurd hi (by omega)) hs0
  have hlast : (bW G.2.2 ad (B0 ++ [s0]))[B0.length]? = some (ad B0.length, bCell G.2.2 (fun _ => 0) s0) := by rw [bW_at (s := s0) (by simp), hcell]
  have hC : [B0.length].map (fun i => (bW G.2.2 ad (B0 ++ [s0]))[i]?) = [(ad B0.length, bCell G.2.2 (fun _ => 0) s0)].map some := by simp [hlast]
  have hR : (List.range B0.length).map (fun i => (bW G.2.2 ad (B0 ++ [s0]))[i]?) = (bW G.2.2 ad B0).map some := by
    apply List.ext_getElem?
    intro j
    by_cases hj : j < B0.length
    · have e1 : B0[j]? = some B0[j] := List.getElem?_eq_getElem hj
      rw [List.getElem?_map, List.getElem?_range hj, List.getElem?_map, bW_at e1]
      simp only [Option.map_some]
      rw [bW_at (s := B0[j]) (by rw [List.getElem?_append_left hj]; exact e1)]
    · rw [List.getElem?_eq_none (by simp; omega), List.getElem?_eq_none (by simp [bW]; omega)]
  have hFc := va_free (wc := [(ad B0.length, bCell G.2.2 (fun _ => 0) s0)]) hD hS Cx.2.2.2.2.2.2.2.2.2.2.2 [B0.length] hC
  refine va_callv hr hS (fun q _ h => hFc q h) hFc (fun ad1 t H1 locs1 ht hvm hw hB hz1 hk1 hS1 => ?_)
  obtain ⟨hP1, hK1, hD1⟩ := hB
  rw [ht] at hP1
  obtain ⟨hPj, hDj⟩ := va_join (wr := bW G.2.2 ad B0) (w1 := bW G.2.2 ad1 B1) hP hD [B0.length] (List.range B0.length) hC hR hnd (fun i hi => by simp at hi ⊢; omega) hk1 hFc hP1 hD1
  have hagree : ∀ i, i < B0.length → (fun i => if i < B0.length then ad i else ad1 (i - B0.length)) i = ad i := fun i hi => by simp [hi]
  have e1 : bW G.2.2 ad B0 = bW G.2.2 (fun i => if i < B0.length then ad i else ad1 (i - B0.length)) B0 := (bW_congr hagree hw0).symm
  have e2 : bW G.2.2 ad1 B1 = bW G.2.2 (fun j => (fun i => if i < B0.length then ad i else ad1 (i - B0.length)) (B0.length + j)) B1 := by
    congr 1
    funext j
    dsimp only
    rw [if_neg (by omega), Nat.add_sub_cancel_left]
  rw [e1, e2, bW_app, hB'] at hPj hDj
  refine k0 _ (fun i hi => ?_) p e s m args below meth c H1 locs1 ls Cx hPj hDj hS1 hl
  by_cases h : i < B0.length
  · simp [h]
  · have : i = B0.length := by omega
    subst this
    simp [hw]
theorem KB_ctorN (hd : X.2.2.2.2[i]? = some (pc, .invokespecial idx, 3)) (hM : CtB G y Y d mc ms s0 B1) (hB : B = B0 ++ [s0]) (hn : B0.length = n) (hq : ad n = q) (hw0 : bWf B0 = true) (hs0 : bOk 0 s0 = true) (hnd : va_nd (List.range n) = true)
    (hy : y.cls ≠ "java/lang/invoke/MethodHandle" ∧ y.cls ≠ "java/lang/invoke/VarHandle" ∧ (parseMethodDescriptor y.desc).map (fun d => d.parameters.length) = some 0) (hyn : y.name = "<init>") (hY : Y.2.2.2.1 = none)
    (w1 : Cond.methodLinkNest X.1 idx y "KitesWar" ∈ kNc) (w2 : Cond.instanceMethod y ∈ lw_tbl) (w4 : Cond.initialized y.cls ∈ lw_tbl) (w5 : Cond.code y Y.2.1 Y.2.2.1 Y.2.2.2.1 ∈ lw_tbl)
    (hR : (d + 1 ≤ Z.1.frames ∧ 8 + (Y.2.2.1 + 11) + 64 * d ≤ Z.1.locals) ∧ cells + mc ≤ Z.1.cells ∧ slots + ms ≤ Z.1.slots) (hcat : (st.map fun v => v.category).sum ≤ 8) (hB' : B0 ++ B1.map (bSh n) = B')
    (k0 : ∀ ad' : Nat → Nat, (∀ i, i ≤ n → ad' i = ad i) → KB X G Z A (pc + 3) lo st ad' B' (cells + mc) (slots + ms)) : KB X G Z A pc lo (.ref q :: st) ad B cells slots := by
  intro p e s m args below meth c H locs ls Cx hP hD hS hl
  have hcell : bCell G.2.2 ad s0 = bCell G.2.2 (fun _ => 0) s0 := bCell_congr (n := 0) (fun i hi => absurd hi (by omega)) hs0
  have hPc : va_P G.2.1 classes [(q, bCell G.2.2 (fun _ => 0) s0)] H := by
    refine hP.sub [n] ?_
    have : (bW G.2.2 ad B)[n]? = some (q, bCell G.2.2 (fun _ => 0) s0) := by rw [← hq, bW_at (s := s0) (by rw [hB, ← hn]; simp), hcell]
    simp [this]
  have w5' : Cond.code y Y.2.1 Y.2.2.1 none ∈ lw_tbl := hY ▸ w5
  refine bBack Cx hP hD hS hl hB hn hq hw0 hs0 hnd hB' (va_runIN (host := "KitesWar") (ws := kWs y Y) (As := []) (rest := st) (Ts := kTb) ⟨Cx.1, Cx.2.1, Cx.2.2.1, Cx.2.2.2.1, Cx.2.2.2.2.1⟩ (hM q H.size) ⟨va_cnB 0 Cx.2.2.2.2.1 (kGoodWs w5) (by rw [← hY]; rfl) rfl rfl (Cx.2.2.2.2.2.2.2.2.2.1.1 _ w1) (Cx.2.2.2.2.1 _ (kw w4 rfl)) hy ⟨hR.1.1, hR.1.2⟩, hyn, Cx.2.2.2.2.1 _ (kw w2 rfl)⟩ ⟨bBlind G q s0 H.size, fun U hU hW => ⟨rfl, by rw [hU], by rw [hU]; exact hPc, va_K.moved hW.alike Cx.2.2.2.2.2.2.2.1, kNt.warm hW Cx.2.2.2.2.2.2.2.2.2.1⟩⟩ rfl rfl hl.1 rfl (lv_room hcat) (kTab_at Cx.2.2.2.2.2.2.2.2.1 hd) hR.2) k0
theorem KB_ctor (hd : X.2.2.2.2[i]? = some (pc, .invokespecial idx, 3)) (hM : CtB G y Y d mc ms s0 B1) (hB : B = B0 ++ [s0]) (hn : B0.length = n) (hq : ad n = q) (hw0 : bWf B0 = true) (hs0 : bOk 0 s0 = true) (hnd : va_nd (List.range n) = true)
    (hy : y.cls ≠ "java/lang/invoke/MethodHandle" ∧ y.cls ≠ "java/lang/invoke/VarHandle" ∧ (parseMethodDescriptor y.desc).map (fun d => d.parameters.length) = some 0) (hyn : y.name = "<init>") (hY : Y.2.2.2.1 = none)
    (w1 : Cond.methodLink X.1 idx y ∈ lw_tbl) (w2 : Cond.instanceMethod y ∈ lw_tbl) (w4 : Cond.initialized y.cls ∈ lw_tbl) (w5 : Cond.code y Y.2.1 Y.2.2.1 Y.2.2.2.1 ∈ lw_tbl)
    (hR : (d + 1 ≤ Z.1.frames ∧ 8 + (Y.2.2.1 + 11) + 64 * d ≤ Z.1.locals) ∧ cells + mc ≤ Z.1.cells ∧ slots + ms ≤ Z.1.slots) (hcat : (st.map fun v => v.category).sum ≤ 8) (hB' : B0 ++ B1.map (bSh n) = B')
    (k0 : ∀ ad' : Nat → Nat, (∀ i, i ≤ n → ad' i = ad i) → KB X G Z A (pc + 3) lo st ad' B' (cells + mc) (slots + ms)) : KB X G Z A pc lo (.ref q :: st) ad B cells slots := by
  intro p e s m args below meth c H locs ls Cx hP hD hS hl
  have hcell : bCell G.2.2 ad s0 = bCell G.2.2 (fun _ => 0) s0 := bCell_congr (n := 0) (fun i hi => absurd hi (by omega)) hs0
  have hPc : va_P G.2.1 classes [(q, bCell G.2.2 (fun _ => 0) s0)] H := by
    refine hP.sub [n] ?_
    have : (bW G.2.2 ad B)[n]? = some (q, bCell G.2.2 (fun _ => 0) s0) := by rw [← hq, bW_at (s := s0) (by rw [hB, ← hn]; simp), hcell]
    simp [this]
  refine bBack Cx hP hD hS hl hB hn hq hw0 hs0 hnd hB' (va_runI (ws := kWs y Y) (As := []) (rest := st) (Ts := kTb) ⟨Cx.1, Cx.2.1, Cx.2.2.1, Cx.2.2.2.1, Cx.2.2.2.2.1⟩ (hM q H.size) ⟨callB_of 0 Cx.2.2.2.2.1 (kGoodWs w5) (by rw [← hY]; rfl) rfl rfl (Cx.2.2.2.2.1 _ (kw w4 rfl)) (Cx.2.2.2.2.1 _ (kw w1 rfl)) hy ⟨hR.1.1, hR.1.2⟩, hyn, Cx.2.2.2.2.1 _ (kw w2 rfl)⟩ ⟨bBlind G q s0 H.size, fun U hU hW => ⟨rfl, by rw [hU], by rw [hU]; exact hPc, va_K.moved hW.alike Cx.2.2.2.2.2.2.2.1, kNt.warm hW Cx.2.2.2.2.2.2.2.2.2.1⟩⟩ rfl rfl hl.1 rfl (lv_room hcat) (kTab_at Cx.2.2.2.2.2.2.2.2.1 hd) hR.2) k0
end BCalls
