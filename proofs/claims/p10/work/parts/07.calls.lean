/-! contracts over the heap of ints; calls; returns -/
def kWs (y : MethodName) (X : kX) : List Cond := Cond.code y X.2.1 X.2.2.1 X.2.2.2.1 :: kTb
def kRm (d : Nat) : Room := { frames := d, cells := 0, slots := 0, locals := 64 * d }
def kQ (G : kG) (Qr : Option Value → kH → Prop) : Array Value → State → Outcome → State → Prop := fun _ st oc t =>
  (∃ (v : Option Value) (h' : kH), oc = .returned v ∧ Qr v h' ∧ va_P G.2.1 classes (kW G.2.2.1 G.2.2.2 h') t.heap ∧ va_K G.2.1 classes (kTys G.2.2.1) t) ∧ va_F (kA G.2.2.2) st t
def kPc (G : kG) (av : List Value) (h : kH) : Array Value → State → Prop := va_Pc av (fun U => va_P G.2.1 classes (kW G.2.2.1 G.2.2.2 h) U.heap ∧ va_K G.2.1 classes (kTys G.2.2.1) U ∧ kNs U)
/-- the method's contract: called with these arguments in the heap h, at most d frames deep, it returns with Qr of its answer and the new heap -/
def Ctr (G : kG) (y : MethodName) (X : kX) (d : Nat) (av : List Value) (h : kH) (Qr : Option Value → kH → Prop) : Prop :=
  kInj G.2.2.2 → Met G.1 y (kWs y X) (kRm d) (kPc G av h) (kQ G Qr) 0 0 (kA G.2.2.2)
def kZm (G : kG) (d : Nat) (Qr : Option Value → kH → Prop) : kZ := (kRm d, 0, 0, fun below args s => MQ below (kQ G Qr) args s 0 0 (kA G.2.2.2), fun _ _ => True)
theorem kGood : GoodIn kTb kTb := fun w hw => ⟨hw, good_of_word (List.mem_filter.mp hw).2⟩
theorem kGoodWs {y : MethodName} {X : kX} (hc : Cond.code y X.2.1 X.2.2.1 X.2.2.2.1 ∈ lw_tbl) : GoodIn kTb (kWs y X) := by
  intro w hw
  rcases List.mem_cons.mp hw with rfl | hw
  · exact kGood _ (kw hc rfl)
  · exact kGood w hw
theorem kBlind (G : kG) (av : List Value) (h : kH) : FrameBlind (kPc G av h) := fun a U g mk q => by
  obtain ⟨q0, qP, qK, qN⟩ := q
  exact ⟨q0, qP, va_K.moved (u := U) (U := U.calling g mk a) (Vm.Alike.refl U.vm) qK, kNs.same (u := U) (U := U.calling g mk a) rfl qN⟩
theorem Ctr.ofK {G : kG} {y : MethodName} {X : kX} {d : Nat} {av : List Value} {h : kH} {Qr : Option Value → kH → Prop} (hy : plainName y.cls = true) (hyX : y.cls = X.1) (hT : ∀ q ∈ X.2.2.2.2, decode X.2.1 q.1 = .ok q.2) (hn : (lg_sl av).length ≤ X.2.2.1) {lo : List (Nat × Value)} (hlo : lv_args 0 av = lo)
    (k : K X G (kZm G d Qr) 0 lo [] h) : Ctr G y X d av h Qr := by
  intro hi
  refine Met.ofW (cc := X.2.1) (maxL := X.2.2.1) (ret := X.2.2.2.1) hy rfl ?_
  intro p e s m args below meth c s₁ B hml hv
  obtain ⟨rfl, hP, hK, hN⟩ := hv
  have hts := atoms_spec (ws := kWs y X) B.pre
  have hown : s.vm.findClass y.cls = some m.cls := findClass_of_methodNamed B.named
  have hl := lv_entry av (n := X.2.2.1) hn
  rw [lg_entry_eq]
  rw [hlo] at hl
  exact k p e s m av.toArray below meth c s.heap [] _ ⟨B.exec, B.bytes, hml, by rw [← hyX]; exact hown, fun w hw => hts w (List.mem_cons_of_mem _ hw), B.returns, B.notSynchronized, hK, hi, hT, hN, trivial⟩ hP va_S.rf hl
section KRet
variable {X : kX} {G : kG} {d pc i : Nat} {lo : List (Nat × Value)} {h : kH} {a : Int} {Qr : Option Value → kH → Prop}
theorem K_iret (hd : X.2.2.2.2[i]? = some (pc, .ireturn, 1)) (hr : X.2.2.2.1 = some .int) (q : Qr (some (kI a)) h) : K X G (kZm G d Qr) pc lo [kI a] h := by
  intro p e s m args below meth c H locs ls C hP hS hl
  exact W.iret C.1 C.2.1 (C.2.2.2.2.2.1.trans hr) (fun t ht hW => ⟨⟨_, h, rfl, q, by rw [ht]; exact hP, va_K.moved hW.alike C.2.2.2.2.2.2.2.1⟩, hS.F ht⟩) hS.2.2 (kTab_at C.2.2.2.2.2.2.2.2.2.1 hd) C.2.2.2.2.2.2.1
theorem K_zret (hd : X.2.2.2.2[i]? = some (pc, .ireturn, 1)) (hr : X.2.2.2.1 = some .boolean) (ha : a = 0 ∨ a = 1) (q : Qr (some (kI a)) h) : K X G (kZm G d Qr) pc lo [kI a] h := by
  intro p e s m args below meth c H locs ls C hP hS hl
  exact W.zret C.1 C.2.1 (C.2.2.2.2.2.1.trans hr) (by rcases ha with rfl | rfl <;> rfl) (fun t ht hW => ⟨⟨_, h, rfl, q, by rw [ht]; exact hP, va_K.moved hW.alike C.2.2.2.2.2.2.2.1⟩, hS.F ht⟩) hS.2.2 (kTab_at C.2.2.2.2.2.2.2.2.2.1 hd) C.2.2.2.2.2.2.1
theorem K_lret (hd : X.2.2.2.2[i]? = some (pc, .lreturn, 1)) (hr : X.2.2.2.1 = some .long) (q : Qr (some (kJ a)) h) : K X G (kZm G d Qr) pc lo [kJ a] h := by
  intro p e s m args below meth c H locs ls C hP hS hl
  exact W.lret C.1 C.2.1 (C.2.2.2.2.2.1.trans hr) (fun t ht hW => ⟨⟨_, h, rfl, q, by rw [ht]; exact hP, va_K.moved hW.alike C.2.2.2.2.2.2.2.1⟩, hS.F ht⟩) hS.2.2 (kTab_at C.2.2.2.2.2.2.2.2.2.1 hd) C.2.2.2.2.2.2.1
theorem K_vret (hd : X.2.2.2.2[i]? = some (pc, .return_, 1)) (hr : X.2.2.2.1 = none) (q : Qr none h) : K X G (kZm G d Qr) pc lo [] h := by
  intro p e s m args below meth c H locs ls C hP hS hl
  exact W.vret C.1 C.2.1 (C.2.2.2.2.2.1.trans hr) (fun t ht hW => ⟨⟨_, h, rfl, q, by rw [ht]; exact hP, va_K.moved hW.alike C.2.2.2.2.2.2.2.1⟩, hS.F ht⟩) hS.2.2 (kTab_at C.2.2.2.2.2.2.2.2.2.1 hd) C.2.2.2.2.2.2.1
end KRet
section KCall
variable {X : kX} {G : kG} {Z : kZ} {pc i idx d n : Nat} {lo : List (Nat × Value)} {st rest As : List Value} {h : kH} {Qr : Option Value → kH → Prop} {y : MethodName} {Y : kX} {c k N : Nat} {fs : List Nat} {C : String} {T : u_T}
/-- behind a call -/
theorem kBack {p : Program} {e : Env} {s : State} {m : MethodId} {args : Array Value} {below : List Frame} {meth : Method} {cc : Code} {H : Heap} {locs : List Loc} {ls : Array Slot} {a : Array Value} (Cx : kCx X G Z p s m args meth cc) (hS : va_S (kA G.2.2.2) s.heap H locs) (hl : lv_has ls X.2.2.1 lo)
    (hr : va_Run p G.1 e Z.1 s m args below meth cc H locs Z.2.1 Z.2.2.1 0 0 (F0 m pc ls st) rest (kQ G Qr a) (kA G.2.2.2)) (k0 : ∀ (v : Option Value) (h' : kH), Qr v h' → K X G Z (pc + 3) lo (v.toList ++ rest) h') :
    W p G.1 e Z.1 s m args below meth cc H locs Z.2.1 Z.2.2.1 (Z.2.2.2.1 below args s) (F0 m pc ls st) := by
  intro T0 hT X0
  obtain ⟨v, st₀, t, T', L, h0, X', hL, e1, e2, ⟨⟨v', h', hv, hq, hP', hK'⟩, hz, hk⟩, stp⟩ := hr T0 hT X0
  cases hv
  rw [h0] at hz hk
  obtain ⟨t2, a1, b1⟩ := k0 v h' hq p e s m args below meth cc T'.heap (locs ++ L) ls Cx (by rw [e1]; exact hP')
    ⟨Nat.le_trans hS.1 (by rw [e1]; exact hz), fun q h1 h2 => by rw [e1, hk q (Nat.lt_of_lt_of_le h1 hS.1) h2]; exact hS.2.1 q h1 h2, fun q hq => by
      rcases List.mem_append.mp hq with h | h
      · exact hS.2.2 q h
      · exact hL q h⟩ hl T' rfl X'
  exact ⟨t2, stp t2 a1, b1⟩
theorem K_callV (hd : X.2.2.2.2[i]? = some (pc, .invokevirtual idx, 3)) (hM : Ctr G y Y d (.ref (G.2.2.2 c) :: As) h Qr) (hs : kS c = (k, fs)) (hne : fs ≠ []) (hc : classes[k]? = some (C, T, N)) (hst : As.reverse ++ .ref (G.2.2.2 c) :: rest = st) (hcat : (rest.map fun v => v.category).sum ≤ 8)
    (hy : y.cls = C ∧ y.cls ≠ "java/lang/invoke/MethodHandle" ∧ y.cls ≠ "java/lang/invoke/VarHandle" ∧ (parseMethodDescriptor y.desc).map (fun d => d.parameters.length) = some n) (hn : As.length = n)
    (w1 : Cond.methodLink X.1 idx y ∈ lw_tbl) (w2 : Cond.instanceMethod y ∈ lw_tbl) (w3 : Cond.selects C y y ∈ lw_tbl) (w4 : Cond.initialized C ∈ lw_tbl) (w5 : Cond.code y Y.2.1 Y.2.2.1 Y.2.2.2.1 ∈ lw_tbl)
    (hR : d + 1 ≤ Z.1.frames ∧ 8 + (Y.2.2.1 + 11) + 64 * d ≤ Z.1.locals) (hf : Z.2.1 + 0 ≤ Z.1.cells ∧ Z.2.2.1 + 0 ≤ Z.1.slots)
    (k0 : ∀ (v : Option Value) (h' : kH), Qr v h' → K X G Z (pc + 3) lo (v.toList ++ rest) h') : K X G Z pc lo st h := by
  intro p e s m args below meth cc H locs ls Cx hP hS hl
  have hk := (kCl_get hc).1
  have hcN : c < kN := kS_lt hs hne
  have hG : GoodIn kTb (wsV X.1 idx C y (kWs y Y)) := by
    intro w hw
    rcases List.mem_append.mp hw with hw | hw
    · refine kGood w ?_
      simp only [List.mem_cons, List.not_mem_nil, or_false] at hw
      rcases hw with rfl | rfl | rfl | rfl
      · exact kw w1 rfl
      · exact kw w2 rfl
      · exact kw w3 rfl
      · exact kw w4 rfl
    · exact kGoodWs w5 w hw
  refine kBack Cx hS hl (va_runV (C := C) (As := As) (rest := rest) (b := G.2.2.2 c) (Ts := kTb) ⟨Cx.1, Cx.2.1, Cx.2.2.1, Cx.2.2.2.1, Cx.2.2.2.2.1⟩ (hM Cx.2.2.2.2.2.2.2.2.1) (cwV n Cx.2.2.2.2.1 hG rfl rfl rfl hy ⟨hR.1, hR.2⟩) ⟨kBlind G _ h, ?_, fun U hU hW => ⟨rfl, by rw [hU]; exact hP, va_K.moved hW.alike Cx.2.2.2.2.2.2.2.1, kNs.warm hW Cx.2.2.2.2.2.2.2.2.2.2.1⟩⟩ rfl hn hl.1 hst.symm (lv_room hcat) (kTab_at Cx.2.2.2.2.2.2.2.2.2.1 hd) hf) k0
  exact va_recv (fs := kFs G.2.2.2 (h c) 0 fs) Cx.2.2.2.2.2.2.2.1 hP (ci := k) (q0 := c) hc (by rw [kW_at hcN, kCell_obj hs hk])
theorem K_callS (hd : X.2.2.2.2[i]? = some (pc, .invokestatic idx, 3)) (hM : Ctr G y Y d As h Qr) (hst : As.reverse ++ rest = st) (hcat : (rest.map fun v => v.category).sum ≤ 8)
    (hy : y.cls ≠ "java/lang/invoke/MethodHandle" ∧ y.cls ≠ "java/lang/invoke/VarHandle" ∧ (parseMethodDescriptor y.desc).map (fun d => d.parameters.length) = some n) (hn : As.length = n)
    (w1 : Cond.methodLink X.1 idx y ∈ lw_tbl) (w2 : Cond.static y ∈ lw_tbl) (w4 : Cond.initialized y.cls ∈ lw_tbl) (w5 : Cond.code y Y.2.1 Y.2.2.1 Y.2.2.2.1 ∈ lw_tbl)
    (hR : d + 1 ≤ Z.1.frames ∧ 8 + (Y.2.2.1 + 11) + 64 * d ≤ Z.1.locals) (hf : Z.2.1 + 0 ≤ Z.1.cells ∧ Z.2.2.1 + 0 ≤ Z.1.slots)
    (k0 : ∀ (v : Option Value) (h' : kH), Qr v h' → K X G Z (pc + 3) lo (v.toList ++ rest) h') : K X G Z pc lo st h := by
  intro p e s m args below meth cc H locs ls Cx hP hS hl
  have hG : GoodIn kTb (va_wsS X.1 idx y (kWs y Y)) := by
    intro w hw
    rcases List.mem_append.mp hw with hw | hw
    · refine kGood w ?_
      simp only [List.mem_cons, List.not_mem_nil, or_false] at hw
      rcases hw with rfl | rfl | rfl
      · exact kw w1 rfl
      · exact kw w2 rfl
      · exact kw w4 rfl
    · exact kGoodWs w5 w hw
  exact kBack Cx hS hl (va_runS (As := As) (rest := rest) (Ts := kTb) ⟨Cx.1, Cx.2.1, Cx.2.2.1, Cx.2.2.2.1, Cx.2.2.2.2.1⟩ (hM Cx.2.2.2.2.2.2.2.2.1) (va_cwS n Cx.2.2.2.2.1 hG rfl rfl rfl hy ⟨hR.1, hR.2⟩) ⟨kBlind G _ h, fun U hU hW => ⟨rfl, by rw [hU]; exact hP, va_K.moved hW.alike Cx.2.2.2.2.2.2.2.1, kNs.warm hW Cx.2.2.2.2.2.2.2.2.2.2.1⟩⟩ rfl hn hl.1 hst.symm (lv_room hcat) (kTab_at Cx.2.2.2.2.2.2.2.2.2.1 hd) hf) k0
theorem K_callSN (hd : X.2.2.2.2[i]? = some (pc, .invokestatic idx, 3)) (hM : Ctr G y Y d As h Qr) (hst : As.reverse ++ rest = st) (hcat : (rest.map fun v => v.category).sum ≤ 8)
    (hy : y.cls ≠ "java/lang/invoke/MethodHandle" ∧ y.cls ≠ "java/lang/invoke/VarHandle" ∧ (parseMethodDescriptor y.desc).map (fun d => d.parameters.length) = some n) (hn : As.length = n)
    (w1 : Cond.methodLinkNest X.1 idx y "KitesWar" ∈ kNw) (w2 : Cond.static y ∈ lw_tbl) (w4 : Cond.initialized y.cls ∈ lw_tbl) (w5 : Cond.code y Y.2.1 Y.2.2.1 Y.2.2.2.1 ∈ lw_tbl)
    (hR : d + 1 ≤ Z.1.frames ∧ 8 + (Y.2.2.1 + 11) + 64 * d ≤ Z.1.locals) (hf : Z.2.1 + 0 ≤ Z.1.cells ∧ Z.2.2.1 + 0 ≤ Z.1.slots)
    (k0 : ∀ (v : Option Value) (h' : kH), Qr v h' → K X G Z (pc + 3) lo (v.toList ++ rest) h') : K X G Z pc lo st h := by
  intro p e s m args below meth cc H locs ls Cx hP hS hl
  have hnw : va_Nw (.methodLinkNest X.1 idx y "KitesWar") s := Cx.2.2.2.2.2.2.2.2.2.2.1 _ w1
  exact kBack Cx hS hl (va_runSN (host := "KitesWar") (As := As) (rest := rest) (Ts := kTb) ⟨Cx.1, Cx.2.1, Cx.2.2.1, Cx.2.2.2.1, Cx.2.2.2.2.1⟩ (hM Cx.2.2.2.2.2.2.2.2.1) ⟨va_cnB n Cx.2.2.2.2.1 (kGoodWs w5) rfl rfl rfl hnw (Cx.2.2.2.2.1 _ (kw w4 rfl)) hy ⟨hR.1, hR.2⟩, Cx.2.2.2.2.1 _ (kw w2 rfl), trivial⟩ ⟨kBlind G _ h, fun U hU hW => ⟨rfl, by rw [hU]; exact hP, va_K.moved hW.alike Cx.2.2.2.2.2.2.2.1, kNs.warm hW Cx.2.2.2.2.2.2.2.2.2.2.1⟩⟩ rfl hn hl.1 hst.symm (lv_room hcat) (kTab_at Cx.2.2.2.2.2.2.2.2.2.1 hd) hf) k0
/-- the copy of a row into another -/
def kCpy (h : kH) (c0 c1 sp dp n : Nat) : kH := fun c' => if c' = c1 then (fun j => if dp ≤ j ∧ j < dp + n then h c0 (sp + (j - dp)) else h c1 j) else h c'
theorem K_copy {c0 c1 l0 l1 : Nat} {sp dp z : Int} (hd : X.2.2.2.2[i]? = some (pc, .invokestatic idx, 3)) (hs0 : kS c0 = (10, [l0])) (hs1 : kS c1 = (10, [l1])) (h1 : 0 ≤ sp) (h2 : 0 ≤ dp) (h3 : 0 ≤ z) (h4 : sp + z ≤ l0) (h5 : dp + z ≤ l1) (hl0 : l0 ≤ 1000) (hl1 : l1 ≤ 1000)
    (w1 : Cond.methodLink X.1 idx arraycopyName ∈ lw_tbl) (hcat : (st.map fun v => v.category).sum ≤ 8) (hR : 1 ≤ Z.1.frames ∧ 8 + (nativeFrameWords "java/lang/System" "arraycopy" 5 + 11) ≤ Z.1.locals)
    (k0 : K X G Z (pc + 3) lo st (kCpy h c0 c1 sp.toNat dp.toNat z.toNat)) : K X G Z pc lo (kI z :: kI dp :: .ref (G.2.2.2 c1) :: kI sp :: .ref (G.2.2.2 c0) :: st) h := by
  intro p e s m args below meth cc H locs ls Cx hP hS hl
  have hc0 : c0 < kN := kS_lt hs0 (by simp)
  have hc1 : c1 < kN := kS_lt hs1 (by simp)
  have e1 : (Int32.ofInt sp).toNatClampNeg = sp.toNat := kR_clamp ⟨by omega, by omega⟩
  have e2 : (Int32.ofInt dp).toNatClampNeg = dp.toNat := kR_clamp ⟨by omega, by omega⟩
  have e3 : (Int32.ofInt z).toNatClampNeg = z.toNat := kR_clamp ⟨by omega, by omega⟩
  have nn : ∀ {q : Int}, 0 ≤ q → q ≤ 1000 → ¬ Int32.ofInt q < 0 := fun {q} ha hb hc => by
    have := (kR_lt (a := q) (b := 0) ⟨by omega, by omega⟩ (by decide)).mp (by simpa using hc)
    omega
  refine va_copyi (sp := Int32.ofInt sp) (dp := Int32.ofInt dp) (n := Int32.ofInt z) (f := fun j => Int32.ofInt (h c0 j)) (g := fun j => Int32.ofInt (h c1 j)) (n0 := l0) (n1 := l1) (ty := .int) Cx.1 Cx.2.1 (Cx.2.2.1.trans hl.1.symm) Cx.2.2.2.1 (Cx.2.2.2.2.1 _ (kw w1 rfl)) (Cx.2.2.2.2.1 (.native arraycopyName) (by decide +kernel)) (Cx.2.2.2.2.1 (.static arraycopyName) (by decide +kernel)) (Cx.2.2.2.2.1 (.initialized "java/lang/System") (by decide +kernel)) Cx.2.2.2.2.2.2.2.1 hP (kW_D Cx.2.2.2.2.2.2.2.2.1) hS c0 c1 0 0 (by rw [kW_at hc0, kCell_int hs0]) (by rw [kW_at hc1, kCell_int hs1]) rfl rfl rfl (nn h1 (by omega)) (nn h2 (by omega)) (nn h3 (by omega)) (by rw [e1, e3]; omega) (by rw [e2, e3]; omega) (fun _ _ => rfl) hR.1 (by omega) (kTab_at Cx.2.2.2.2.2.2.2.2.2.1 hd) (fun H1 locs1 hP1 hD1 hS1 => ?_)
  rw [e1, e2, e3] at hP1
  rw [kW_set (h' := kCpy h c0 c1 sp.toNat dp.toNat z.toNat) hc1 (fun d hd => by simp [kCpy, hd]) (by
    rw [kCell_int hs1]
    congr 4
    funext q
    simp only [va_cpy, kCpy]
    by_cases e : dp.toNat ≤ q ∧ q < dp.toNat + z.toNat
    · rw [if_pos e, if_pos trivial]
      exact (congrArg Int32.ofInt (if_pos e)).symm
    · rw [if_neg e, if_pos trivial]
      exact (congrArg Int32.ofInt (if_neg e)).symm)] at hP1
  exact k0 p e s m args below meth cc H1 locs1 ls Cx hP1 hS1 hl
end KCall
