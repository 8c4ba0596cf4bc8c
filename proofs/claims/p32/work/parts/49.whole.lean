def BLaw_0 : bS := [(8, [4, 6, 16, 26, 140, 141, 150, 163, 1]), (7, [5, 0]), (10, [74]), (4, [7, 14, 15]), (1, [8, 9, 10, 11, 12, 13, 0]), (10, [8]), (10, [8]), (10, [8]), (10, [8]), (10, [8]), (10, [2]), (10, [10]), (10, [8]), (4, [17, 24, 25]), (1, [18, 19, 20, 21, 22, 23, 0]), (10, [8]), (10, [8]), (10, [8]), (10, [8]), (10, [8]), (10, [2]), (10, [10]), (10, [8]), (0, [27, 0, 0]), (12, [28, 35, 42, 49, 56, 63, 70, 77, 84, 91, 98, 105, 112, 119, 126, 133]), (1, [29, 30, 31, 32, 33, 34, 0]), (10, [8]), (10, [8]), (10, [8]), (10, [8]), (10, [8]), (10, [2]), (1, [36, 37, 38, 39, 40, 41, 0]), (10, [8]), (10, [8]), (10, [8]), (10, [8]), (10, [8]), (10, [2]), (1, [43, 44, 45, 46, 47, 48, 0]), (10, [8]), (10, [8]), (10, [8]), (10, [8]), (10, [8]), (10, [2]), (1, [50, 51, 52, 53, 54, 55, 0]), (10, [8]), (10, [8]), (10, [8]), (10, [8]), (10, [8]), (10, [2]), (1, [57, 58, 59, 60, 61, 62, 0]), (10, [8]), (10, [8]), (10, [8]), (10, [8]), (10, [8]), (10, [2]), (1, [64, 65, 66, 67, 68, 69, 0]), (10, [8]), (10, [8]), (10, [8]), (10, [8]), (10, [8]), (10, [2]), (1, [71, 72, 73, 74, 75, 76, 0]), (10, [8]), (10, [8]), (10, [8]), (10, [8]), (10, [8]), (10, [2]), (1, [78, 79, 80, 81, 82, 83, 0]), (10, [8]), (10, [8]), (10, [8]), (10, [8]), (10, [8]), (10, [2]), (1, [85, 86, 87, 88, 89, 90, 0]), (10, [8]), (10, [8]), (10, [8]), (10, [8]), (10, [8]), (10, [2]), (1, [92, 93, 94, 95, 96, 97, 0]), (10, [8]), (10, [8]), (10, [8]), (10, [8]), (10, [8]), (10, [2]), (1, [99, 100, 101, 102, 103, 104, 0]), (10, [8]), (10, [8]), (10, [8]), (10, [8]), (10, [8]), (10, [2]), (1, [106, 107, 108, 109, 110, 111, 0]), (10, [8]), (10, [8]), (10, [8]), (10, [8]), (10, [8]), (10, [2]), (1, [113, 114, 115, 116, 117, 118, 0]), (10, [8]), (10, [8]), (10, [8]), (10, [8]), (10, [8]), (10, [2]), (1, [120, 121, 122, 123, 124, 125, 0]), (10, [8]), (10, [8]), (10, [8]), (10, [8]), (10, [8]), (10, [2]), (1, [127, 128, 129, 130, 131, 132, 0]), (10, [8]), (10, [8]), (10, [8]), (10, [8]), (10, [8]), (10, [2]), (1, [134, 135, 136, 137, 138, 139, 0]), (10, [8]), (10, [8]), (10, [8]), (10, [8]), (10, [8]), (10, [2]), (13, [165, 176]), (2, [142, 143, 144, 145, 146, 147, 148, 149, 0]), (10, [24]), (10, [24]), (10, [24]), (10, [24]), (10, [8]), (10, [8]), (10, [243]), (10, [243]), (3, [151, 152, 153, 154, 161, 162, 0]), (10, [8]), (10, [8]), (11, [8]), (1, [155, 156, 157, 158, 159, 160, 0]), (10, [8]), (10, [8]), (10, [8]), (10, [8]), (10, [8]), (10, [2]), (10, [4]), (10, [4]), (6, [164]), (10, [8]), (5, [166, 0]), (4, [167, 174, 175]), (1, [168, 169, 170, 171, 172, 173, 0]), (10, [8]), (10, [8]), (10, [8]), (10, [8]), (10, [8]), (10, [2]), (10, [10]), (10, [8]), (5, [177, 0]), (4, [178, 185, 186]), (1, [179, 180, 181, 182, 183, 184, 0]), (10, [8]), (10, [8]), (10, [8]), (10, [8]), (10, [8]), (10, [2]), (10, [10]), (10, [8]), (9, [2, 0, 2, 2, 0, 2, 2, 2, 0, 0, 0, 0, 0, 2, 2, 0, 0, 2, 2, 2, 2, 2, 1, 2, 2, 2])]
/-! the law from its entry -/
def lF (b L : Nat) (xs : Nat → Int32) (sz : Nat) (below : List Frame) (args : Array Value) (s : State) : State → Prop := fun t => (args = #[Value.ref b] ∧ s.heap.size = sz ∧ va_X b L xs s s.heap ∧ b < s.heap.size ∧ kNs s) → lw_Z below args s t
theorem KB_end {G : bG} {b L sz : Nat} {xs : Nat → Int32} {ad : Nat → Nat} {a1 a2 : Nat} (hL : L ≤ 2560) (h1 : ad 0 = a1) (h2 : ad 184 = a2) : KB X_law G (room_1, lF b L xs sz) (fun q => sz ≤ q) 18 [(0, .ref b), (1, .ref a1), (2, .ref a2), (3, kI 0)] [] ad BLaw 201 2960 := by
  intro p e s m args below meth c H locs ls Cx hP hD hS hl
  by_cases hE : args = #[Value.ref b] ∧ s.heap.size = sz ∧ va_X b L xs s s.heap ∧ b < s.heap.size ∧ kNs s
  · obtain ⟨rfl, hsz, hX, hbl, hN⟩ := id hE
    have k := KB_K (G := G) (b := b) (L := L) (sz := sz) (xs := xs) (ad := ad) (pc := 18) (st := []) (z := 0) h1 h2 (fun _ h => h) (law_loop (G.1, G.2.1, G.2.2, fun c => ad (kPi.getD c 0)) hL _ ⟨0, 0, Gd_zero, Rl_zero⟩) p e s m below meth c H locs ls hN hsz hX hbl Cx hP hD hS hl
    intro T hT X
    obtain ⟨t, q1, q2⟩ := k T hT X
    exact ⟨t, q1, fun _ => q2⟩
  · intro T hT X
    exact ⟨_, Steps.refl _, fun h => absurd h hE⟩
theorem inst_ok : ∀ q ∈ classes, Cond.instantiable q.1 q.2.2 ∈ lw_tbl := by decide +kernel
theorem kWs_ok2 : ∀ r ∈ classes, ∀ w ∈ u_ws r.1 r.2.1 r.2.2, w ∈ lw_tbl := fun r hr w hw => (List.mem_filter.mp (kWs_ok r hr w hw)).1
set_option maxHeartbeats 4000000 in
set_option maxRecDepth 100000 in
/-- THE LAW, from its entry -/
theorem whole_start {p : Program} {e : Env} {s : State} {m : MethodId} {below : List Frame} {meth : Method} {c : Code} (l : Launch) {b L : Nat} {xs : Nat → Int32} (hL : L ≤ 2560) (C0 : lw_At p s m meth c b L xs) : W p l e room_1 s m #[Value.ref b] below meth c s.heap [] 0 0 (lw_Z below #[Value.ref b] s) (entryFrame m ([Value.ref b] : List Value).toArray 4) := by
  obtain ⟨hx, hb, hr, hml, hown, hts, hX, hbl, hlocks, hgv⟩ := id C0
  have hcl : ∀ k : Nat, ∃ (cC : ClassId) (iS : Nat → Nat), ∀ q : vw_C, classes[k]? = some q → u_Kn s q.1 q.2.1 q.2.2 cC iS := by
    intro k
    cases hk : classes[k]? with
    | none => exact ⟨0, fun _ => 0, fun q hq => by cases hq⟩
    | some q =>
      have hq := List.mem_of_getElem? hk
      obtain ⟨cC, iS, h⟩ := u_known (C := q.1) (T := q.2.1) (N := q.2.2) (n := q.2.2) hts (kWs_ok2 q hq) (hts _ (inst_ok q hq))
      exact ⟨cC, iS, fun q' hq' => by cases hq'; exact h⟩
  obtain ⟨dC, dI, hKc⟩ : ∃ (dC : Nat → ClassId) (dI : Nat → Nat → Nat), ∀ (k : Nat) (q : vw_C), classes[k]? = some q → u_Kn s q.1 q.2.1 q.2.2 (dC k) (dI k) :=
    ⟨fun k => Classical.choose (hcl k), fun k => Classical.choose (Classical.choose_spec (hcl k)), fun k q hq => Classical.choose_spec (Classical.choose_spec (hcl k)) q hq⟩
  obtain ⟨c10, k10, p10, f10, g10, i10⟩ := Cond.arrayClass_spec (hts (.arrayClass .int) (List.mem_of_getElem? (i := 83) (by decide +kernel)))
  obtain ⟨c11, k11, p11, f11, g11, i11⟩ := Cond.arrayClass_spec (hts (.arrayClass .boolean) (List.mem_of_getElem? (i := 244) (by decide +kernel)))
  obtain ⟨p12, c12, k12, f12, -, g12, i12, j12⟩ := Cond.arrayOver_spec (hts (.arrayOver (.object "KitesWar$Fleet")) (List.mem_of_getElem? (i := 162) (by decide +kernel)))
  obtain ⟨p13, c13, k13, f13, -, g13, i13, j13⟩ := Cond.arrayOver_spec (hts (.arrayOver (.object "KitesWar$Slot")) (List.mem_of_getElem? (i := 176) (by decide +kernel)))
  obtain ⟨dA, a10, a11, a12, a13⟩ : ∃ dA : Nat → ClassId, dA 10 = c10 ∧ dA 11 = c11 ∧ dA 12 = c12 ∧ dA 13 = c13 := ⟨fun t => if t = 10 then c10 else if t = 11 then c11 else if t = 12 then c12 else c13, rfl, rfl, rfl, rfl⟩
  have hK : va_K (dC, dI) classes (kTys dA) s := by
    refine ⟨hKc, fun k q hk => ?_⟩
    unfold kTys at hk
    rw [a10, a11, a12, a13] at hk
    match k, hk with
    | 0, hk => cases hk; exact ⟨fun n z => ⟨fun k h => (by cases h), k10, g10, p10, i10⟩, f10⟩
    | 1, hk => cases hk; exact ⟨fun n z => ⟨fun k h => (by cases h), k11, g11, p11, i11⟩, f11⟩
    | 2, hk => cases hk; exact ⟨fun n z => ⟨fun k h => (by cases h), k12, g12, p12, i12⟩, k12, p12, g12, i12, f12, j12⟩
    | 3, hk => cases hk; exact ⟨fun n z => ⟨fun k h => (by cases h), k13, g13, p13, i13⟩, k13, p13, g13, i13, f13, j13⟩
    | k + 4, hk => simp at hk
  have hNs : kNs s := kNs_of hts
  have hNt : kNt s := ⟨fun w hw => by
    have h2 := hts w (kNc_in w hw)
    obtain ⟨a, i, y, b, rfl⟩ := kNc_m hw
    exact va_Nw.of rfl h2, va_AO.of (hts (.arrayOver (.object "KitesWar$Fleet")) (List.mem_of_getElem? (i := 162) (by decide +kernel))), va_AO.of (hts (.arrayOver (.object "KitesWar$Slot")) (List.mem_of_getElem? (i := 176) (by decide +kernel)))⟩
  have hl := lv_entry [.ref b] (n := 4) (Nat.le_of_ble_eq_true rfl)
  have main : KB X_law (l, (dC, dI), dA) (room_1, lF b L xs s.heap.size) (fun q => s.heap.size ≤ q) 0 [(0, .ref b)] [] (fun _ => 0) [] 0 0 := by
    refine KB_new (pc := 0) (i := 0) (B := []) (n := 0) (fs := [2, 2, 2, 2, 2, 2, 2, 2, 1]) rfl rfl (List.mem_of_getElem? (i := 61) (by decide +kernel)) (List.mem_of_getElem? (i := 62) (by decide +kernel)) (List.mem_of_getElem? (i := 48) (by decide +kernel)) nw_War (by decide +kernel) (by decide +kernel) rfl ⟨Nat.le_of_ble_eq_true rfl, Nat.le_of_ble_eq_true rfl⟩ (B' := BWar_0) (by decide +kernel) (fun q0 ad0 hg0 hq0 => ?_)
    refine KB_dup (pc := 3) (i := 1) rfl rfl ?_
    refine KB_ctor (pc := 4) (i := 2) (B := BWar_0) (B0 := []) (n := 0) rfl (cb_War _) (by decide +kernel) (by decide +kernel) hq0 (by decide +kernel) (by decide +kernel) (by decide +kernel) (by decide +kernel) rfl rfl (List.mem_of_getElem? (i := 63) (by decide +kernel)) (List.mem_of_getElem? (i := 64) (by decide +kernel)) (List.mem_of_getElem? (i := 48) (by decide +kernel)) (List.mem_of_getElem? (i := 65) (by decide +kernel)) ⟨⟨Nat.le_of_ble_eq_true rfl, Nat.le_of_ble_eq_true rfl⟩, Nat.le_of_ble_eq_true rfl, Nat.le_of_ble_eq_true rfl⟩ (Nat.le_of_ble_eq_true rfl) (B' := BWar_39) (by decide +kernel) (fun ad4 hg4 => ?_)
    have h1 := (hg4 0 (by decide)).trans hq0
    refine KB_ast_n (pc := 7) (i := 3) (lo' := [(0, _), (1, _)]) rfl rfl rfl rfl ?_
    refine KB_new (pc := 8) (i := 4) (B := BWar_39) (n := 184) (fs := [2, 0, 2, 2, 0, 2, 2, 2, 0, 0, 0, 0, 0, 2, 2, 0, 0, 2, 2, 2, 2, 2, 1, 2, 2, 2]) rfl rfl (List.mem_of_getElem? (i := 723) (by decide +kernel)) (List.mem_of_getElem? (i := 724) (by decide +kernel)) (List.mem_of_getElem? (i := 57) (by decide +kernel)) nw_Model (by decide +kernel) (by decide +kernel) rfl ⟨Nat.le_of_ble_eq_true rfl, Nat.le_of_ble_eq_true rfl⟩ (B' := BLaw_0) (by decide +kernel) (fun q8 ad8 hg8 hq8 => ?_)
    have h1 := (hg8 0 (by decide)).trans h1
    refine KB_dup (pc := 11) (i := 5) rfl rfl ?_
    refine KB_ctor (pc := 12) (i := 6) (B := BLaw_0) (B0 := BWar_39) (n := 184) rfl (cb_Model _) (by decide +kernel) (by decide +kernel) hq8 (by decide +kernel) (by decide +kernel) (by decide +kernel) (by decide +kernel) rfl rfl (List.mem_of_getElem? (i := 725) (by decide +kernel)) (List.mem_of_getElem? (i := 726) (by decide +kernel)) (List.mem_of_getElem? (i := 57) (by decide +kernel)) (List.mem_of_getElem? (i := 727) (by decide +kernel)) ⟨⟨Nat.le_of_ble_eq_true rfl, Nat.le_of_ble_eq_true rfl⟩, Nat.le_of_ble_eq_true rfl, Nat.le_of_ble_eq_true rfl⟩ (Nat.le_of_ble_eq_true rfl) (B' := BLaw) (by decide +kernel) (fun ad12 hg12 => ?_)
    have h1 := (hg12 0 (by decide)).trans h1
    have h2 := (hg12 184 (by decide)).trans hq8
    refine KB_ast_n (pc := 15) (i := 7) (lo' := [(0, _), (1, _), (2, _)]) rfl rfl rfl rfl ?_
    refine KB_iconst (pc := 16) (i := 8) rfl ?_
    refine KB_ist_n (pc := 17) (i := 9) (lo' := [(0, _), (1, _), (2, _), (3, _)]) rfl rfl rfl rfl ?_
    exact KB_end hL h1 h2
  rw [lg_entry_eq]
  have k := main p e s m #[Value.ref b] below meth c s.heap [] _ ⟨hx, hb, hml, hown, fun w hw => hts w (List.mem_filter.mp hw).1, hr, hlocks, hK, T_law, hNt, Or.inl rfl, fun _ h => h⟩ (fun k q h => by simp [bW] at h) ⟨fun i j p q h => by simp [bW] at h, fun k q h => by simp [bW] at h⟩ va_S.rf hl
  intro T hT X
  obtain ⟨t, q1, q2⟩ := k T hT X
  exact ⟨t, q1, q2 ⟨rfl, rfl, hX, hbl, hNs⟩⟩
-- ===== YOUR PART ENDS =====
set_option maxHeartbeats 4000000 in
theorem lw_walk (l : Launch) (b : Addr) (xs : List Int32) : MetFree l x (headSpec (Jvm.Cond.code x code maxLocals ret :: tables_1) room_1) (lw_P b xs) (fun _ _ _ _ _ => True) lw_Q := by
  refine MetFree.of_bodyS (code := code) (maxLocals := maxLocals) (ret := ret) (by decide) ?_ ?_
  · intro args s m h hn
    obtain ⟨meth, c, h1, h2, h3, h4, h5, h6, -, -⟩ := Cond.code_spec hn (atoms_spec (ws := Jvm.Cond.code x code maxLocals ret :: tables_1) h _ List.mem_cons_self)
    exact ⟨meth, c, h1, h2, h3, h4, h5, h6⟩
  · intro p e s m args below meth c s₁ B hml0 hP _
    obtain ⟨rfl, hx, hbd, hgv⟩ := hP
    obtain ⟨scr, harrAt, hlist, hof, hsmall⟩ := hx
    obtain ⟨hcb, hkn, -, -⟩ := State.arrayAt?_spec harrAt
    have hown : s.vm.findClass R_law = some m.cls := findClass_of_methodNamed B.named
    have hts0 : ∀ c ∈ (Jvm.Cond.code x code maxLocals ret :: tables_1), c.before #[Value.ref b] s = true := atoms_spec (ws := Jvm.Cond.code x code maxLocals ret :: tables_1) B.pre
    have hts : ∀ w ∈ lw_tbl, w.before #[Value.ref b] s = true := k2_hts_sels lw_privs (fun w hw => hts0 w (List.mem_cons_of_mem _ hw)) lw_privs_ok
    have hml : c.maxLocals = 4 := B.maxLocals_eq (hts0 _ List.mem_cons_self)
    have X₀ : Stand p l e room_1 s m #[Value.ref b] below meth c s₁ [] 0 0 := Stand.of_body B
    have hh0 : s₁.heap = s.heap := by rw [B.state]; rfl
    have hsz : scr.slots.size = xs.length := by rw [← Array.length_toList, hlist, List.length_map]
    have hval : ∀ j : Nat, j < xs.length → scr.slots[j]? = some (.int (xs.getD j 0)) := fun j hj => by
      rw [← Array.getElem?_toList, hlist]
      simp [hj]
    have hbl : b < s.heap.size := (Array.getElem?_eq_some_iff.mp hcb).1
    have hX : va_X b xs.length (fun j => xs.getD j 0) s s.heap := ⟨scr, hcb, hof, hkn, hsz, hval⟩
    have K : W p l e room_1 s m #[Value.ref b] below meth c s₁.heap [] 0 0 (lw_Z below #[Value.ref b] s) (entryFrame m ([Value.ref b] : List Value).toArray 4) := by
      rw [hh0]
      exact whole_start l hbd ⟨B.exec, B.bytes, B.returns, hml, hown, hts, hX, hbl, B.notSynchronized, hgv⟩
    obtain ⟨t, a1, o, b1, b2, b3⟩ := K s₁ rfl X₀
    exact ⟨t, o, a1, b1, b2, b3⟩
theorem lw_pre_spec {args : Array Value} {s : State} (h : (Jvm.Cond.and given_1 narrow_1).before args s = true) (hr : rest_1_c.before args s = true) : ∃ (b : Addr) (xs : List Int32), lw_P b xs args s := by
  have hs := flat_of_before _ h
  have hq := flat_of_before _ hr
  have hc : (Cond.count 1).before args s = true := hs _ (by decide +kernel)
  have harr : (Cond.arrayOf (.arg 0) .int).before args s = true := hs _ (by decide +kernel)
  have hle : (Cond.le (.length (.arg 0)) (.int 2560)).before args s = true := hs _ (by decide +kernel)
  have hlen : (Cond.isInt (.length (.arg 0))).before args s = true := hq _ (by decide +kernel)
  have hall : (Cond.all (.arg 0) (.isInt (.elem (.arg 0) (.index 0)))).before args s = true := hq _ (by decide +kernel)
  obtain ⟨b, xs, hb, hx⟩ := State.ints_of_pre rfl harr hlen hall
  have hsm : xs.length < 2 ^ 31 := hx.choose_spec.2.2.2
  have hev : (Term.length (.arg 0)).eval args s none [] s = some (.int xs.length.toInt32) := hx.length_eval hb
  have hv := Cond.le_ints hev (show (Term.int 2560).eval args s none [] s = some (.int 2560) from rfl)
  have hd : xs.length.toInt32 ≤ 2560 := by
    simpa [Cond.before, Cond.holds, hv] using hle
  have hN : xs.length ≤ 2560 := (Int32.ofNat_le_ofNat hsm (by decide)).mp (show Int32.ofNat xs.length ≤ Int32.ofNat 2560 from hd)
  exact ⟨b, xs, Cond.one_arg hc (show args[0]? = some (.ref b) from hb), hx, hN, h⟩
theorem lw_comes (l : Launch) : Comes l x (Jvm.Cond.code x code maxLocals ret :: tables_1) room_1 (fun tb e args s => Calls_1 tb e args s ∧ rest_1 tb e args s ∧ Pre_1 tb e args s)
    (fun _ _ args s o t => lw_Q args s o t) := by
  intro p e ha hc hk s m args below hf hfit hheap happ hpre
  obtain ⟨b, xs, hP⟩ := lw_pre_spec hpre.2.2 hpre.2.1
  obtain ⟨k, o, h1, h2, h3, hQ⟩ := lw_walk l b xs p e ha hc hk s m args below hf ((Spec.applies_iff_loose hf).mp happ).1 hP trivial
  exact ⟨k, o, h1, h2, h3, hQ⟩
theorem lw_frame {s t : State} {o : Outcome} {args : Array Value} (h : Framed s o t [] 600000 7302250) :
    Framed s o t (fieldLocs frame_1_writes args s ++ arrayLocs frame_1_arrays args s ++ staticLocs frame_1_statics s) 600000 7302250 := h
theorem lw_limb (L : Cond) (hL : ∀ (args : Array Value) (s t : State), L.after args s (.returned (some (.int 1))) t = true) :
    ArmFor flags0 classFile x code maxLocals ret World_1 tables_1 room_1 Calls_1 rest_1 Pre_1
      (fun tb e a s o t => postC L tb e a s o t ∧ Framed s o t (fieldLocs frame_1_writes a s ++ arrayLocs frame_1_arrays a s ++ staticLocs frame_1_statics s) 600000 7302250) := by
  intro l _ _ _ p e ha hc hk s m args below hf hfit hheap happ hpre
  obtain ⟨k, o, h1, h2, h3, rfl, hF⟩ := lw_comes l p e ha hc hk s m args below hf hfit hheap happ hpre
  exact ⟨k, _, h1, h2, h3, hL args s _, lw_frame hF⟩
theorem i_vc : Claimed_1_1 ∧ Claimed_1_2 := ⟨lw_limb limb_1_1 (fun args s t => by simp [limb_1_1, Cond.after, Cond.holds, Cond.value]), lw_limb limb_1_2 (fun args s t => Cond.after_iff.mpr (by
  first | (rw [show limb_1_2 = Cond.eq .result (.int 1) from rfl, Cond.eq_ints (x := 1) (y := 1) rfl rfl]; simp; done) | (simp [limb_1_2, Cond.value, Term.eval]; done)))⟩
