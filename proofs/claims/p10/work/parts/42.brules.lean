/-! the builder: arrays, fields, calls, ends -/
theorem kTys_eq {D : va_G} {cl : List vw_C} {tys : List (ClassId × FieldType)} {cA cB : ClassId} {ty : FieldType} {s : State} {t0 : Nat} (hK : va_K D cl (tys ++ [(cA, ty)]) s) (ht : tys[t0]? = some (cB, ty)) (hR : ∀ c : ClassId, va_RA s c ty → s.vm.findClass ("[" ++ ty.toString) = some c) : cA = cB := by
  have h1 := hR cA (hK.2 tys.length (cA, ty) (by simp)).2
  have h2 := hR cB (hK.2 t0 (cB, ty) (by rw [List.getElem?_append_left (List.getElem?_eq_some_iff.mp ht).1]; exact ht)).2
  rw [h1] at h2
  exact Option.some.inj h2
theorem kw_int : Cond.arrayClass .int ∈ kTb := kw (List.mem_of_getElem? (i := 83) (by decide +kernel)) rfl
theorem kw_bool : Cond.arrayClass .boolean ∈ kTb := kw (List.mem_of_getElem? (i := 244) (by decide +kernel)) rfl
theorem bA_int (l : Nat) (cA : ClassId) : vp_cell cA (l, .inl (fun _ => 0)) = arrV cA l (fun _ => defaultValue .int) := rfl
theorem bA_bool (l : Nat) (cA : ClassId) : vp_cell cA (l, .inl (fun _ => 0)) = arrV cA l (fun _ => defaultValue .boolean) := rfl
theorem bA_by {l : Nat} (h : l ≤ 1000) : l * componentBytes .int ≤ 536870912 ∧ l * componentBytes .boolean ≤ 536870912 := by
  have e1 : componentBytes .int = 4 := rfl
  have e2 : componentBytes .boolean = 1 := rfl
  rw [e1, e2]; omega
theorem ty_int : newarray.typeOf .int = .int := rfl
theorem ty_bool : newarray.typeOf .boolean = .boolean := rfl
section BRules2
variable {X : kX} {G : bG} {Z : bZ} {A : Nat → Prop} {pc i cells slots n : Nat} {lo lo' : List (Nat × Value)} {st : List Value} {ad : Nat → Nat} {B B' : bS} {a b : Int}
theorem KB_newI {l : Nat} (hd : X.2.2.2.2[i]? = some (pc, .newarray .int, 2)) (ha : a = l) (hl1 : l ≤ 1000) (hn : B.length = n) (hB : bWf B = true) (hR : cells + 1 ≤ Z.1.cells ∧ slots + l ≤ Z.1.slots) (hB' : B ++ [(10, [l])] = B')
    (k0 : ∀ (q : Nat) (ad' : Nat → Nat), (∀ i, i < n → ad' i = ad i) → ad' n = q → KB X G Z A (pc + 2) lo (.ref q :: st) ad' B' (cells + 1) (slots + l)) : KB X G Z A pc lo (kI a :: st) ad B cells slots := by
  intro p e s m args below meth c H locs ls Cx hP hD hS hl
  subst hn
  subst ha
  have e1 : (Int32.ofInt (l : Int)).toNatClampNeg = l := by rw [kR_clamp ⟨by omega, by omega⟩]; omega
  have e2 : ¬ Int32.ofInt (l : Int) < 0 := fun hc => by
    have := (kR_lt (a := (l : Int)) (b := 0) ⟨by omega, by omega⟩ (by decide)).mp (by simpa using hc)
    omega
  refine va_newa (ty := .int) (a0 := (l, .inl (fun _ => 0))) Cx.1 Cx.2.1 (ty_int ▸ Cx.2.2.2.2.1 _ kw_int) ty_int Cx.2.2.2.2.2.2.2.1 hP hD hS Cx.2.2.2.2.2.2.2.2.2.2.2 (bA_int l) e2 e1 (bA_by hl1).1 hR.1 hR.2 (kTab_at Cx.2.2.2.2.2.2.2.2.1 hd) (fun q cA H1 hK1 hP1 hD1 hS1 => ?_)
  have hcA : cA = G.2.2 10 := kTys_eq (t0 := 0) hK1 rfl (fun c h => h)
  subst hcA
  have hcell : bCell G.2.2 ad (10, [l]) = .inl (G.2.2 10, l, .inl (fun _ => 0)) := rfl
  rw [← hcell, bW_push hB rfl, hB'] at hP1 hD1
  exact k0 q _ (fun i hi => by simp [bAd, show i ≠ B.length by omega]) (by simp [bAd]) p e s m args below meth c H1 locs ls Cx hP1 hD1 hS1 hl
theorem KB_newZ {l : Nat} (hd : X.2.2.2.2[i]? = some (pc, .newarray .boolean, 2)) (ha : a = l) (hl1 : l ≤ 1000) (hn : B.length = n) (hB : bWf B = true) (hR : cells + 1 ≤ Z.1.cells ∧ slots + l ≤ Z.1.slots) (hB' : B ++ [(11, [l])] = B')
    (k0 : ∀ (q : Nat) (ad' : Nat → Nat), (∀ i, i < n → ad' i = ad i) → ad' n = q → KB X G Z A (pc + 2) lo (.ref q :: st) ad' B' (cells + 1) (slots + l)) : KB X G Z A pc lo (kI a :: st) ad B cells slots := by
  intro p e s m args below meth c H locs ls Cx hP hD hS hl
  subst hn
  subst ha
  have e1 : (Int32.ofInt (l : Int)).toNatClampNeg = l := by rw [kR_clamp ⟨by omega, by omega⟩]; omega
  have e2 : ¬ Int32.ofInt (l : Int) < 0 := fun hc => by
    have := (kR_lt (a := (l : Int)) (b := 0) ⟨by omega, by omega⟩ (by decide)).mp (by simpa using hc)
    omega
  refine va_newa (ty := .boolean) (a0 := (l, .inl (fun _ => 0))) Cx.1 Cx.2.1 (ty_bool ▸ Cx.2.2.2.2.1 _ kw_bool) ty_bool Cx.2.2.2.2.2.2.2.1 hP hD hS Cx.2.2.2.2.2.2.2.2.2.2.2 (bA_bool l) e2 e1 (bA_by hl1).2 hR.1 hR.2 (kTab_at Cx.2.2.2.2.2.2.2.2.1 hd) (fun q cA H1 hK1 hP1 hD1 hS1 => ?_)
  have hcA : cA = G.2.2 11 := kTys_eq (t0 := 1) hK1 rfl (fun c h => h)
  subst hcA
  have hcell : bCell G.2.2 ad (11, [l]) = .inl (G.2.2 11, l, .inl (fun _ => 0)) := rfl
  rw [← hcell, bW_push hB rfl, hB'] at hP1 hD1
  exact k0 q _ (fun i hi => by simp [bAd, show i ≠ B.length by omega]) (by simp [bAd]) p e s m args below meth c H1 locs ls Cx hP1 hD1 hS1 hl
theorem bRf_null {ad : Nat → Nat} {l j : Nat} : ((List.replicate l 2)[j]?).bind (bRf ad) = none := by
  by_cases h : j < l
  · simp [h, bRf]
  · simp [h]
theorem KB_anew {idx l t : Nat} {C : String} (ht : t = 12 ∧ C = "KitesWar$Fleet" ∨ t = 13 ∧ C = "KitesWar$Slot") (hd : X.2.2.2.2[i]? = some (pc, .anewarray idx, 3)) (w1 : Cond.classLink X.1 idx C ∈ lw_tbl) (ha : a = l) (hl1 : l ≤ 1000) (hn : B.length = n) (hB : bWf B = true) (hk : bOk 0 (t, List.replicate l 2) = true) (hR : cells + 1 ≤ Z.1.cells ∧ slots + l ≤ Z.1.slots) (hB' : B ++ [(t, List.replicate l 2)] = B')
    (k0 : ∀ (q : Nat) (ad' : Nat → Nat), (∀ i, i < n → ad' i = ad i) → ad' n = q → KB X G Z A (pc + 3) lo (.ref q :: st) ad' B' (cells + 1) (slots + l)) : KB X G Z A pc lo (kI a :: st) ad B cells slots := by
  intro p e s m args below meth c H locs ls Cx hP hD hS hl
  subst hn
  subst ha
  have e1 : (Int32.ofInt (l : Int)).toNatClampNeg = l := by rw [kR_clamp ⟨by omega, by omega⟩]; omega
  have e2 : ¬ Int32.ofInt (l : Int) < 0 := fun hc => by
    have := (kR_lt (a := (l : Int)) (b := 0) ⟨by omega, by omega⟩ (by decide)).mp (by simpa using hc)
    omega
  have hao : va_AO C s := by
    rcases ht with ⟨-, rfl⟩ | ⟨-, rfl⟩
    · exact Cx.2.2.2.2.2.2.2.2.2.1.2.1
    · exact Cx.2.2.2.2.2.2.2.2.2.1.2.2
  refine va_newq Cx.1 Cx.2.1 Cx.2.2.2.1 (Cx.2.2.2.2.1 _ (kw w1 rfl)) hao Cx.2.2.2.2.2.2.2.1 hP hD hS Cx.2.2.2.2.2.2.2.2.2.2.2 e2 e1 (by omega) hR.1 hR.2 (kTab_at Cx.2.2.2.2.2.2.2.2.1 hd) (fun q cA H1 hK1 hP1 hD1 hS1 => ?_)
  have hcA : cA = G.2.2 t := by
    rcases ht with ⟨rfl, rfl⟩ | ⟨rfl, rfl⟩
    · exact kTys_eq (t0 := 2) hK1 rfl (fun c h => by obtain ⟨_, _, _, _, _, h4⟩ := h; exact h4)
    · exact kTys_eq (t0 := 3) hK1 rfl (fun c h => by obtain ⟨_, _, _, _, _, h4⟩ := h; exact h4)
  subst hcA
  have hcell : bCell G.2.2 ad (t, List.replicate l 2) = .inl (G.2.2 t, l, .inr (.inr (.inr (.inr (fun _ => none))))) := by
    have h1 : ¬ t < 10 := by omega
    have h2 : ¬ t < 12 := by omega
    simp only [bCell, if_neg h1, if_neg h2, List.length_replicate, bRf_null]
  rw [← hcell, bW_push hB hk, hB'] at hP1 hD1
  exact k0 q _ (fun i hi => by simp [bAd, show i ≠ B.length by omega]) (by simp [bAd]) p e s m args below meth c H1 locs ls Cx hP1 hD1 hS1 hl
variable {idx k N j f : Nat} {C : String} {T : u_T} {fs : List Nat}
theorem bMap_set {ad : Nat → Nat} : (fs.map (bFv ad)).set j (bFv ad f) = (fs.set j f).map (bFv ad) := by rw [List.map_set]
/-- a final field gets its reference; this is the constructor's first cell -/
theorem KB_putF {a0 v d : Nat} (hX : X.1 ≠ "KitesWarLaw") (hd : X.2.2.2.2[i]? = some (pc, .putfield idx, 3)) (h0 : ad 0 = a0) (hv : ad d = v) (hs : B[0]? = some (k, fs)) (hc : classes[k]? = some (C, T, N)) (hj : j < N) (hjl : j < fs.length) (hfin : (T j).2.2.2 = true) (hdecl : (T j).1 = X.1) (hty : ∃ C', kTy k j = .object C' ∨ ∃ t, kTy k j = .array t) (hw : Cond.fieldLink X.1 idx (T j).1 (T j).2.1 (T j).2.2.1 ∈ lw_tbl) (hB' : B.set 0 (k, fs.set j (d + 3)) = B') (k0 : KB X G Z A (pc + 3) lo st ad B' cells slots) : KB X G Z A pc lo (.ref v :: .ref a0 :: st) ad B cells slots := by
  intro p e s m args below meth c H locs ls Cx hP hD hS hl
  subst h0
  subst hv
  obtain ⟨hk10, hg⟩ := kCl_get hc
  have ok := kTy_ok k hk10
  have nm := kNm_ok k hk10
  rw [hg] at ok nm
  have hcell : ∀ gs : List Nat, bCell G.2.2 ad (k, gs) = .inr (k, gs.map (bFv ad)) := fun gs => by simp [bCell, hk10]
  have hnar : narrow (kTy k j) (.ref (ad d)) = .ref (ad d) ∧ fits (kTy k j) (.ref (ad d)) = true := by
    obtain ⟨C', h | ⟨t, h⟩⟩ := hty <;> rw [h] <;> exact ⟨rfl, rfl⟩
  refine va_putF (ci := k) (ty := kTy k j) (v := .ref (ad d)) Cx.1 Cx.2.1 Cx.2.2.2.2.1 (kWs_ok _ (List.mem_of_getElem? hc)) (kTy k) ok nm Cx.2.2.2.1 Cx.2.2.2.2.2.2.2.1 hP hD hS 0 (fs := fs.map (bFv ad)) (by rw [bW_at hs, hcell]) hc j hj (Cx.2.2.2.2.1 _ (kw hw rfl)) (fun _ q => q) hfin (Cx.2.2.2.2.2.2.2.2.2.2.1.resolve_left hX) hdecl (ok j hj) hnar.1 hnar.2 (by rw [List.length_map]; exact hjl) (kTab_at Cx.2.2.2.2.2.2.2.2.1 hd) (fun H1 locs1 hP1 hD1 hS1 => ?_)
  have e1 : (fs.map (bFv ad)).set j (.ref (ad d)) = (fs.set j (d + 3)).map (bFv ad) := bMap_set (f := d + 3)
  rw [e1, ← hcell, bW_set, hB'] at hP1 hD1
  exact k0 p e s m args below meth c H1 locs1 ls Cx hP1 hD1 hS1 hl
theorem KB_put0 {a0 : Nat} {v : Value} (hd : X.2.2.2.2[i]? = some (pc, .putfield idx, 3)) (h0 : ad 0 = a0) (hv : bFv ad f = v) (hs : B[0]? = some (k, fs)) (hc : classes[k]? = some (C, T, N)) (hj : j < N) (hjl : j < fs.length) (hfin : (T j).2.2.2 = false) (hnar : narrow (kTy k j) v = v ∧ fits (kTy k j) v = true) (hw : Cond.fieldLink X.1 idx (T j).1 (T j).2.1 (T j).2.2.1 ∈ lw_tbl) (hB' : B.set 0 (k, fs.set j f) = B') (k0 : KB X G Z A (pc + 3) lo st ad B' cells slots) : KB X G Z A pc lo (v :: .ref a0 :: st) ad B cells slots := by
  intro p e s m args below meth c H locs ls Cx hP hD hS hl
  subst h0
  subst hv
  obtain ⟨hk10, hg⟩ := kCl_get hc
  have ok := kTy_ok k hk10
  have nm := kNm_ok k hk10
  rw [hg] at ok nm
  have hcell : ∀ gs : List Nat, bCell G.2.2 ad (k, gs) = .inr (k, gs.map (bFv ad)) := fun gs => by simp [bCell, hk10]
  refine va_put (ci := k) (ty := kTy k j) (v := bFv ad f) Cx.1 Cx.2.1 Cx.2.2.2.2.1 (kWs_ok _ (List.mem_of_getElem? hc)) (kTy k) ok nm Cx.2.2.2.1 Cx.2.2.2.2.2.2.2.1 hP hD hS 0 (fs := fs.map (bFv ad)) (by rw [bW_at hs, hcell]) hc j hj (Cx.2.2.2.2.1 _ (kw hw rfl)) (fun _ q => q) hfin (ok j hj) hnar.1 hnar.2 (by rw [List.length_map]; exact hjl) (kTab_at Cx.2.2.2.2.2.2.2.2.1 hd) (fun H1 locs1 hP1 hD1 hS1 => ?_)
  rw [bMap_set, ← hcell, bW_set, hB'] at hP1 hD1
  exact k0 p e s m args below meth c H1 locs1 ls Cx hP1 hD1 hS1 hl
theorem KB_getR {a0 v d : Nat} (hd : X.2.2.2.2[i]? = some (pc, .getfield idx, 3)) (h0 : ad 0 = a0) (hv : ad d = v) (hs : B[0]? = some (k, fs)) (hc : classes[k]? = some (C, T, N)) (hj : j < N) (hf : fs[j]? = some (d + 3)) (hw : Cond.fieldLink X.1 idx (T j).1 (T j).2.1 (T j).2.2.1 ∈ lw_tbl) (k0 : KB X G Z A (pc + 3) lo (.ref v :: st) ad B cells slots) : KB X G Z A pc lo (.ref a0 :: st) ad B cells slots := by
  intro p e s m args below meth c H locs ls Cx hP hD hS hl
  subst h0
  subst hv
  have hk10 := (kCl_get hc).1
  have hcell : bCell G.2.2 ad (k, fs) = .inr (k, fs.map (bFv ad)) := by simp [bCell, hk10]
  refine va_get (ci := k) Cx.1 Cx.2.1 Cx.2.2.2.2.1 (kWs_ok _ (List.mem_of_getElem? hc)) Cx.2.2.2.1 Cx.2.2.2.2.2.2.2.1 hP 0 (fs := fs.map (bFv ad)) (by rw [bW_at hs, hcell]) hc j hj (Cx.2.2.2.2.1 _ (kw hw rfl)) (fun _ q => q) (v := .ref (ad d)) (by rw [List.getElem?_map, hf]; rfl) (kTab_at Cx.2.2.2.2.2.2.2.2.1 hd) ?_
  exact k0 p e s m args below meth c H locs ls Cx hP hD hS hl
theorem KB_aast {r v rc vc t : Nat} {rs vs : List Nat} {rr : vw_C} (ht : t = 12 ∧ rr.1 = "KitesWar$Fleet" ∨ t = 13 ∧ rr.1 = "KitesWar$Slot") (hd : X.2.2.2.2[i]? = some (pc, .aastore, 1)) (hr : ad rc = r) (hv : ad vc = v) (hs : B[rc]? = some (t, rs)) (hvs : B[vc]? = some (k, vs)) (hc : classes[k]? = some rr) (h0 : 0 ≤ a) (h1 : a < rs.length) (hl1 : rs.length ≤ 1000) (hB' : B.set rc (t, rs.set a.toNat (vc + 3)) = B') (k0 : KB X G Z A (pc + 1) lo st ad B' cells slots) : KB X G Z A pc lo (.ref v :: kI a :: .ref r :: st) ad B cells slots := by
  intro p e s m args below meth c H locs ls Cx hP hD hS hl
  subst hr
  subst hv
  have hk10 := (kCl_get hc).1
  have h10 : ¬ t < 10 := by omega
  have h12 : ¬ t < 12 := by omega
  have hcell : ∀ gs : List Nat, bCell G.2.2 ad (t, gs) = .inl (G.2.2 t, gs.length, .inr (.inr (.inr (.inr (fun j => (gs[j]?).bind (bRf ad)))))) := fun gs => by simp [bCell, h10, h12]
  have hvc : bCell G.2.2 ad (k, vs) = .inr (k, vs.map (bFv ad)) := by simp [bCell, hk10]
  have htys : ∃ t0 : Nat, (kTys G.2.2)[t0]? = some (G.2.2 t, FieldType.object rr.1) := by
    rcases ht with ⟨rfl, h⟩ | ⟨rfl, h⟩
    · exact ⟨2, by rw [h]; rfl⟩
    · exact ⟨3, by rw [h]; rfl⟩
  obtain ⟨t0, ht0⟩ := htys
  refine va_astq Cx.1 Cx.2.1 Cx.2.2.2.2.2.2.2.1 hP hD hS rc t0 vc k (f := fun j => (rs[j]?).bind (bRf ad)) (by rw [bW_at hs, hcell]) ht0 (by rw [bW_at hvs, hvc]) hc (kR_in h0 h1 (by omega)) (kTab_at Cx.2.2.2.2.2.2.2.2.1 hd) (fun H1 locs1 hP1 hD1 hS1 => ?_)
  have e1 : (.inl (G.2.2 t, rs.length, .inr (.inr (.inr (.inr (va_up (fun j => (rs[j]?).bind (bRf ad)) (Int32.ofInt a).toNatClampNeg (some (ad vc))))))) : va_E) = bCell G.2.2 ad (t, rs.set a.toNat (vc + 3)) := by
    rw [hcell, List.length_set, kR_clamp ⟨by omega, by omega⟩]
    congr 7
    funext q
    unfold va_up
    by_cases hq : q = a.toNat
    · rw [if_pos hq, hq, List.getElem?_set_self (by omega)]; rfl
    · rw [if_neg hq, List.getElem?_set_ne (fun z => hq z.symm)]
  rw [e1, bW_set, hB'] at hP1 hD1
  exact k0 p e s m args below meth c H1 locs1 ls Cx hP1 hD1 hS1 hl
end BRules2
