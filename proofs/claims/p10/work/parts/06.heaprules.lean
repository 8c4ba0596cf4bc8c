/-! rules that read and write the heap -/
theorem kWs_ok : ∀ r ∈ classes, ∀ w ∈ u_ws r.1 r.2.1 r.2.2, w ∈ kTb := by decide +kernel
/-- the types of a class's fields, and what the putfield row asks of the names -/
def kTy (k : Nat) : Nat → FieldType := [t_Acts, t_Fleet, t_Plans, t_Seen, t_Sky, t_Slot, t_Tangle, t_Text, t_War, t_Model].getD k t_Acts
theorem kTy_ok : ∀ k, k < 10 → ∀ j, j < (classes.getD k (R_Acts, F_Acts, 3)).2.2 → parseFieldDescriptor ((classes.getD k (R_Acts, F_Acts, 3)).2.1 j).2.2.1 = some (kTy k j) := by decide +kernel
theorem kNm_ok : ∀ k, k < 10 → ∀ a, a < (classes.getD k (R_Acts, F_Acts, 3)).2.2 → ∀ b, b < (classes.getD k (R_Acts, F_Acts, 3)).2.2 → a ≠ b → ((classes.getD k (R_Acts, F_Acts, 3)).2.1 a).2.1 ≠ ((classes.getD k (R_Acts, F_Acts, 3)).2.1 b).2.1 := by decide +kernel
theorem kCl_get {k : Nat} {r : vw_C} (hr : classes[k]? = some r) : k < 10 ∧ classes.getD k (R_Acts, F_Acts, 3) = r := by
  have hl : k < classes.length := (List.getElem?_eq_some_iff.mp hr).1
  refine ⟨hl, ?_⟩
  rw [List.getD_eq_getElem?_getD, hr]; rfl
theorem kCell_obj {dA : Nat → ClassId} {ad : Nat → Nat} {h : kH} {c k : Nat} {fs : List Nat} (hs : kS c = (k, fs)) (hk : k < 10) : kCell dA ad h c = .inr (k, kFs ad (h c) 0 fs) := by simp [kCell, hs, hk]
theorem kCell_int {dA : Nat → ClassId} {ad : Nat → Nat} {h : kH} {c l : Nat} (hs : kS c = (10, [l])) : kCell dA ad h c = .inl (dA 10, l, .inl (fun j => Int32.ofInt (h c j))) := by simp [kCell, hs]
theorem kCell_bool {dA : Nat → ClassId} {ad : Nat → Nat} {h : kH} {c l : Nat} (hs : kS c = (11, [l])) : kCell dA ad h c = .inl (dA 11, l, .inl (fun j => Int32.ofInt (h c j))) := by simp [kCell, hs]
theorem kCell_ref {dA : Nat → ClassId} {ad : Nat → Nat} {h : kH} {c k : Nat} {rs : List Nat} (hs : kS c = (k, rs)) (hk : 12 ≤ k) : kCell dA ad h c = .inl (dA k, rs.length, .inr (.inr (.inr (.inr (fun j => (rs[j]?).map ad))))) := by
  have h1 : ¬ k < 10 := by omega
  have h2 : ¬ k < 12 := by omega
  simp [kCell, hs, h1, h2]
theorem kS_lt {c k : Nat} {fs : List Nat} (hs : kS c = (k, fs)) (hne : fs ≠ []) : c < kN := by
  apply Decidable.byContradiction
  intro hc
  rw [kS, List.getD_eq_getElem?_getD, List.getElem?_eq_none (by rw [kN_ok]; omega)] at hs
  simp at hs
  exact hne hs.2
section Rules3
variable {X : kX} {G : kG} {Z : kZ} {pc i n : Nat} {lo lo' : List (Nat × Value)} {st : List Value} {h : kH} {a b : Int} {v w : Value} {c j k idx : Nat} {fs : List Nat} {C : String} {T : u_T} {N : Nat} {t : Nat}
theorem K_getf (hd : X.2.2.2.2[i]? = some (pc, .getfield idx, 3)) (hs : kS c = (k, fs)) (hc : classes[k]? = some (C, T, N)) (hj : j < N) (hf : fs[j]? = some t) (hw : Cond.fieldLink X.1 idx (T j).1 (T j).2.1 (T j).2.2.1 ∈ lw_tbl) (k0 : K X G Z (pc + 3) lo (kFv G.2.2.2 (h c j) t :: st) h) : K X G Z pc lo (.ref (G.2.2.2 c) :: st) h := by
  intro p e s m args below meth cc H locs ls Cx hP hS hl
  have hk := (kCl_get hc).1
  have hcN : c < kN := kS_lt hs (fun e => by rw [e] at hf; simp at hf)
  refine va_get (ci := k) Cx.1 Cx.2.1 Cx.2.2.2.2.1 (kWs_ok _ (List.mem_of_getElem? hc)) Cx.2.2.2.1 Cx.2.2.2.2.2.2.2.1 hP c (fs := kFs G.2.2.2 (h c) 0 fs) (by rw [kW_at hcN, kCell_obj hs hk]) hc j hj (Cx.2.2.2.2.1 _ (kw hw rfl)) (fun _ q => q) (v := kFv G.2.2.2 (h c j) t) (by rw [kFs_get, hf]; simp) (kTab_at Cx.2.2.2.2.2.2.2.2.2.1 hd) ?_
  exact k0 p e s m args below meth cc H locs ls Cx hP hS hl
theorem K_getI (hd : X.2.2.2.2[i]? = some (pc, .getfield idx, 3)) (hs : kS c = (k, fs)) (hc : classes[k]? = some (C, T, N)) (hj : j < N) (hf : fs[j]? = some 0) (hw : Cond.fieldLink X.1 idx (T j).1 (T j).2.1 (T j).2.2.1 ∈ lw_tbl) (k0 : K X G Z (pc + 3) lo (kI (h c j) :: st) h) : K X G Z pc lo (.ref (G.2.2.2 c) :: st) h := K_getf hd hs hc hj hf hw k0
theorem K_getJ (hd : X.2.2.2.2[i]? = some (pc, .getfield idx, 3)) (hs : kS c = (k, fs)) (hc : classes[k]? = some (C, T, N)) (hj : j < N) (hf : fs[j]? = some 1) (hw : Cond.fieldLink X.1 idx (T j).1 (T j).2.1 (T j).2.2.1 ∈ lw_tbl) (k0 : K X G Z (pc + 3) lo (kJ (h c j) :: st) h) : K X G Z pc lo (.ref (G.2.2.2 c) :: st) h := K_getf hd hs hc hj hf hw k0
theorem K_getR {d : Nat} (hd : X.2.2.2.2[i]? = some (pc, .getfield idx, 3)) (hs : kS c = (k, fs)) (hc : classes[k]? = some (C, T, N)) (hj : j < N) (hf : fs[j]? = some (d + 2)) (hw : Cond.fieldLink X.1 idx (T j).1 (T j).2.1 (T j).2.2.1 ∈ lw_tbl) (k0 : K X G Z (pc + 3) lo (.ref (G.2.2.2 d) :: st) h) : K X G Z pc lo (.ref (G.2.2.2 c) :: st) h := K_getf hd hs hc hj hf hw k0
theorem kFs_set (ad : Nat → Nat) (g : Nat → Int) (fs : List Nat) (j : Nat) (z : Int) {t : Nat} (hf : fs[j]? = some t) (ht : t < 2) : (kFs ad g 0 fs).set j (kFv ad z t) = kFs ad (fun i => if i = j then z else g i) 0 fs := by
  apply List.ext_getElem?
  intro q
  rw [kFs_get]
  by_cases e : q = j
  · subst e
    rw [List.getElem?_set_self (by rw [kFs_len]; exact (List.getElem?_eq_some_iff.mp hf).1), hf]
    simp
  · rw [List.getElem?_set_ne (fun x => e x.symm), kFs_get]
    simp [e]
theorem K_putf {t : Nat} (ht : t < 2) {ty : FieldType} (hty : kTy k j = ty) (hd : X.2.2.2.2[i]? = some (pc, .putfield idx, 3)) (hs : kS c = (k, fs)) (hc : classes[k]? = some (C, T, N)) (hj : j < N) (hf : fs[j]? = some t) (hfin : (T j).2.2.2 = false) (hw : Cond.fieldLink X.1 idx (T j).1 (T j).2.1 (T j).2.2.1 ∈ lw_tbl) (hn : narrow ty (kFv G.2.2.2 a t) = kFv G.2.2.2 a t) (hfit : fits ty (kFv G.2.2.2 a t) = true) (k0 : K X G Z (pc + 3) lo st (kU h c j a)) : K X G Z pc lo (kFv G.2.2.2 a t :: .ref (G.2.2.2 c) :: st) h := by
  intro p e s m args below meth cc H locs ls Cx hP hS hl
  obtain ⟨hk, hg⟩ := kCl_get hc
  have hcN : c < kN := kS_lt hs (fun e => by rw [e] at hf; simp at hf)
  have ok := kTy_ok k hk
  have nm := kNm_ok k hk
  rw [hg] at ok nm
  have hjl : j < (kFs G.2.2.2 (h c) 0 fs).length := by rw [kFs_len]; exact (List.getElem?_eq_some_iff.mp hf).1
  have hcell : kCell G.2.2.1 G.2.2.2 (kU h c j a) c = .inr (k, (kFs G.2.2.2 (h c) 0 fs).set j (kFv G.2.2.2 a t)) := by
    rw [kCell_obj hs hk, kFs_set _ _ _ _ _ hf ht]
    simp [kU]
  refine va_put (ci := k) (ty := ty) Cx.1 Cx.2.1 Cx.2.2.2.2.1 (kWs_ok _ (List.mem_of_getElem? hc)) (kTy k) ok nm Cx.2.2.2.1 Cx.2.2.2.2.2.2.2.1 hP (kW_D Cx.2.2.2.2.2.2.2.2.1) hS c (fs := kFs G.2.2.2 (h c) 0 fs) (by rw [kW_at hcN, kCell_obj hs hk]) hc j hj (Cx.2.2.2.2.1 _ (kw hw rfl)) (fun _ q => q) hfin (by rw [ok j hj, hty]) hn hfit hjl (kTab_at Cx.2.2.2.2.2.2.2.2.2.1 hd) (fun H1 locs1 hP1 hD1 hS1 => ?_)
  rw [kW_set (h' := kU h c j a) hcN (fun d hd => kU_c h c j a hd) hcell.symm] at hP1
  exact k0 p e s m args below meth cc H1 locs1 ls Cx hP1 hS1 hl
theorem K_putI (hd : X.2.2.2.2[i]? = some (pc, .putfield idx, 3)) (hs : kS c = (k, fs)) (hc : classes[k]? = some (C, T, N)) (hj : j < N) (hf : fs[j]? = some 0) (hty : kTy k j = .int) (hfin : (T j).2.2.2 = false) (hw : Cond.fieldLink X.1 idx (T j).1 (T j).2.1 (T j).2.2.1 ∈ lw_tbl) (k0 : K X G Z (pc + 3) lo st (kU h c j a)) : K X G Z pc lo (kI a :: .ref (G.2.2.2 c) :: st) h :=
  K_putf (t := 0) (by omega) hty hd hs hc hj hf hfin hw rfl rfl k0
theorem K_putJ (hd : X.2.2.2.2[i]? = some (pc, .putfield idx, 3)) (hs : kS c = (k, fs)) (hc : classes[k]? = some (C, T, N)) (hj : j < N) (hf : fs[j]? = some 1) (hty : kTy k j = .long) (hfin : (T j).2.2.2 = false) (hw : Cond.fieldLink X.1 idx (T j).1 (T j).2.1 (T j).2.2.1 ∈ lw_tbl) (k0 : K X G Z (pc + 3) lo st (kU h c j a)) : K X G Z pc lo (kJ a :: .ref (G.2.2.2 c) :: st) h :=
  K_putf (t := 1) (by omega) hty hd hs hc hj hf hfin hw rfl rfl k0
theorem K_putB (hd : X.2.2.2.2[i]? = some (pc, .putfield idx, 3)) (hs : kS c = (k, fs)) (hc : classes[k]? = some (C, T, N)) (hj : j < N) (hf : fs[j]? = some 0) (hty : kTy k j = .boolean) (hfin : (T j).2.2.2 = false) (hw : Cond.fieldLink X.1 idx (T j).1 (T j).2.1 (T j).2.2.1 ∈ lw_tbl) (ha : a = 0 ∨ a = 1) (k0 : K X G Z (pc + 3) lo st (kU h c j a)) : K X G Z pc lo (kI a :: .ref (G.2.2.2 c) :: st) h :=
  K_putf (t := 0) (by omega) hty hd hs hc hj hf hfin hw (by rcases ha with rfl | rfl <;> rfl) (by rcases ha with rfl | rfl <;> rfl) k0
theorem K_iald {l : Nat} (hd : X.2.2.2.2[i]? = some (pc, .iaload, 1)) (hs : kS c = (10, [l])) (h0 : 0 ≤ a) (h1 : a < l) (hl : l ≤ 2147483647) (k0 : K X G Z (pc + 1) lo (kI (h c a.toNat) :: st) h) : K X G Z pc lo (kI a :: .ref (G.2.2.2 c) :: st) h := by
  intro p e s m args below meth cc H locs ls Cx hP hS hls
  have hcN : c < kN := kS_lt hs (by simp)
  refine va_iald Cx.1 Cx.2.1 Cx.2.2.2.2.2.2.2.1 hP c 0 (n := l) (f := fun j => Int32.ofInt (h c j)) (by rw [kW_at hcN, kCell_int hs]) rfl (kR_in h0 h1 hl) (kTab_at Cx.2.2.2.2.2.2.2.2.2.1 hd) ?_
  rw [kR_clamp ⟨by omega, by omega⟩]
  exact k0 p e s m args below meth cc H locs ls Cx hP hS hls
theorem K_iast {l : Nat} (hd : X.2.2.2.2[i]? = some (pc, .iastore, 1)) (hs : kS c = (10, [l])) (h0 : 0 ≤ a) (h1 : a < l) (hl : l ≤ 2147483647) (k0 : K X G Z (pc + 1) lo st (kU h c a.toNat b)) : K X G Z pc lo (kI b :: kI a :: .ref (G.2.2.2 c) :: st) h := by
  intro p e s m args below meth cc H locs ls Cx hP hS hls
  have hcN : c < kN := kS_lt hs (by simp)
  refine va_iast Cx.1 Cx.2.1 Cx.2.2.2.2.2.2.2.1 hP (kW_D Cx.2.2.2.2.2.2.2.2.1) hS c 0 (n := l) (f := fun j => Int32.ofInt (h c j)) (by rw [kW_at hcN, kCell_int hs]) rfl (kR_in h0 h1 hl) (kTab_at Cx.2.2.2.2.2.2.2.2.2.1 hd) (fun H1 locs1 hP1 hD1 hS1 => ?_)
  rw [kW_set (h' := kU h c a.toNat b) hcN (fun d hd => kU_c h c _ b hd) (by
    rw [kCell_int hs, kR_clamp ⟨by omega, by omega⟩]
    congr 4
    funext q
    simp only [upd, kU]
    by_cases e : q = a.toNat <;> simp [e])] at hP1
  exact k0 p e s m args below meth cc H1 locs1 ls Cx hP1 hS1 hls
theorem K_bald {l : Nat} (hd : X.2.2.2.2[i]? = some (pc, .baload, 1)) (hs : kS c = (11, [l])) (h0 : 0 ≤ a) (h1 : a < l) (hl : l ≤ 2147483647) (k0 : K X G Z (pc + 1) lo (kI (h c a.toNat) :: st) h) : K X G Z pc lo (kI a :: .ref (G.2.2.2 c) :: st) h := by
  intro p e s m args below meth cc H locs ls Cx hP hS hls
  have hcN : c < kN := kS_lt hs (by simp)
  refine va_zald Cx.1 Cx.2.1 Cx.2.2.2.2.2.2.2.1 hP c 1 (n := l) (f := fun j => Int32.ofInt (h c j)) (by rw [kW_at hcN, kCell_bool hs]) rfl (kR_in h0 h1 hl) (kTab_at Cx.2.2.2.2.2.2.2.2.2.1 hd) ?_
  rw [kR_clamp ⟨by omega, by omega⟩]
  exact k0 p e s m args below meth cc H locs ls Cx hP hS hls
theorem K_bast {l : Nat} (hd : X.2.2.2.2[i]? = some (pc, .bastore, 1)) (hs : kS c = (11, [l])) (h0 : 0 ≤ a) (h1 : a < l) (hl : l ≤ 2147483647) (hb : b = 0 ∨ b = 1) (k0 : K X G Z (pc + 1) lo st (kU h c a.toNat b)) : K X G Z pc lo (kI b :: kI a :: .ref (G.2.2.2 c) :: st) h := by
  intro p e s m args below meth cc H locs ls Cx hP hS hls
  have hcN : c < kN := kS_lt hs (by simp)
  have hnar : vp_nar .boolean (Int32.ofInt b) = Int32.ofInt b := by rcases hb with rfl | rfl <;> rfl
  refine va_zast Cx.1 Cx.2.1 Cx.2.2.2.2.2.2.2.1 hP (kW_D Cx.2.2.2.2.2.2.2.2.1) hS c 1 (n := l) (f := fun j => Int32.ofInt (h c j)) (by rw [kW_at hcN, kCell_bool hs]) rfl (kR_in h0 h1 hl) (kTab_at Cx.2.2.2.2.2.2.2.2.2.1 hd) (fun H1 locs1 hP1 hD1 hS1 => ?_)
  rw [kW_set (h' := kU h c a.toNat b) hcN (fun d hd => kU_c h c _ b hd) (by
    rw [kCell_bool hs, kR_clamp ⟨by omega, by omega⟩, hnar]
    congr 4
    funext q
    simp only [upd, kU]
    by_cases e : q = a.toNat <;> simp [e])] at hP1
  exact k0 p e s m args below meth cc H1 locs1 ls Cx hP1 hS1 hls
theorem K_aald {rs : List Nat} {q : Nat} (hd : X.2.2.2.2[i]? = some (pc, .aaload, 1)) (hs : kS c = (k, rs)) (hk : k = 12 ∨ k = 13) (h0 : 0 ≤ a) (h1 : a < rs.length) (hl : rs.length ≤ 2147483647) (hq : rs[a.toNat]? = some q) (k0 : K X G Z (pc + 1) lo (.ref (G.2.2.2 q) :: st) h) : K X G Z pc lo (kI a :: .ref (G.2.2.2 c) :: st) h := by
  intro p e s m args below meth cc H locs ls Cx hP hS hls
  have hcN : c < kN := kS_lt hs (fun e => by rw [e] at hq; simp at hq)
  have hcell := kCell_ref (dA := G.2.2.1) (ad := G.2.2.2) (h := h) hs (by omega)
  have fin := k0 p e s m args below meth cc H locs ls Cx hP hS hls
  have hv : va_rf ((rs[(Int32.ofInt a).toNatClampNeg]?).map G.2.2.2) = .ref (G.2.2.2 q) := by rw [kR_clamp ⟨by omega, by omega⟩, hq]; rfl
  rw [← hv] at fin
  rcases hk with rfl | rfl
  · exact va_aldq Cx.1 Cx.2.1 Cx.2.2.2.2.2.2.2.1 hP c 2 (n := rs.length) (f := fun j => (rs[j]?).map G.2.2.2) (by rw [kW_at hcN, hcell]) rfl (kR_in h0 h1 hl) (kTab_at Cx.2.2.2.2.2.2.2.2.2.1 hd) fin
  · exact va_aldq Cx.1 Cx.2.1 Cx.2.2.2.2.2.2.2.1 hP c 3 (n := rs.length) (f := fun j => (rs[j]?).map G.2.2.2) (by rw [kW_at hcN, hcell]) rfl (kR_in h0 h1 hl) (kTab_at Cx.2.2.2.2.2.2.2.2.2.1 hd) fin
end Rules3
