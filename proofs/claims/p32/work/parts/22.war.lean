section
theorem Gd.len {g : kGh} {h : kH} {b : Int} (e : g.1 = b) (hI : Gd g h) : Gd (b, g.2) h := by subst e; exact hI
theorem Gd.sd {g : kGh} {h : kH} {b : Int} (e : g.2.1 = b) (hI : Gd g h) : Gd (g.1, b, g.2.2) h := by subst e; exact hI
theorem Gd.mlen {g : kGh} {h : kH} {b : Int} (e : g.2.2.1 = b) (hI : Gd g h) : Gd (g.1, g.2.1, b, g.2.2.2) h := by subst e; exact hI
theorem Gd.msd {g : kGh} {h : kH} {b : Int} (e : g.2.2.2.1 = b) (hI : Gd g h) : Gd (g.1, g.2.1, g.2.2.1, b, g.2.2.2.2) h := by subst e; exact hI
theorem Gd.lenT {a b : Int} {g2 : Int × Int × Int × Prop} {h : kH} (hI : Gd (a, g2) h) (e : a = b) : Gd (b, g2) h := by subst e; exact hI
theorem Gd.sdT {a b b' : Int} {g2 : Int × Int × Prop} {h : kH} (hI : Gd (a, b, g2) h) (e : b = b') : Gd (a, b', g2) h := by subst e; exact hI
theorem Gd.mlenT {a b c c' : Int} {d : Int × Prop} {h : kH} (hI : Gd (a, b, c, d) h) (e : c = c') : Gd (a, b, c', d) h := by subst e; exact hI
theorem Gd.msdT {a b c d d' : Int} {f : Prop} {h : kH} (hI : Gd (a, b, c, d, f) h) (e : d = d') : Gd (a, b, c, d', f) h := by subst e; exact hI
def itr : Nat → Int → Int
  | 0, s => s
  | n + 1, s => itr n s * 6364136223846793005 + 1442695040888963407
set_option maxHeartbeats 4000000 in
set_option maxRecDepth 100000 in
theorem c_Text_append (G : kG) {g : kGh} {h : kH} {x1 : Int} {l2 : Int} (s1 : 1 ≤ x1 ∧ x1 ≤ 8) (hI : Gd g h) : Ctr G y_Text_append X_Text_append 1 [.ref (G.2.2.2 1), kI x1, kJ l2] h (kQi (fun z h' => Fx (fun c i => c = 1 ∨ c = 2) h h' ∧ ((z = 1 ∧ g.1 + x1 ≤ 74 ∧ Gd (g.1 + x1, g.2) h' ∧ WrB (h 2) (h' 2) g.1 x1 (-1) l2) ∨ (z = 0 ∧ 74 < g.1 + x1 ∧ Gd g h' ∧ h' 2 = h 2)))) := by
  refine Ctr.ofK (by decide) rfl T_Text_append (Nat.le_of_ble_eq_true rfl) (lo := [(0, .ref (G.2.2.2 1)), (1, kI x1), (2, kJ l2)]) rfl ?_
  have fx : Fx (fun c i => c = 1 ∨ c = 2) h h := Fx.rf
  have e00 : h 1 1 = g.1 := hI.2.1
  have e09 := rd_len hI
  refine K_iload_n (pc := 0) (i := 0) rfl rfl ?_
  refine K_bipush (pc := 1) (i := 1) rfl rfl ?_
  refine K_aload_n (pc := 3) (i := 2) rfl rfl ?_
  refine K_getI (pc := 4) (i := 3) (j := 1) rfl S_1 rfl (by decide) rfl fw_Text_15 ?_
  refine K_nm (fun v4 e4 => ?_)
  have r4 := rd_len hI
  rw [← e4] at r4
  refine K_isub (pc := 7) (i := 4) rfl ?_
  first | refine K_icmp_le 13 (pc := 8) (i := 5) rfl rfl (by omega) (by omega) (fun b8 => ?_) (fun b8 => ?_) | refine K_icmp_le_an 13 (pc := 8) (i := 5) rfl rfl (fun b8 => ?_) (fun b8 => ?_)
  · skip
    refine K_iload_n (pc := 13) (i := 8) rfl rfl ?_
    refine K_iconst (pc := 14) (i := 9) rfl ?_
    refine K_isub (pc := 15) (i := 10) rfl ?_
    refine K_ist (pc := 16) (i := 11) (lo' := [(0, _), (1, _), (2, _), (4, _)]) rfl rfl rfl rfl ?_
    have L18 : ∀ (n : Nat) (x4 : Int) (ha : kH), (x4 + 1).toNat < n → (Fx (fun c i => c = 1 ∨ c = 2) h ha) → (Gd (g.1 + (x1 - 1 - x4), g.2) ha ∧ (-1 ≤ x4 ∧ x4 < x1) ∧ WrB (h 2) (ha 2) g.1 x1 x4 l2) → K X_Text_append G (kZm G 1 (kQi (fun z h' => Fx (fun c i => c = 1 ∨ c = 2) h h' ∧ ((z = 1 ∧ g.1 + x1 ≤ 74 ∧ Gd (g.1 + x1, g.2) h' ∧ WrB (h 2) (h' 2) g.1 x1 (-1) l2) ∨ (z = 0 ∧ 74 < g.1 + x1 ∧ Gd g h' ∧ h' 2 = h 2))))) 18 [(0, .ref (G.2.2.2 1)), (1, kI x1), (2, kJ l2), (4, kI x4)] [] ha := by
      intro n
      induction n with
      | zero => intro x4 ha hm; exact absurd hm (Nat.not_lt_zero _)
      | succ n ih18 =>
        intro x4 ha hm18 fx hV18
        have hI := hV18.1
        have e01 : ha 1 1 = g.1 + (x1 - 1 - x4) := hI.2.1
        have hV := hV18.2.1
        refine K_iload (pc := 18) (i := 12) rfl rfl ?_
        first | refine K_if_lt 60 (pc := 20) (i := 13) rfl rfl (by omega) (fun b20 => ?_) (fun b20 => ?_) | refine K_if_lt_an 60 (pc := 20) (i := 13) rfl rfl (fun b20 => ?_) (fun b20 => ?_)
        · skip
          refine K_iconst (pc := 60) (i := 35) rfl ?_
          exact K_retZ (pc := 61) (i := 36) rfl rfl (by omega) ⟨fx, (Or.inl ⟨rfl, by omega, Gd.lenT hI (by omega), hV18.2.2.cg rfl (by omega)⟩)⟩
        · skip
          refine K_aload_n (pc := 23) (i := 14) rfl rfl ?_
          refine K_getR (pc := 24) (i := 15) (j := 0) (d := 2) rfl S_1 rfl (by decide) rfl fw_Text_11 ?_
          refine K_aload_n (pc := 27) (i := 16) rfl rfl ?_
          refine K_getI (pc := 28) (i := 17) (j := 1) rfl S_1 rfl (by decide) rfl fw_Text_15 ?_
          refine K_nm (fun v28 e28 => ?_)
          have r28 := rd_len hI
          rw [← e28] at r28
          refine K_lload_n (pc := 31) (i := 18) rfl rfl ?_
          refine K_bipush (pc := 32) (i := 19) rfl rfl ?_
          refine K_iload (pc := 34) (i := 20) rfl rfl ?_
          refine K_imul (pc := 36) (i := 21) rfl ?_
          refine K_lushr (pc := 37) (i := 22) rfl ?_
          refine K_l2i (pc := 38) (i := 23) rfl ?_
          refine K_nm (fun v38 e38 => ?_)
          have r38 := kL2i_R (kLushr l2 (8 * x4))
          rw [← e38] at r38
          refine K_sipush (pc := 39) (i := 24) rfl rfl ?_
          refine K_iand (pc := 42) (i := 25) rfl ?_
          refine K_nm (fun v42 e42 => ?_)
          have r42 := kAnd_255 v38
          rw [← e42] at r42
          refine K_iast (pc := 43) (i := 26) rfl S_2 (by omega) (by omega) (by decide) ?_
          have hI := st_bytes hI (i := (v28).toNat) (v := v42) (by omega)
          have fx := Fx.st (c := 2) (i := (v28).toNat) (v := v42) fx (by first | (dsimp only; omega) | omega | exact not_false)
          have wr43 := WrB.st (c := 2) (p := (v28).toNat) (w := v42) hV18.2.2 (by omega) (by omega) (by omega) (by rw [e42, e38]; rfl)
          refine K_aload_n (pc := 44) (i := 27) rfl rfl ?_
          refine K_dup (pc := 45) (i := 28) rfl rfl ?_
          refine K_getI (pc := 46) (i := 29) (j := 1) rfl S_1 rfl (by decide) rfl fw_Text_15 ?_
          refine K_nm (fun v46 e46 => ?_)
          have r46 := rd_len hI
          rw [← e46] at r46
          have t46 : v46 = v28 := by rw [e46, e28]; simp [kU]
          refine K_iconst (pc := 49) (i := 30) rfl ?_
          refine K_iadd (pc := 50) (i := 31) rfl ?_
          refine K_putI (pc := 51) (i := 32) (j := 1) rfl S_1 rfl (by decide) rfl rfl rfl fw_Text_15 ?_
          have hI := st_len hI (v := v46 + 1) (by omega)
          have fx := Fx.st (c := 1) (i := 1) (v := v46 + 1) fx (by first | (dsimp only; omega) | omega | exact not_false)
          rw [← kU_c (kU ha 2 (v28).toNat v42) 1 1 (v46 + 1) (show (2 : Nat) ≠ 1 by decide)] at wr43
          refine K_inc (pc := 54) (i := 33) (q := 3) (lo' := [(0, _), (1, _), (2, _), (4, _)]) rfl rfl rfl rfl rfl ?_
          refine K_goto 18 (pc := 57) (i := 34) rfl rfl ?_
          exact ih18 (x4 + (-1)) _ (by omega) fx ⟨Gd.lenT hI (by omega), by omega, wr43.cg rfl (by omega)⟩
    exact L18 _ (x1 - 1) _ (Nat.lt_succ_self _) fx ⟨Gd.len (by omega) hI, by omega, WrB.rf⟩
  · skip
    refine K_iconst (pc := 11) (i := 6) rfl ?_
    exact K_retZ (pc := 12) (i := 7) rfl rfl (by omega) ⟨fx, (Or.inr ⟨rfl, by omega, hI, rfl⟩)⟩
set_option maxHeartbeats 4000000 in
set_option maxRecDepth 100000 in
theorem c_War_isKite (G : kG) {g : kGh} {h : kH} {x1 : Int} (s1 : kR x1) (hI : Gd g h) : Ctr G y_War_isKite X_War_isKite 1 [.ref (G.2.2.2 0), kI x1] h (kQi (fun z h' => h' = h ∧ ((z = 1 ∧ 0 ≤ x1 ∧ x1 < h 6 6 ∧ h 6 6 ≤ 8) ∨ (z = 0 ∧ ¬ (0 ≤ x1 ∧ x1 < h 6 6))))) := by
  refine Ctr.ofK (by decide) rfl T_War_isKite (Nat.le_of_ble_eq_true rfl) (lo := [(0, .ref (G.2.2.2 0)), (1, kI x1)]) rfl ?_
  refine K_iload_n (pc := 0) (i := 0) rfl rfl ?_
  first | refine K_if_lt 22 (pc := 1) (i := 1) rfl rfl (by omega) (fun b1 => ?_) (fun b1 => ?_) | refine K_if_lt_an 22 (pc := 1) (i := 1) rfl rfl (fun b1 => ?_) (fun b1 => ?_)
  · skip
    refine K_iconst (pc := 22) (i := 10) rfl ?_
    exact K_retZ (pc := 23) (i := 11) rfl rfl (by omega) ⟨rfl, by omega⟩
  · skip
    refine K_iload_n (pc := 4) (i := 2) rfl rfl ?_
    refine K_aload_n (pc := 5) (i := 3) rfl rfl ?_
    refine K_getR (pc := 6) (i := 4) (j := 1) (d := 3) rfl S_0 rfl (by decide) rfl fw_War_19 ?_
    refine K_getR (pc := 9) (i := 5) (j := 0) (d := 6) rfl (S_Sk sk3) rfl (by decide) rfl fw_War_88 ?_
    refine K_getI (pc := 12) (i := 6) (j := 6) rfl (S_Fl fl6) rfl (by decide) rfl fw_War_92 ?_
    refine K_nm (fun v12 e12 => ?_)
    have r12 := rd_kites hI fl6
    rw [← e12] at r12
    first | refine K_icmp_ge 22 (pc := 15) (i := 7) rfl rfl (by omega) (by omega) (fun b15 => ?_) (fun b15 => ?_) | refine K_icmp_ge_an 22 (pc := 15) (i := 7) rfl rfl (fun b15 => ?_) (fun b15 => ?_)
    · skip
      refine K_iconst (pc := 22) (i := 10) rfl ?_
      exact K_retZ (pc := 23) (i := 11) rfl rfl (by omega) ⟨rfl, by omega⟩
    · skip
      refine K_iconst (pc := 18) (i := 8) rfl ?_
      refine K_goto 23 (pc := 19) (i := 9) rfl rfl ?_
      exact K_retZ (pc := 23) (i := 11) rfl rfl (by omega) ⟨rfl, by omega⟩
set_option maxHeartbeats 4000000 in
set_option maxRecDepth 100000 in
theorem c_War_isSeenKite (G : kG) {g : kGh} {h : kH} {x1 : Int} (s1 : kR x1) (hI : Gd g h) : Ctr G y_War_isSeenKite X_War_isSeenKite 2 [.ref (G.2.2.2 0), kI x1] h (kQi (fun z h' => h' = h ∧ ((z = 1 ∧ 0 ≤ x1 ∧ x1 < h 6 6 ∧ x1 < 4) ∨ (z = 0 ∧ ¬ (0 ≤ x1 ∧ x1 < h 6 6 ∧ x1 < 4))))) := by
  refine Ctr.ofK (by decide) rfl T_War_isSeenKite (Nat.le_of_ble_eq_true rfl) (lo := [(0, .ref (G.2.2.2 0)), (1, kI x1)]) rfl ?_
  refine K_aload_n (pc := 0) (i := 0) rfl rfl ?_
  refine K_iload_n (pc := 1) (i := 1) rfl rfl ?_
  refine K_cVI (pc := 2) (i := 2) rfl (c_War_isKite G (x1 := x1) (hI := hI) (s1 := by omega)) S_0 rfl (lv_War_97 rfl) rfl rfl rfl rfl rfl (fun v2 h2 q2 => ?_)
  obtain ⟨eh, r2⟩ := q2
  rw [eh]; clear eh
  first | refine K_if_eq 17 (pc := 5) (i := 3) rfl rfl (by omega) (fun b5 => ?_) (fun b5 => ?_) | refine K_if_eq_an 17 (pc := 5) (i := 3) rfl rfl (fun b5 => ?_) (fun b5 => ?_)
  · skip
    refine K_iconst (pc := 17) (i := 9) rfl ?_
    exact K_retZ (pc := 18) (i := 10) rfl rfl (by omega) ⟨rfl, by omega⟩
  · skip
    refine K_iload_n (pc := 8) (i := 4) rfl rfl ?_
    refine K_iconst (pc := 9) (i := 5) rfl ?_
    first | refine K_icmp_ge 17 (pc := 10) (i := 6) rfl rfl (by omega) (by omega) (fun b10 => ?_) (fun b10 => ?_) | refine K_icmp_ge_an 17 (pc := 10) (i := 6) rfl rfl (fun b10 => ?_) (fun b10 => ?_)
    · skip
      refine K_iconst (pc := 17) (i := 9) rfl ?_
      exact K_retZ (pc := 18) (i := 10) rfl rfl (by omega) ⟨rfl, by omega⟩
    · skip
      refine K_iconst (pc := 13) (i := 7) rfl ?_
      refine K_goto 18 (pc := 14) (i := 8) rfl rfl ?_
      exact K_retZ (pc := 18) (i := 10) rfl rfl (by omega) ⟨rfl, by omega⟩
set_option maxHeartbeats 4000000 in
set_option maxRecDepth 100000 in
theorem c_War_refusalOfPair (G : kG) {g : kGh} {h : kH} {x1 : Int} {x2 : Int} (s1 : kR x1) (s2 : kR x2) (hI : Gd g h) : Ctr G y_War_refusalOfPair X_War_refusalOfPair 2 [.ref (G.2.2.2 0), kI x1, kI x2] h (kQi (fun z h' => h' = h ∧ kR z ∧ ((z = -1 ∧ ¬ ((0 ≤ x1 ∧ x1 < h 6 6) ∧ 0 ≤ x2 ∧ x2 < h 6 6)) ∨ (z = -2 ∧ ((0 ≤ x1 ∧ x1 < h 6 6) ∧ 0 ≤ x2 ∧ x2 < h 6 6) ∧ x1 = x2) ∨ (z = 0 ∧ ((0 ≤ x1 ∧ x1 < h 6 6) ∧ 0 ≤ x2 ∧ x2 < h 6 6) ∧ x1 ≠ x2 ∧ h 6 6 ≤ 8)))) := by
  refine Ctr.ofK (by decide) rfl T_War_refusalOfPair (Nat.le_of_ble_eq_true rfl) (lo := [(0, .ref (G.2.2.2 0)), (1, kI x1), (2, kI x2)]) rfl ?_
  refine K_aload_n (pc := 0) (i := 0) rfl rfl ?_
  refine K_iload_n (pc := 1) (i := 1) rfl rfl ?_
  refine K_cVI (pc := 2) (i := 2) rfl (c_War_isKite G (x1 := x1) (hI := hI) (s1 := by omega)) S_0 rfl (lv_War_97 rfl) rfl rfl rfl rfl rfl (fun v2 h2 q2 => ?_)
  obtain ⟨eh, r2⟩ := q2
  rw [eh]; clear eh
  first | refine K_if_eq 16 (pc := 5) (i := 3) rfl rfl (by omega) (fun b5 => ?_) (fun b5 => ?_) | refine K_if_eq_an 16 (pc := 5) (i := 3) rfl rfl (fun b5 => ?_) (fun b5 => ?_)
  · skip
    refine K_iconst (pc := 16) (i := 8) rfl ?_
    exact K_retI (pc := 17) (i := 9) rfl rfl ⟨rfl, by omega⟩
  · skip
    refine K_aload_n (pc := 8) (i := 4) rfl rfl ?_
    refine K_iload_n (pc := 9) (i := 5) rfl rfl ?_
    refine K_cVI (pc := 10) (i := 6) rfl (c_War_isKite G (x1 := x2) (hI := hI) (s1 := by omega)) S_0 rfl (lv_War_97 rfl) rfl rfl rfl rfl rfl (fun v10 h10 q10 => ?_)
    obtain ⟨eh, r10⟩ := q10
    rw [eh]; clear eh
    first | refine K_if_ne 18 (pc := 13) (i := 7) rfl rfl (by omega) (fun b13 => ?_) (fun b13 => ?_) | refine K_if_ne_an 18 (pc := 13) (i := 7) rfl rfl (fun b13 => ?_) (fun b13 => ?_)
    · skip
      refine K_iload_n (pc := 18) (i := 10) rfl rfl ?_
      refine K_iload_n (pc := 19) (i := 11) rfl rfl ?_
      first | refine K_icmp_ne 28 (pc := 20) (i := 12) rfl rfl (by omega) (by omega) (fun b20 => ?_) (fun b20 => ?_) | refine K_icmp_ne_an 28 (pc := 20) (i := 12) rfl rfl (fun b20 => ?_) (fun b20 => ?_)
      · skip
        refine K_iconst (pc := 28) (i := 15) rfl ?_
        exact K_retI (pc := 29) (i := 16) rfl rfl ⟨rfl, by omega⟩
      · skip
        refine K_bipush (pc := 23) (i := 13) rfl rfl ?_
        refine K_goto 29 (pc := 25) (i := 14) rfl rfl ?_
        exact K_retI (pc := 29) (i := 16) rfl rfl ⟨rfl, by omega⟩
    · skip
      refine K_iconst (pc := 16) (i := 8) rfl ?_
      exact K_retI (pc := 17) (i := 9) rfl rfl ⟨rfl, by omega⟩
set_option maxHeartbeats 4000000 in
set_option maxRecDepth 100000 in
theorem c_War_refusalOfPlan (G : kG) {g : kGh} {h : kH} {x1 : Int} (s1 : kR x1) (hI : Gd g h) : Ctr G y_War_refusalOfPlan X_War_refusalOfPlan 3 [.ref (G.2.2.2 0), kI x1] h (kQi (fun z h' => h' = h ∧ kR z ∧ ((z = -2 ∧ ¬ (0 ≤ x1 ∧ x1 ≤ 1)) ∨ (z = -3 ∧ (0 ≤ x1 ∧ x1 ≤ 1) ∧ 5 < cnt (h 7) x1 (h 6 6).toNat) ∨ (z = 0 ∧ (0 ≤ x1 ∧ x1 ≤ 1) ∧ cnt (h 7) x1 (h 6 6).toNat ≤ 5)))) := by
  refine Ctr.ofK (by decide) rfl T_War_refusalOfPlan (Nat.le_of_ble_eq_true rfl) (lo := [(0, .ref (G.2.2.2 0)), (1, kI x1)]) rfl ?_
  refine K_iload_n (pc := 0) (i := 0) rfl rfl ?_
  refine K_cSI (pc := 1) (i := 1) rfl (c_War_isTown G (x0 := x1) (s0 := by omega)) (ls_War_146 rfl) rfl rfl rfl rfl (fun v1 h1 q1 => ?_)
  obtain ⟨eh, r1⟩ := q1
  rw [eh]; clear eh
  first | refine K_if_ne 10 (pc := 4) (i := 2) rfl rfl (by omega) (fun b4 => ?_) (fun b4 => ?_) | refine K_if_ne_an 10 (pc := 4) (i := 2) rfl rfl (fun b4 => ?_) (fun b4 => ?_)
  · skip
    refine K_aload_n (pc := 10) (i := 5) rfl rfl ?_
    refine K_getR (pc := 11) (i := 6) (j := 1) (d := 3) rfl S_0 rfl (by decide) rfl fw_War_19 ?_
    refine K_getR (pc := 14) (i := 7) (j := 0) (d := 6) rfl (S_Sk sk3) rfl (by decide) rfl fw_War_88 ?_
    refine K_iload_n (pc := 17) (i := 8) rfl rfl ?_
    refine K_cVI (pc := 18) (i := 9) rfl (c_Fleet_ofTown G (f := 6) (hf := fl6) (x1 := x1) (hI := hI) (s1 := by omega)) (S_Fl fl6) rfl (lv_War_217 rfl) rfl rfl rfl rfl rfl (fun v18 h18 q18 => ?_)
    obtain ⟨eh, r18⟩ := q18
    rw [eh]; clear eh
    have t18 : v18 = cnt (h 7) x1 (h 6 6).toNat := r18.2
    refine K_iconst (pc := 21) (i := 10) rfl ?_
    first | refine K_icmp_le 30 (pc := 22) (i := 11) rfl rfl (by omega) (by omega) (fun b22 => ?_) (fun b22 => ?_) | refine K_icmp_le_an 30 (pc := 22) (i := 11) rfl rfl (fun b22 => ?_) (fun b22 => ?_)
    · skip
      refine K_iconst (pc := 30) (i := 14) rfl ?_
      exact K_retI (pc := 31) (i := 15) rfl rfl ⟨rfl, by omega⟩
    · skip
      refine K_bipush (pc := 25) (i := 12) rfl rfl ?_
      refine K_goto 31 (pc := 27) (i := 13) rfl rfl ?_
      exact K_retI (pc := 31) (i := 15) rfl rfl ⟨rfl, by omega⟩
  · skip
    refine K_bipush (pc := 7) (i := 3) rfl rfl ?_
    exact K_retI (pc := 9) (i := 4) rfl rfl ⟨rfl, by omega⟩
set_option maxHeartbeats 4000000 in
set_option maxRecDepth 100000 in
theorem c_War_wonInTrial (G : kG) {g : kGh} {h : kH} {x1 : Int} (s1 : 0 ≤ x1 ∧ x1 ≤ 1) (hI : Gd g h) : Ctr G y_War_wonInTrial X_War_wonInTrial 1 [.ref (G.2.2.2 0), kI x1] h (kQi (fun z h' => h' = h ∧ z = h 22 x1.toNat - h 12 x1.toNat)) := by
  refine Ctr.ofK (by decide) rfl T_War_wonInTrial (Nat.le_of_ble_eq_true rfl) (lo := [(0, .ref (G.2.2.2 0)), (1, kI x1)]) rfl ?_
  refine K_aload_n (pc := 0) (i := 0) rfl rfl ?_
  refine K_getR (pc := 1) (i := 1) (j := 2) (d := 13) rfl S_0 rfl (by decide) rfl fw_War_23 ?_
  refine K_getR (pc := 4) (i := 2) (j := 0) (d := 16) rfl (S_Sk sk13) rfl (by decide) rfl fw_War_88 ?_
  refine K_getR (pc := 7) (i := 3) (j := 5) (d := 22) rfl (S_Fl fl16) rfl (by decide) rfl fw_War_248 ?_
  refine K_iload_n (pc := 10) (i := 4) rfl rfl ?_
  refine K_iald (pc := 11) (i := 5) rfl (S_Fl6 fl16) (by omega) (by omega) (by decide) ?_
  refine K_nm (fun v11 e11 => ?_)
  refine K_aload_n (pc := 12) (i := 6) rfl rfl ?_
  refine K_getR (pc := 13) (i := 7) (j := 1) (d := 3) rfl S_0 rfl (by decide) rfl fw_War_19 ?_
  refine K_getR (pc := 16) (i := 8) (j := 0) (d := 6) rfl (S_Sk sk3) rfl (by decide) rfl fw_War_88 ?_
  refine K_getR (pc := 19) (i := 9) (j := 5) (d := 12) rfl (S_Fl fl6) rfl (by decide) rfl fw_War_248 ?_
  refine K_iload_n (pc := 22) (i := 10) rfl rfl ?_
  refine K_iald (pc := 23) (i := 11) rfl (S_Fl6 fl6) (by omega) (by omega) (by decide) ?_
  refine K_nm (fun v23 e23 => ?_)
  refine K_isub (pc := 24) (i := 12) rfl ?_
  exact K_retI (pc := 25) (i := 13) rfl rfl ⟨rfl, by rw [e11, e23]⟩
set_option maxHeartbeats 4000000 in
set_option maxRecDepth 100000 in
theorem c_War_greatestDivisor (G : kG)  {h : kH} {x0 : Int} {x1 : Int} (s0 : kR x0) (s1 : kR x1) : Ctr G y_War_greatestDivisor X_War_greatestDivisor 2 [kI x0, kI x1] h (kQi (fun z h' => h' = h ∧ kR z)) := by
  refine Ctr.ofK (by decide) rfl T_War_greatestDivisor (Nat.le_of_ble_eq_true rfl) (lo := [(0, kI x0), (1, kI x1)]) rfl ?_
  refine K_iload_n (pc := 0) (i := 0) rfl rfl ?_
  refine K_mabs (pc := 1) (i := 1) rfl mw_War_141 (by omega) (Nat.le_of_ble_eq_true rfl) ⟨Nat.le_of_ble_eq_true rfl, Nat.le_of_ble_eq_true rfl⟩ ⟨Nat.le_of_ble_eq_true rfl, Nat.le_of_ble_eq_true rfl⟩ ?_
  refine K_any (fun v1 r1 => ?_)
  refine K_ist_n (pc := 4) (i := 2) (lo' := [(0, _), (1, _), (2, _)]) rfl rfl rfl rfl ?_
  refine K_iload_n (pc := 5) (i := 3) rfl rfl ?_
  refine K_mabs (pc := 6) (i := 4) rfl mw_War_141 (by omega) (Nat.le_of_ble_eq_true rfl) ⟨Nat.le_of_ble_eq_true rfl, Nat.le_of_ble_eq_true rfl⟩ ⟨Nat.le_of_ble_eq_true rfl, Nat.le_of_ble_eq_true rfl⟩ ?_
  refine K_any (fun v6 r6 => ?_)
  refine K_ist_n (pc := 9) (i := 5) (lo' := [(0, _), (1, _), (2, _), (3, _)]) rfl rfl rfl rfl ?_
  refine K_iconst (pc := 10) (i := 6) rfl ?_
  refine K_ist (pc := 11) (i := 7) (lo' := [(0, _), (1, _), (2, _), (3, _), (4, _)]) rfl rfl rfl rfl ?_
  have L13 : ∀ (n : Nat) (x2 : Int) (x3 : Int) (x4 : Int), (64 - x4).toNat < n → ((0 ≤ x4 ∧ x4 ≤ 64) ∧ kR x2 ∧ kR x3) → K X_War_greatestDivisor G (kZm G 2 (kQi (fun z h' => h' = h ∧ kR z))) 13 [(0, kI x0), (1, kI x1), (2, kI x2), (3, kI x3), (4, kI x4)] [] h := by
    intro n
    induction n with
    | zero => intro x2 x3 x4 hm; exact absurd hm (Nat.not_lt_zero _)
    | succ n ih13 =>
      intro x2 x3 x4 hm13 hV13
      refine K_iload (pc := 13) (i := 8) rfl rfl ?_
      refine K_bipush (pc := 15) (i := 9) rfl rfl ?_
      first | refine K_icmp_ge 40 (pc := 17) (i := 10) rfl rfl (by omega) (by omega) (fun b17 => ?_) (fun b17 => ?_) | refine K_icmp_ge_an 40 (pc := 17) (i := 10) rfl rfl (fun b17 => ?_) (fun b17 => ?_)
      · skip
        refine K_iload_n (pc := 40) (i := 23) rfl rfl ?_
        exact K_retI (pc := 41) (i := 24) rfl rfl ⟨rfl, by omega⟩
      · skip
        refine K_iload_n (pc := 20) (i := 11) rfl rfl ?_
        first | refine K_if_eq 40 (pc := 21) (i := 12) rfl rfl (by omega) (fun b21 => ?_) (fun b21 => ?_) | refine K_if_eq_an 40 (pc := 21) (i := 12) rfl rfl (fun b21 => ?_) (fun b21 => ?_)
        · skip
          refine K_iload_n (pc := 40) (i := 23) rfl rfl ?_
          exact K_retI (pc := 41) (i := 24) rfl rfl ⟨rfl, by omega⟩
        · skip
          refine K_iload_n (pc := 24) (i := 13) rfl rfl ?_
          refine K_iload_n (pc := 25) (i := 14) rfl rfl ?_
          refine K_irem (pc := 26) (i := 15) rfl (by omega) (by omega) ?_
          refine K_any (fun v26 r26 => ?_)
          refine K_ist (pc := 27) (i := 16) (lo' := [(0, _), (1, _), (2, _), (3, _), (4, _), (5, _)]) rfl rfl rfl rfl ?_
          refine K_iload_n (pc := 29) (i := 17) rfl rfl ?_
          refine K_ist_n (pc := 30) (i := 18) (lo' := [(0, _), (1, _), (2, _), (3, _), (4, _), (5, _)]) rfl rfl rfl rfl ?_
          refine K_iload (pc := 31) (i := 19) rfl rfl ?_
          refine K_ist_n (pc := 33) (i := 20) (lo' := [(0, _), (1, _), (2, _), (3, _), (4, _), (5, _)]) rfl rfl rfl rfl ?_
          refine K_inc (pc := 34) (i := 21) (q := 4) (lo' := [(0, _), (1, _), (2, _), (3, _), (4, _), (5, _)]) rfl rfl rfl rfl rfl ?_
          refine K_goto 13 (pc := 37) (i := 22) rfl rfl ?_
          refine K_drop (lo' := [(0, kI x0), (1, kI x1), (2, kI x3), (3, kI v26), (4, kI (x4 + 1))]) [0, 1, 2, 3, 4] rfl ?_
          exact ih13 x3 v26 (x4 + 1) (by omega) (by omega)
  exact L13 _ v1 v6 0 (Nat.lt_succ_self _) (by omega)
set_option maxHeartbeats 4000000 in
set_option maxRecDepth 100000 in
theorem c_War_write (G : kG) {g : kGh} {h : kH} {x1 : Int} {l2 : Int} (s1 : kR x1) (hI : Gd g h) : Ctr G y_War_write X_War_write 13 [.ref (G.2.2.2 0), kI x1, kJ l2] h (kQi (fun z h' => Fx (fun c i => c = 1 ∨ c = 2) h h' ∧ (((1 ≤ x1 ∧ x1 ≤ 8 ∧ g.1 + x1 ≤ 74 ∧ z = g.1 + x1 ∧ Gd (g.1 + x1, g.2) h') ∨ ((x1 < 1 ∨ 8 < x1) ∧ z = -2 ∧ Gd g h') ∨ (1 ≤ x1 ∧ x1 ≤ 8 ∧ 74 < g.1 + x1 ∧ z = -4 ∧ Gd g h')) ∧ ((1 ≤ x1 ∧ x1 ≤ 8 ∧ g.1 + x1 ≤ 74 → WrB (h 2) (h' 2) g.1 x1 (-1) l2) ∧ (¬ (1 ≤ x1 ∧ x1 ≤ 8 ∧ g.1 + x1 ≤ 74) → h' 2 = h 2))))) := by
  refine Ctr.ofK (by decide) rfl T_War_write (Nat.le_of_ble_eq_true rfl) (lo := [(0, .ref (G.2.2.2 0)), (1, kI x1), (2, kJ l2)]) rfl ?_
  have fx : Fx (fun c i => c = 1 ∨ c = 2) h h := Fx.rf
  refine K_iload_n (pc := 0) (i := 0) rfl rfl ?_
  refine K_iconst (pc := 1) (i := 1) rfl ?_
  first | refine K_icmp_lt 11 (pc := 2) (i := 2) rfl rfl (by omega) (by omega) (fun b2 => ?_) (fun b2 => ?_) | refine K_icmp_lt_an 11 (pc := 2) (i := 2) rfl rfl (fun b2 => ?_) (fun b2 => ?_)
  · skip
    refine K_bipush (pc := 11) (i := 6) rfl rfl ?_
    exact K_retI (pc := 13) (i := 7) rfl rfl ⟨fx, ⟨Or.inr (Or.inl ⟨by omega, rfl, hI⟩), fun q => by omega, fun _ => rfl⟩⟩
  · skip
    refine K_iload_n (pc := 5) (i := 3) rfl rfl ?_
    refine K_bipush (pc := 6) (i := 4) rfl rfl ?_
    first | refine K_icmp_le 14 (pc := 8) (i := 5) rfl rfl (by omega) (by omega) (fun b8 => ?_) (fun b8 => ?_) | refine K_icmp_le_an 14 (pc := 8) (i := 5) rfl rfl (fun b8 => ?_) (fun b8 => ?_)
    · skip
      refine K_aload_n (pc := 14) (i := 8) rfl rfl ?_
      refine K_getR (pc := 15) (i := 9) (j := 0) (d := 1) rfl S_0 rfl (by decide) rfl fw_War_10 ?_
      refine K_iload_n (pc := 18) (i := 10) rfl rfl ?_
      refine K_lload_n (pc := 19) (i := 11) rfl rfl ?_
      refine K_cVI (pc := 20) (i := 12) rfl (c_Text_append G (x1 := x1) (l2 := l2) (hI := hI) (s1 := by omega)) S_1 rfl (lv_War_65 rfl) rfl rfl rfl rfl rfl (fun v20 h20 q20 => ?_)
      obtain ⟨fx20, q20⟩ := q20
      have r20 := q20
      have fx := fx.tr fx20 (fun c i q => (by first | (dsimp only at q ⊢; omega) | omega))
      have k20 : v20 = 0 ∨ v20 = 1 := by rcases r20 with h | h <;> omega
      first | refine K_if_eq 36 (pc := 23) (i := 13) rfl rfl (by omega) (fun b23 => ?_) (fun b23 => ?_) | refine K_if_eq_an 36 (pc := 23) (i := 13) rfl rfl (fun b23 => ?_) (fun b23 => ?_)
      · skip
        have hJ : 74 < g.1 + x1 ∧ Gd g h20 ∧ h20 2 = h 2 := by rcases r20 with h | h; exact absurd h.1 (by omega); exact h.2
        have hI := hJ.2.1
        refine K_bipush (pc := 36) (i := 18) rfl rfl ?_
        exact K_retI (pc := 38) (i := 19) rfl rfl ⟨fx, (by first | exact ⟨Or.inr (Or.inr ⟨by omega, by omega, hJ.1, rfl, hI⟩), fun q => absurd q.2.2 (by omega), fun _ => hJ.2.2⟩ | exact ⟨Or.inl ⟨by omega, by omega, hJ.1, e30.trans hI.2.1, hI⟩, fun _ => hJ.2.2, fun q => absurd (show 1 ≤ x1 ∧ x1 ≤ 8 ∧ g.1 + x1 ≤ 74 by omega) q⟩)⟩
      · skip
        have hJ : g.1 + x1 ≤ 74 ∧ Gd (g.1 + x1, g.2) h20 ∧ WrB (h 2) (h20 2) g.1 x1 (-1) l2 := by rcases r20 with h | h; exact h.2; exact absurd h.1 (by omega)
        have hI := hJ.2.1
        refine K_aload_n (pc := 26) (i := 14) rfl rfl ?_
        refine K_getR (pc := 27) (i := 15) (j := 0) (d := 1) rfl S_0 rfl (by decide) rfl fw_War_10 ?_
        refine K_getI (pc := 30) (i := 16) (j := 1) rfl S_1 rfl (by decide) rfl fw_War_69 ?_
        refine K_nm (fun v30 e30 => ?_)
        have r30 := rd_len hI
        rw [← e30] at r30
        refine K_goto 38 (pc := 33) (i := 17) rfl rfl ?_
        exact K_retI (pc := 38) (i := 19) rfl rfl ⟨fx, (by first | exact ⟨Or.inr (Or.inr ⟨by omega, by omega, hJ.1, rfl, hI⟩), fun q => absurd q.2.2 (by omega), fun _ => hJ.2.2⟩ | exact ⟨Or.inl ⟨by omega, by omega, hJ.1, e30.trans hI.2.1, hI⟩, fun _ => hJ.2.2, fun q => absurd (show 1 ≤ x1 ∧ x1 ≤ 8 ∧ g.1 + x1 ≤ 74 by omega) q⟩)⟩
    · skip
      refine K_bipush (pc := 11) (i := 6) rfl rfl ?_
      exact K_retI (pc := 13) (i := 7) rfl rfl ⟨fx, ⟨Or.inr (Or.inl ⟨by omega, rfl, hI⟩), fun q => by omega, fun _ => rfl⟩⟩
set_option maxHeartbeats 4000000 in
set_option maxRecDepth 100000 in
theorem c_War_wipe (G : kG) {g : kGh} {h : kH}  (hI : Gd g h) : Ctr G y_War_wipe X_War_wipe 13 [.ref (G.2.2.2 0)] h (kQi (fun z h' => Fx (fun c i => c = 1) h h' ∧ (z = g.1 ∧ Gd (0, g.2) h'))) := by
  refine Ctr.ofK (by decide) rfl T_War_wipe (Nat.le_of_ble_eq_true rfl) (lo := [(0, .ref (G.2.2.2 0))]) rfl ?_
  have fx : Fx (fun c i => c = 1) h h := Fx.rf
  have e00 := hI.2.1
  refine K_aload_n (pc := 0) (i := 0) rfl rfl ?_
  refine K_getR (pc := 1) (i := 1) (j := 0) (d := 1) rfl S_0 rfl (by decide) rfl fw_War_10 ?_
  refine K_getI (pc := 4) (i := 2) (j := 1) rfl S_1 rfl (by decide) rfl fw_War_69 ?_
  refine K_nm (fun v4 e4 => ?_)
  have r4 := rd_len hI
  rw [← e4] at r4
  refine K_ist_n (pc := 7) (i := 3) (lo' := [(0, _), (1, _)]) rfl rfl rfl rfl ?_
  refine K_aload_n (pc := 8) (i := 4) rfl rfl ?_
  refine K_getR (pc := 9) (i := 5) (j := 0) (d := 1) rfl S_0 rfl (by decide) rfl fw_War_10 ?_
  refine K_iconst (pc := 12) (i := 6) rfl ?_
  refine K_putI (pc := 13) (i := 7) (j := 1) rfl S_1 rfl (by decide) rfl rfl rfl fw_War_69 ?_
  have hI := st_len hI (v := 0) (by omega)
  have fx := Fx.st (c := 1) (i := 1) (v := 0) fx (by first | (dsimp only; omega) | omega | exact not_false)
  refine K_iload_n (pc := 16) (i := 8) rfl rfl ?_
  exact K_retI (pc := 17) (i := 9) rfl rfl ⟨fx, ⟨e4.trans e00, hI⟩⟩
set_option maxHeartbeats 4000000 in
set_option maxRecDepth 100000 in
theorem c_War_fault (G : kG) {g : kGh} {h : kH}  (hI : Gd g h) : Ctr G y_War_fault X_War_fault 13 [.ref (G.2.2.2 0)] h (kQi (fun z h' => Fx (fun c i => False) h h' ∧ (Gd g h' ∧ FaultIs (h 2) (h 1 1) z))) := by
  refine Ctr.ofK (by decide) rfl T_War_fault (Nat.le_of_ble_eq_true rfl) (lo := [(0, .ref (G.2.2.2 0))]) rfl ?_
  have fx : Fx (fun c i => False) h h := Fx.rf
  refine K_aload_n (pc := 0) (i := 0) rfl rfl ?_
  refine K_getR (pc := 1) (i := 1) (j := 0) (d := 1) rfl S_0 rfl (by decide) rfl fw_War_10 ?_
  refine K_cVI (pc := 4) (i := 2) rfl (c_Text_firstFault G (hI := hI)) S_1 rfl (lv_War_73 rfl) rfl rfl rfl rfl rfl (fun v4 h4 q4 => ?_)
  obtain ⟨eh, r4⟩ := q4
  rw [eh]; clear eh
  exact K_retI (pc := 7) (i := 3) rfl rfl ⟨fx, ⟨hI, r4.2⟩⟩
set_option maxHeartbeats 4000000 in
set_option maxRecDepth 100000 in
theorem c_War_seed (G : kG) {g : kGh} {h : kH} {l1 : Int} (hI : Gd g h) : Ctr G y_War_seed X_War_seed 13 [.ref (G.2.2.2 0), kJ l1] h (kQj (fun z h' => Fx (fun c i => c = 0) h h' ∧ (z = g.2.1 ∧ Gd (g.1, l1, g.2.2) h'))) := by
  refine Ctr.ofK (by decide) rfl T_War_seed (Nat.le_of_ble_eq_true rfl) (lo := [(0, .ref (G.2.2.2 0)), (1, kJ l1)]) rfl ?_
  have fx : Fx (fun c i => c = 0) h h := Fx.rf
  have hI0 := hI
  refine K_aload_n (pc := 0) (i := 0) rfl rfl ?_
  refine K_getJ (pc := 1) (i := 1) (j := 8) rfl S_0 rfl (by decide) rfl fw_War_60 ?_
  refine K_lst_n (pc := 4) (i := 2) (lo' := [(0, _), (1, _), (3, _)]) rfl rfl rfl rfl ?_
  refine K_aload_n (pc := 5) (i := 3) rfl rfl ?_
  refine K_lload_n (pc := 6) (i := 4) rfl rfl ?_
  refine K_putJ (pc := 7) (i := 5) (j := 8) rfl S_0 rfl (by decide) rfl rfl rfl fw_War_60 ?_
  have hI := st_seed hI (v := l1)
  have fx := Fx.st (c := 0) (i := 8) (v := l1) fx (by first | (dsimp only; omega) | omega | exact not_false)
  refine K_lload_n (pc := 10) (i := 6) rfl rfl ?_
  exact K_retJ (pc := 11) (i := 7) rfl rfl ⟨fx, ⟨hI0.2.2.1, hI⟩⟩
end
section
set_option maxHeartbeats 4000000 in
set_option maxRecDepth 100000 in
theorem c_War_war (G : kG) {g : kGh} {h : kH}  (hI : Gd g h) : Ctr G y_War_war X_War_war 13 [.ref (G.2.2.2 0)] h (kQi (fun z h' => Fx (fun c i => c = 4 ∨ (6 ≤ c ∧ c ≤ 12) ∨ (c = 23 ∧ i = 2) ∨ ((c = 138 ∨ c = 149) ∧ i = 1)) h h' ∧ (Gd g h' ∧ CWwar h h' z))) := by
  refine Ctr.ofK (by decide) rfl T_War_war (Nat.le_of_ble_eq_true rfl) (lo := [(0, .ref (G.2.2.2 0))]) rfl ?_
  have fx : Fx (fun c i => c = 4 ∨ (6 ≤ c ∧ c ≤ 12) ∨ (c = 23 ∧ i = 2) ∨ ((c = 138 ∨ c = 149) ∧ i = 1)) h h := Fx.rf
  refine K_aload_n (pc := 0) (i := 0) rfl rfl ?_
  refine K_getR (pc := 1) (i := 1) (j := 0) (d := 1) rfl S_0 rfl (by decide) rfl fw_War_10 ?_
  refine K_cVI (pc := 4) (i := 2) rfl (c_Text_firstFault G (hI := hI)) S_1 rfl (lv_War_73 rfl) rfl rfl rfl rfl rfl (fun v4 h4 q4 => ?_)
  obtain ⟨eh, r4⟩ := q4
  rw [eh]; clear eh
  refine K_bipush (pc := 7) (i := 3) rfl rfl ?_
  first | refine K_icmp_eq 15 (pc := 9) (i := 4) rfl rfl (by omega) (by omega) (fun b9 => ?_) (fun b9 => ?_) | refine K_icmp_eq_an 15 (pc := 9) (i := 4) rfl rfl (fun b9 => ?_) (fun b9 => ?_)
  · skip
    refine K_aload_n (pc := 15) (i := 7) rfl rfl ?_
    refine K_getR (pc := 16) (i := 8) (j := 0) (d := 1) rfl S_0 rfl (by decide) rfl fw_War_10 ?_
    refine K_aload_n (pc := 19) (i := 9) rfl rfl ?_
    refine K_getR (pc := 20) (i := 10) (j := 1) (d := 3) rfl S_0 rfl (by decide) rfl fw_War_19 ?_
    refine K_cVV (pc := 23) (i := 11) rfl (c_Text_loadInto G (hT := (r4.2.none b9).2) (hl := (r4.2.none b9).1) (hI := hI)) S_1 rfl (lv_War_77 rfl) rfl rfl rfl rfl rfl (fun h23 q23 => ?_)
    obtain ⟨fx23, q23⟩ := q23
    obtain ⟨hI, lw23, lf23⟩ := q23
    have fx := fx.tr fx23 (fun c i q => (by first | (dsimp only at q ⊢; omega) | omega))
    refine K_aload_n (pc := 26) (i := 12) rfl rfl ?_
    refine K_getR (pc := 27) (i := 13) (j := 3) (d := 23) rfl S_0 rfl (by decide) rfl fw_War_29 ?_
    refine K_cVV (pc := 30) (i := 14) rfl (c_Acts_clear G (hI := hI)) S_23 rfl (lv_War_81 rfl) rfl rfl rfl rfl rfl (fun h30 q30 => ?_)
    obtain ⟨fx30, q30⟩ := q30
    obtain ⟨hI, ac30⟩ := q30
    have fx := fx.tr fx30 (fun c i q => (by first | (dsimp only at q ⊢; omega) | omega))
    refine K_iconst (pc := 33) (i := 15) rfl ?_
    refine K_ist_n (pc := 34) (i := 16) (lo' := [(0, _), (1, _)]) rfl rfl rfl rfl ?_
    have L35 : ∀ (n : Nat) (x1 : Int) (ha : kH), (2 - x1).toNat < n → (Gd g ha) → (Fx (fun c i => c = 4 ∨ (6 ≤ c ∧ c ≤ 12) ∨ (c = 23 ∧ i = 2) ∨ ((c = 138 ∨ c = 149) ∧ i = 1)) h ha) → ((0 ≤ x1 ∧ x1 ≤ 2) ∧ (∀ s : Nat, (s : Int) < x1 → ha (138 + 11 * s) 1 = 0) ∧ ∀ c, c < 137 → ha c = h30 c) → K X_War_war G (kZm G 13 (kQi (fun z h' => Fx (fun c i => c = 4 ∨ (6 ≤ c ∧ c ≤ 12) ∨ (c = 23 ∧ i = 2) ∨ ((c = 138 ∨ c = 149) ∧ i = 1)) h h' ∧ (Gd g h' ∧ CWwar h h' z)))) 35 [(0, .ref (G.2.2.2 0)), (1, kI x1)] [] ha := by
      intro n
      induction n with
      | zero => intro x1 ha hm; exact absurd hm (Nat.not_lt_zero _)
      | succ n ih35 =>
        intro x1 ha hm35 hI fx hV35
        refine K_iload_n (pc := 35) (i := 17) rfl rfl ?_
        refine K_iconst (pc := 36) (i := 18) rfl ?_
        first | refine K_icmp_ge 56 (pc := 37) (i := 19) rfl rfl (by omega) (by omega) (fun b37 => ?_) (fun b37 => ?_) | refine K_icmp_ge_an 56 (pc := 37) (i := 19) rfl rfl (fun b37 => ?_) (fun b37 => ?_)
        · skip
          refine K_aload_n (pc := 56) (i := 28) rfl rfl ?_
          refine K_getR (pc := 57) (i := 29) (j := 1) (d := 3) rfl S_0 rfl (by decide) rfl fw_War_19 ?_
          refine K_getR (pc := 60) (i := 30) (j := 0) (d := 6) rfl (S_Sk sk3) rfl (by decide) rfl fw_War_88 ?_
          refine K_getI (pc := 63) (i := 31) (j := 6) rfl (S_Fl fl6) rfl (by decide) rfl fw_War_92 ?_
          refine K_nm (fun v63 e63 => ?_)
          have r63 := rd_kites hI fl6
          rw [← e63] at r63
          exact K_retI (pc := 66) (i := 32) rfl rfl ⟨fx, ⟨hI, v4, r4.2, Or.inr ⟨by omega, e63, lw23.of ((hV35.2.2 4 (by omega)).trans (fx30.cell 4 (fun i => (by first | (dsimp only; omega) | omega)))), lf23.of (fun c a b => (hV35.2.2 c (by omega)).trans (fx30.cell c (fun i => (by first | (dsimp only; omega) | omega)))), by rw [hV35.2.2 23 (by omega)]; exact ac30, fun s hs => hV35.2.1 s (by omega)⟩⟩⟩
        · skip
          refine K_aload_n (pc := 40) (i := 20) rfl rfl ?_
          refine K_getR (pc := 41) (i := 21) (j := 4) (d := 137) rfl S_0 rfl (by decide) rfl fw_War_35 ?_
          refine K_iload_n (pc := 44) (i := 22) rfl rfl ?_
          obtain ⟨q45, hq45, hsq45⟩ := slotAt (a := x1) (by omega) (by omega)
          refine K_aald (pc := 45) (i := 23) (q := q45) rfl S_137 (by decide) (by omega) (by simp; omega) (by decide) hq45 ?_
          obtain ⟨hp45, hr45⟩ := slotAt2 hq45
          refine K_iconst (pc := 46) (i := 24) rfl ?_
          refine K_putB (pc := 47) (i := 25) (j := 1) rfl (S_Sl hsq45) rfl (by decide) rfl rfl rfl fw_War_84 (by omega) ?_
          have hI := st_used hI hsq45 (v := 0) (by omega)
          have fx := Fx.st (c := q45) (i := 1) (v := 0) fx (by first | (dsimp only; omega) | omega | exact not_false)
          have sl47 : ∀ s : Nat, (s : Int) < x1 + 1 → (kU ha q45 1 0) (138 + 11 * s) 1 = 0 := fun s hs => by
              rw [kU_at]
              by_cases q : s = x1.toNat
              · rw [if_pos ⟨by omega, rfl⟩]
              · rw [if_neg (by omega)]
                exact hV35.2.1 s (by omega)
          refine K_inc (pc := 50) (i := 26) (q := 1) (lo' := [(0, _), (1, _)]) rfl rfl rfl rfl rfl ?_
          refine K_goto 35 (pc := 53) (i := 27) rfl rfl ?_
          exact ih35 (x1 + 1) _ (by omega) hI fx ⟨by omega, sl47, fun c hc => (kU_c _ _ _ _ (by omega)).trans (hV35.2.2 c hc)⟩
    exact L35 _ 0 _ (Nat.lt_succ_self _) hI fx ⟨by omega, fun s hs => absurd hs (by omega), fun _ _ => rfl⟩
  · skip
    refine K_bipush (pc := 12) (i := 5) rfl rfl ?_
    exact K_retI (pc := 14) (i := 6) rfl rfl ⟨fx, ⟨hI, v4, r4.2, Or.inl ⟨by omega, rfl, rfl⟩⟩⟩
set_option maxHeartbeats 4000000 in
set_option maxRecDepth 100000 in
theorem c_War_kite (G : kG) {g : kGh} {h : kH} {x1 : Int} {x2 : Int} (s1 : kR x1) (s2 : kR x2) (hI : Gd g h) : Ctr G y_War_kite X_War_kite 13 [.ref (G.2.2.2 0), kI x1, kI x2] h (kQi (fun z h' => Fx (fun c i => False) h h' ∧ (Gd g h' ∧ z = ktF (h 6 6) (fun i a => h (7 + a) i) (eg h 3) x1 x2))) := by
  refine Ctr.ofK (by decide) rfl T_War_kite (Nat.le_of_ble_eq_true rfl) (lo := [(0, .ref (G.2.2.2 0)), (1, kI x1), (2, kI x2)]) rfl ?_
  have fx : Fx (fun c i => False) h h := Fx.rf
  refine K_aload_n (pc := 0) (i := 0) rfl rfl ?_
  refine K_iload_n (pc := 1) (i := 1) rfl rfl ?_
  refine K_cVI (pc := 2) (i := 2) rfl (c_War_isKite G (x1 := x1) (hI := hI) (s1 := by omega)) S_0 rfl (lv_War_97 rfl) rfl rfl rfl rfl rfl (fun v2 h2 q2 => ?_)
  obtain ⟨eh, r2⟩ := q2
  rw [eh]; clear eh
  first | refine K_if_ne 10 (pc := 5) (i := 3) rfl rfl (by omega) (fun b5 => ?_) (fun b5 => ?_) | refine K_if_ne_an 10 (pc := 5) (i := 3) rfl rfl (fun b5 => ?_) (fun b5 => ?_)
  · skip
    refine K_aload_n (pc := 10) (i := 6) rfl rfl ?_
    refine K_getR (pc := 11) (i := 7) (j := 1) (d := 3) rfl S_0 rfl (by decide) rfl fw_War_19 ?_
    refine K_getR (pc := 14) (i := 8) (j := 0) (d := 6) rfl (S_Sk sk3) rfl (by decide) rfl fw_War_88 ?_
    refine K_ast_n (pc := 17) (i := 9) (lo' := [(0, _), (1, _), (2, _), (3, _)]) rfl rfl rfl rfl ?_
    refine K_iload_n (pc := 18) (i := 10) rfl rfl ?_
    by_cases sw19 : (0 : Int) ≤ x2 ∧ x2 ≤ 5
    · skip
      rcases (show x2 = 0 ∨ x2 = 1 ∨ x2 = 2 ∨ x2 = 3 ∨ x2 = 4 ∨ x2 = 5 by omega) with sx19 | sx19 | sx19 | sx19 | sx19 | sx19
      · refine K_tableIn 56 (by omega) (pc := 19) (i := 11) rfl (by omega) (by omega) (by rw [sx19]; rfl) rfl ?_
        refine K_aload_n (pc := 56) (i := 12) rfl rfl ?_
        refine K_getR (pc := 57) (i := 13) (j := 0) (d := 7) rfl (S_Fl fl6) rfl (by decide) rfl fw_War_101 ?_
        refine K_iload_n (pc := 60) (i := 14) rfl rfl ?_
        refine K_iald (pc := 61) (i := 15) rfl (S_Fl1 fl6) (by omega) (by omega) (by decide) ?_
        refine K_nm (fun v61 e61 => ?_)
        have r61 := rd_town hI fl6 (x1).toNat
        rw [← e61] at r61
        exact K_retI (pc := 62) (i := 16) rfl rfl ⟨fx, ⟨hI, ktF_at (by omega) (by omega) (by rw [sx19]; exact e61)⟩⟩
      · refine K_tableIn 63 (by omega) (pc := 19) (i := 11) rfl (by omega) (by omega) (by rw [sx19]; rfl) rfl ?_
        refine K_aload_n (pc := 63) (i := 17) rfl rfl ?_
        refine K_getR (pc := 64) (i := 18) (j := 1) (d := 8) rfl (S_Fl fl6) rfl (by decide) rfl fw_War_105 ?_
        refine K_iload_n (pc := 67) (i := 19) rfl rfl ?_
        refine K_iald (pc := 68) (i := 20) rfl (S_Fl2 fl6) (by omega) (by omega) (by decide) ?_
        refine K_nm (fun v68 e68 => ?_)
        have r68 := rd_stake hI fl6 (x1).toNat
        rw [← e68] at r68
        exact K_retI (pc := 69) (i := 21) rfl rfl ⟨fx, ⟨hI, ktF_at (by omega) (by omega) (by rw [sx19]; exact e68)⟩⟩
      · refine K_tableIn 70 (by omega) (pc := 19) (i := 11) rfl (by omega) (by omega) (by rw [sx19]; rfl) rfl ?_
        refine K_aload_n (pc := 70) (i := 22) rfl rfl ?_
        refine K_getR (pc := 71) (i := 23) (j := 2) (d := 9) rfl (S_Fl fl6) rfl (by decide) rfl fw_War_108 ?_
        refine K_iload_n (pc := 74) (i := 24) rfl rfl ?_
        refine K_iald (pc := 75) (i := 25) rfl (S_Fl3 fl6) (by omega) (by omega) (by decide) ?_
        refine K_nm (fun v75 e75 => ?_)
        have r75 := rd_x hI fl6 (x1).toNat
        rw [← e75] at r75
        exact K_retI (pc := 76) (i := 26) rfl rfl ⟨fx, ⟨hI, ktF_at (by omega) (by omega) (by rw [sx19]; exact e75)⟩⟩
      · refine K_tableIn 77 (by omega) (pc := 19) (i := 11) rfl (by omega) (by omega) (by rw [sx19]; rfl) rfl ?_
        refine K_aload_n (pc := 77) (i := 27) rfl rfl ?_
        refine K_getR (pc := 78) (i := 28) (j := 3) (d := 10) rfl (S_Fl fl6) rfl (by decide) rfl fw_War_111 ?_
        refine K_iload_n (pc := 81) (i := 29) rfl rfl ?_
        refine K_iald (pc := 82) (i := 30) rfl (S_Fl4 fl6) (by omega) (by omega) (by decide) ?_
        refine K_nm (fun v82 e82 => ?_)
        have r82 := rd_height hI fl6 (x1).toNat
        rw [← e82] at r82
        exact K_retI (pc := 83) (i := 31) rfl rfl ⟨fx, ⟨hI, ktF_at (by omega) (by omega) (by rw [sx19]; exact e82)⟩⟩
      · refine K_tableIn 84 (by omega) (pc := 19) (i := 11) rfl (by omega) (by omega) (by rw [sx19]; rfl) rfl ?_
        refine K_aload_n (pc := 84) (i := 32) rfl rfl ?_
        refine K_getR (pc := 85) (i := 33) (j := 4) (d := 11) rfl (S_Fl fl6) rfl (by decide) rfl fw_War_114 ?_
        refine K_iload_n (pc := 88) (i := 34) rfl rfl ?_
        refine K_iald (pc := 89) (i := 35) rfl (S_Fl5 fl6) (by omega) (by omega) (by decide) ?_
        refine K_nm (fun v89 e89 => ?_)
        have r89 := rd_glass hI fl6 (x1).toNat
        rw [← e89] at r89
        exact K_retI (pc := 90) (i := 36) rfl rfl ⟨fx, ⟨hI, ktF_at (by omega) (by omega) (by rw [sx19]; exact e89)⟩⟩
      · refine K_tableIn 91 (by omega) (pc := 19) (i := 11) rfl (by omega) (by omega) (by rw [sx19]; rfl) rfl ?_
        refine K_aload_n (pc := 91) (i := 37) rfl rfl ?_
        refine K_getR (pc := 92) (i := 38) (j := 1) (d := 3) rfl S_0 rfl (by decide) rfl fw_War_19 ?_
        refine K_iload_n (pc := 95) (i := 39) rfl rfl ?_
        refine K_cVI (pc := 96) (i := 40) rfl (c_Sky_edge G (s := 3) (hs := sk3) (x1 := x1) (hI := hI) (s1 := by omega)) (S_Sk sk3) rfl (lv_War_117 rfl) rfl rfl rfl rfl rfl (fun v96 h96 q96 => ?_)
        obtain ⟨eh, r96⟩ := q96
        rw [eh]; clear eh
        exact K_retI (pc := 99) (i := 41) rfl rfl ⟨fx, ⟨hI, ktF_e (by omega) (by omega) r96.2⟩⟩
    · refine K_tableOut 100 (by omega) (pc := 19) (i := 11) rfl (by omega) rfl ?_
      refine K_bipush (pc := 100) (i := 42) rfl rfl ?_
      exact K_retI (pc := 102) (i := 43) rfl rfl ⟨fx, ⟨hI, ktF_o (by omega) (by omega) rfl⟩⟩
  · skip
    refine K_iconst (pc := 8) (i := 4) rfl ?_
    exact K_retI (pc := 9) (i := 5) rfl rfl ⟨fx, ⟨hI, ktF_no (by omega) rfl⟩⟩
set_option maxHeartbeats 4000000 in
set_option maxRecDepth 100000 in
theorem c_War_wind (G : kG) {g : kGh} {h : kH} {x1 : Int} {x2 : Int} (s1 : kR x1) (s2 : kR x2) (hI : Gd g h) : Ctr G y_War_wind X_War_wind 13 [.ref (G.2.2.2 0), kI x1, kI x2] h (kQi (fun z h' => Fx (fun c i => c = 4) h h' ∧ (Gd g h' ∧ CWwind h h' x1 x2 z))) := by
  refine Ctr.ofK (by decide) rfl T_War_wind (Nat.le_of_ble_eq_true rfl) (lo := [(0, .ref (G.2.2.2 0)), (1, kI x1), (2, kI x2)]) rfl ?_
  have fx : Fx (fun c i => c = 4) h h := Fx.rf
  refine K_iload_n (pc := 0) (i := 0) rfl rfl ?_
  refine K_cSI (pc := 1) (i := 1) rfl (c_War_isHeight G (x0 := x1) (s0 := by omega)) (ls_War_121 rfl) rfl rfl rfl rfl (fun v1 h1 q1 => ?_)
  obtain ⟨eh, r1⟩ := q1
  rw [eh]; clear eh
  first | refine K_if_eq 17 (pc := 4) (i := 2) rfl rfl (by omega) (fun b4 => ?_) (fun b4 => ?_) | refine K_if_eq_an 17 (pc := 4) (i := 2) rfl rfl (fun b4 => ?_) (fun b4 => ?_)
  · skip
    refine K_bipush (pc := 17) (i := 8) rfl rfl ?_
    exact K_retI (pc := 19) (i := 9) rfl rfl ⟨fx, ⟨hI, Or.inr ⟨by omega, rfl, rfl⟩⟩⟩
  · skip
    refine K_iload_n (pc := 7) (i := 3) rfl rfl ?_
    refine K_bipush (pc := 8) (i := 4) rfl rfl ?_
    refine K_iconst (pc := 10) (i := 5) rfl ?_
    refine K_cSI (pc := 11) (i := 6) rfl (c_War_isWithin G (x0 := x2) (x1 := -3) (x2 := 3) (s0 := by omega) (s1 := by omega) (s2 := by omega)) (ls_War_124 rfl) rfl rfl rfl rfl (fun v11 h11 q11 => ?_)
    obtain ⟨eh, r11⟩ := q11
    rw [eh]; clear eh
    first | refine K_if_ne 20 (pc := 14) (i := 7) rfl rfl (by omega) (fun b14 => ?_) (fun b14 => ?_) | refine K_if_ne_an 20 (pc := 14) (i := 7) rfl rfl (fun b14 => ?_) (fun b14 => ?_)
    · skip
      refine K_aload_n (pc := 20) (i := 10) rfl rfl ?_
      refine K_getR (pc := 21) (i := 11) (j := 1) (d := 3) rfl S_0 rfl (by decide) rfl fw_War_19 ?_
      refine K_getR (pc := 24) (i := 12) (j := 1) (d := 4) rfl (S_Sk sk3) rfl (by decide) rfl fw_War_128 ?_
      refine K_iload_n (pc := 27) (i := 13) rfl rfl ?_
      refine K_iald (pc := 28) (i := 14) rfl (S_Sk1 sk3) (by omega) (by omega) (by decide) ?_
      refine K_nm (fun v28 e28 => ?_)
      have r28 := rd_wind hI sk3 (x1).toNat
      rw [← e28] at r28
      refine K_ist_n (pc := 29) (i := 15) (lo' := [(0, _), (1, _), (2, _), (3, _)]) rfl rfl rfl rfl ?_
      refine K_aload_n (pc := 30) (i := 16) rfl rfl ?_
      refine K_getR (pc := 31) (i := 17) (j := 1) (d := 3) rfl S_0 rfl (by decide) rfl fw_War_19 ?_
      refine K_getR (pc := 34) (i := 18) (j := 1) (d := 4) rfl (S_Sk sk3) rfl (by decide) rfl fw_War_128 ?_
      refine K_iload_n (pc := 37) (i := 19) rfl rfl ?_
      refine K_iload_n (pc := 38) (i := 20) rfl rfl ?_
      refine K_iast (pc := 39) (i := 21) rfl (S_Sk1 sk3) (by omega) (by omega) (by decide) ?_
      have hI := st_wind hI sk3 (i := (x1).toNat) (v := x2) (by omega)
      have fx := Fx.st (c := 4) (i := (x1).toNat) (v := x2) fx (by first | (dsimp only; omega) | omega | exact not_false)
      refine K_iload_n (pc := 40) (i := 22) rfl rfl ?_
      refine K_iconst (pc := 41) (i := 23) rfl ?_
      refine K_iadd (pc := 42) (i := 24) rfl ?_
      exact K_retI (pc := 43) (i := 25) rfl rfl ⟨fx, ⟨hI, Or.inl ⟨by omega, by rw [e28], fun j => kU_s _ _ _ _ j⟩⟩⟩
    · skip
      refine K_bipush (pc := 17) (i := 8) rfl rfl ?_
      exact K_retI (pc := 19) (i := 9) rfl rfl ⟨fx, ⟨hI, Or.inr ⟨by omega, rfl, rfl⟩⟩⟩
set_option maxHeartbeats 4000000 in
set_option maxRecDepth 100000 in
theorem c_War_rise (G : kG) {g : kGh} {h : kH} {x1 : Int} {x2 : Int} (s1 : kR x1) (s2 : kR x2) (hI : Gd g h) : Ctr G y_War_rise X_War_rise 13 [.ref (G.2.2.2 0), kI x1, kI x2] h (kQi (fun z h' => Fx (fun c i => (6 ≤ c ∧ c ≤ 12) ∨ c = 23 ∨ (25 ≤ c ∧ c ≤ 136)) h h' ∧ (Gd g h' ∧ CWrise h h' x1 x2 z))) := by
  refine Ctr.ofK (by decide) rfl T_War_rise (Nat.le_of_ble_eq_true rfl) (lo := [(0, .ref (G.2.2.2 0)), (1, kI x1), (2, kI x2)]) rfl ?_
  have fx : Fx (fun c i => (6 ≤ c ∧ c ≤ 12) ∨ c = 23 ∨ (25 ≤ c ∧ c ≤ 136)) h h := Fx.rf
  have hI0 := hI
  refine K_aload_n (pc := 0) (i := 0) rfl rfl ?_
  refine K_iload_n (pc := 1) (i := 1) rfl rfl ?_
  refine K_cVI (pc := 2) (i := 2) rfl (c_War_isKite G (x1 := x1) (hI := hI) (s1 := by omega)) S_0 rfl (lv_War_97 rfl) rfl rfl rfl rfl rfl (fun v2 h2 q2 => ?_)
  obtain ⟨eh, r2⟩ := q2
  rw [eh]; clear eh
  first | refine K_if_ne 10 (pc := 5) (i := 3) rfl rfl (by omega) (fun b5 => ?_) (fun b5 => ?_) | refine K_if_ne_an 10 (pc := 5) (i := 3) rfl rfl (fun b5 => ?_) (fun b5 => ?_)
  · skip
    refine K_iload_n (pc := 10) (i := 6) rfl rfl ?_
    refine K_bipush (pc := 11) (i := 7) rfl rfl ?_
    refine K_bipush (pc := 13) (i := 8) rfl rfl ?_
    refine K_cSI (pc := 15) (i := 9) rfl (c_War_isWithin G (x0 := x2) (x1 := -8) (x2 := 8) (s0 := by omega) (s1 := by omega) (s2 := by omega)) (ls_War_124 rfl) rfl rfl rfl rfl (fun v15 h15 q15 => ?_)
    obtain ⟨eh, r15⟩ := q15
    rw [eh]; clear eh
    first | refine K_if_eq 41 (pc := 18) (i := 10) rfl rfl (by omega) (fun b18 => ?_) (fun b18 => ?_) | refine K_if_eq_an 41 (pc := 18) (i := 10) rfl rfl (fun b18 => ?_) (fun b18 => ?_)
    · skip
      refine K_bipush (pc := 41) (i := 21) rfl rfl ?_
      exact K_retI (pc := 43) (i := 22) rfl rfl ⟨fx, ⟨hI, Or.inr (Or.inl ⟨by omega, by first | (rw [← e32]; omega) | (intro q; omega), rfl, rfl⟩)⟩⟩
    · skip
      refine K_aload_n (pc := 21) (i := 11) rfl rfl ?_
      refine K_getR (pc := 22) (i := 12) (j := 1) (d := 3) rfl S_0 rfl (by decide) rfl fw_War_19 ?_
      refine K_getR (pc := 25) (i := 13) (j := 0) (d := 6) rfl (S_Sk sk3) rfl (by decide) rfl fw_War_88 ?_
      refine K_getR (pc := 28) (i := 14) (j := 3) (d := 10) rfl (S_Fl fl6) rfl (by decide) rfl fw_War_111 ?_
      refine K_iload_n (pc := 31) (i := 15) rfl rfl ?_
      refine K_iald (pc := 32) (i := 16) rfl (S_Fl4 fl6) (by omega) (by omega) (by decide) ?_
      refine K_nm (fun v32 e32 => ?_)
      have r32 := rd_height hI fl6 (x1).toNat
      rw [← e32] at r32
      refine K_iload_n (pc := 33) (i := 17) rfl rfl ?_
      refine K_iadd (pc := 34) (i := 18) rfl ?_
      refine K_cSI (pc := 35) (i := 19) rfl (c_War_isHeight G (x0 := v32 + x2) (s0 := by omega)) (ls_War_121 rfl) rfl rfl rfl rfl (fun v35 h35 q35 => ?_)
      obtain ⟨eh, r35⟩ := q35
      rw [eh]; clear eh
      first | refine K_if_ne 44 (pc := 38) (i := 20) rfl rfl (by omega) (fun b38 => ?_) (fun b38 => ?_) | refine K_if_ne_an 44 (pc := 38) (i := 20) rfl rfl (fun b38 => ?_) (fun b38 => ?_)
      · skip
        refine K_aload_n (pc := 44) (i := 23) rfl rfl ?_
        refine K_getR (pc := 45) (i := 24) (j := 3) (d := 23) rfl S_0 rfl (by decide) rfl fw_War_29 ?_
        refine K_aload_n (pc := 48) (i := 25) rfl rfl ?_
        refine K_getR (pc := 49) (i := 26) (j := 1) (d := 3) rfl S_0 rfl (by decide) rfl fw_War_19 ?_
        refine K_getR (pc := 52) (i := 27) (j := 0) (d := 6) rfl (S_Sk sk3) rfl (by decide) rfl fw_War_88 ?_
        refine K_cVV (pc := 55) (i := 28) rfl (c_Acts_remember G (f := 6) (hf := fl6) (hI := hI) (hr := by omega)) S_23 rfl (lv_War_131 rfl) rfl rfl rfl rfl rfl (fun h55 q55 => ?_)
        obtain ⟨fx55, q55⟩ := q55
        obtain ⟨hI, fa55, rm55⟩ := q55
        have fx := fx.tr fx55 (fun c i q => (by first | (dsimp only at q ⊢; omega) | omega))
        refine K_aload_n (pc := 58) (i := 29) rfl rfl ?_
        refine K_getR (pc := 59) (i := 30) (j := 1) (d := 3) rfl S_0 rfl (by decide) rfl fw_War_19 ?_
        refine K_getR (pc := 62) (i := 31) (j := 0) (d := 6) rfl (S_Sk sk3) rfl (by decide) rfl fw_War_88 ?_
        refine K_getR (pc := 65) (i := 32) (j := 3) (d := 10) rfl (S_Fl fl6) rfl (by decide) rfl fw_War_111 ?_
        refine K_iload_n (pc := 68) (i := 33) rfl rfl ?_
        refine K_dup2 (pc := 69) (i := 34) rfl rfl rfl ?_
        refine K_iald (pc := 70) (i := 35) rfl (S_Fl4 fl6) (by omega) (by omega) (by decide) ?_
        refine K_nm (fun v70 e70 => ?_)
        have r70 := rd_height hI fl6 (x1).toNat
        rw [← e70] at r70
        have t70 : v70 = v32 := by rw [e70, e32, fa55 10 (by omega)]
        refine K_iload_n (pc := 71) (i := 36) rfl rfl ?_
        refine K_iadd (pc := 72) (i := 37) rfl ?_
        refine K_iast (pc := 73) (i := 38) rfl (S_Fl4 fl6) (by omega) (by omega) (by decide) ?_
        have hI := st_height hI fl6 (i := (x1).toNat) (v := v70 + x2) (by omega)
        have fx := Fx.st (c := 10) (i := (x1).toNat) (v := v70 + x2) fx (by first | (dsimp only; omega) | omega | exact not_false)
        refine K_aload_n (pc := 74) (i := 39) rfl rfl ?_
        refine K_getR (pc := 75) (i := 40) (j := 1) (d := 3) rfl S_0 rfl (by decide) rfl fw_War_19 ?_
        refine K_getR (pc := 78) (i := 41) (j := 0) (d := 6) rfl (S_Sk sk3) rfl (by decide) rfl fw_War_88 ?_
        refine K_getR (pc := 81) (i := 42) (j := 3) (d := 10) rfl (S_Fl fl6) rfl (by decide) rfl fw_War_111 ?_
        refine K_iload_n (pc := 84) (i := 43) rfl rfl ?_
        refine K_iald (pc := 85) (i := 44) rfl (S_Fl4 fl6) (by omega) (by omega) (by decide) ?_
        refine K_nm (fun v85 e85 => ?_)
        have r85 := rd_height hI fl6 (x1).toNat
        rw [← e85] at r85
        have t85 : v85 = v32 + x2 := by rw [e85, kU_s, if_pos rfl, t70]
        exact K_retI (pc := 86) (i := 45) rfl rfl ⟨fx, ⟨hI, Or.inr (Or.inr ⟨by omega, by rw [← e32]; omega, by rw [t85, e32], AR.of (h1 := h55) ⟨rm55.1, rm55.2.1, fun c a _ q => rm55.2.2 c a q⟩ (rd_actnext hI0) (fun c a b => kU_c _ _ _ _ (by omega)), fun c a b n => (kU_c _ _ _ _ n).trans (fa55 c (by omega)), fun j => by rw [kU_s, fa55 10 (by omega), t70, e32]⟩)⟩⟩
      · skip
        refine K_bipush (pc := 41) (i := 21) rfl rfl ?_
        exact K_retI (pc := 43) (i := 22) rfl rfl ⟨fx, ⟨hI, Or.inr (Or.inl ⟨by omega, by first | (rw [← e32]; omega) | (intro q; omega), rfl, rfl⟩)⟩⟩
  · skip
    refine K_iconst (pc := 8) (i := 4) rfl ?_
    exact K_retI (pc := 9) (i := 5) rfl rfl ⟨fx, ⟨hI, Or.inl ⟨by omega, rfl, rfl⟩⟩⟩
set_option maxHeartbeats 4000000 in
set_option maxRecDepth 100000 in
theorem c_War_run (G : kG) {g : kGh} {h : kH} {x1 : Int} {x2 : Int} (s1 : kR x1) (s2 : kR x2) (hI : Gd g h) : Ctr G y_War_run X_War_run 13 [.ref (G.2.2.2 0), kI x1, kI x2] h (kQi (fun z h' => Fx (fun c i => (6 ≤ c ∧ c ≤ 12) ∨ c = 23 ∨ (25 ≤ c ∧ c ≤ 136)) h h' ∧ (Gd g h' ∧ CWrun h h' x1 x2 z))) := by
  refine Ctr.ofK (by decide) rfl T_War_run (Nat.le_of_ble_eq_true rfl) (lo := [(0, .ref (G.2.2.2 0)), (1, kI x1), (2, kI x2)]) rfl ?_
  have fx : Fx (fun c i => (6 ≤ c ∧ c ≤ 12) ∨ c = 23 ∨ (25 ≤ c ∧ c ≤ 136)) h h := Fx.rf
  have hI0 := hI
  refine K_aload_n (pc := 0) (i := 0) rfl rfl ?_
  refine K_iload_n (pc := 1) (i := 1) rfl rfl ?_
  refine K_cVI (pc := 2) (i := 2) rfl (c_War_isKite G (x1 := x1) (hI := hI) (s1 := by omega)) S_0 rfl (lv_War_97 rfl) rfl rfl rfl rfl rfl (fun v2 h2 q2 => ?_)
  obtain ⟨eh, r2⟩ := q2
  rw [eh]; clear eh
  first | refine K_if_ne 10 (pc := 5) (i := 3) rfl rfl (by omega) (fun b5 => ?_) (fun b5 => ?_) | refine K_if_ne_an 10 (pc := 5) (i := 3) rfl rfl (fun b5 => ?_) (fun b5 => ?_)
  · skip
    refine K_iload_n (pc := 10) (i := 6) rfl rfl ?_
    refine K_cSI (pc := 11) (i := 7) rfl (c_War_isStake G (x0 := x2) (s0 := by omega)) (ls_War_135 rfl) rfl rfl rfl rfl (fun v11 h11 q11 => ?_)
    obtain ⟨eh, r11⟩ := q11
    rw [eh]; clear eh
    first | refine K_if_ne 20 (pc := 14) (i := 8) rfl rfl (by omega) (fun b14 => ?_) (fun b14 => ?_) | refine K_if_ne_an 20 (pc := 14) (i := 8) rfl rfl (fun b14 => ?_) (fun b14 => ?_)
    · skip
      refine K_aload_n (pc := 20) (i := 11) rfl rfl ?_
      refine K_getR (pc := 21) (i := 12) (j := 1) (d := 3) rfl S_0 rfl (by decide) rfl fw_War_19 ?_
      refine K_getR (pc := 24) (i := 13) (j := 0) (d := 6) rfl (S_Sk sk3) rfl (by decide) rfl fw_War_88 ?_
      refine K_iload_n (pc := 27) (i := 14) rfl rfl ?_
      refine K_cVI (pc := 28) (i := 15) rfl (c_Fleet_hasStake G (f := 6) (hf := fl6) (x1 := x2) (hI := hI) (s1 := by omega)) (S_Fl fl6) rfl (lv_War_138 rfl) rfl rfl rfl rfl rfl (fun v28 h28 q28 => ?_)
      obtain ⟨eh, r28⟩ := q28
      rw [eh]; clear eh
      first | refine K_if_eq 37 (pc := 31) (i := 16) rfl rfl (by omega) (fun b31 => ?_) (fun b31 => ?_) | refine K_if_eq_an 37 (pc := 31) (i := 16) rfl rfl (fun b31 => ?_) (fun b31 => ?_)
      · skip
        refine K_aload_n (pc := 37) (i := 19) rfl rfl ?_
        refine K_getR (pc := 38) (i := 20) (j := 3) (d := 23) rfl S_0 rfl (by decide) rfl fw_War_29 ?_
        refine K_aload_n (pc := 41) (i := 21) rfl rfl ?_
        refine K_getR (pc := 42) (i := 22) (j := 1) (d := 3) rfl S_0 rfl (by decide) rfl fw_War_19 ?_
        refine K_getR (pc := 45) (i := 23) (j := 0) (d := 6) rfl (S_Sk sk3) rfl (by decide) rfl fw_War_88 ?_
        refine K_cVV (pc := 48) (i := 24) rfl (c_Acts_remember G (f := 6) (hf := fl6) (hI := hI) (hr := by omega)) S_23 rfl (lv_War_131 rfl) rfl rfl rfl rfl rfl (fun h48 q48 => ?_)
        obtain ⟨fx48, q48⟩ := q48
        obtain ⟨hI, fa48, rm48⟩ := q48
        have fx := fx.tr fx48 (fun c i q => (by first | (dsimp only at q ⊢; omega) | omega))
        refine K_aload_n (pc := 51) (i := 25) rfl rfl ?_
        refine K_getR (pc := 52) (i := 26) (j := 1) (d := 3) rfl S_0 rfl (by decide) rfl fw_War_19 ?_
        refine K_getR (pc := 55) (i := 27) (j := 0) (d := 6) rfl (S_Sk sk3) rfl (by decide) rfl fw_War_88 ?_
        refine K_getR (pc := 58) (i := 28) (j := 1) (d := 8) rfl (S_Fl fl6) rfl (by decide) rfl fw_War_105 ?_
        refine K_iload_n (pc := 61) (i := 29) rfl rfl ?_
        refine K_iald (pc := 62) (i := 30) rfl (S_Fl2 fl6) (by omega) (by omega) (by decide) ?_
        refine K_nm (fun v62 e62 => ?_)
        have r62 := rd_stake hI fl6 (x1).toNat
        rw [← e62] at r62
        have t62 : v62 = h 8 x1.toNat := by rw [e62, fa48 8 (by omega)]
        refine K_ist_n (pc := 63) (i := 31) (lo' := [(0, _), (1, _), (2, _), (3, _)]) rfl rfl rfl rfl ?_
        refine K_aload_n (pc := 64) (i := 32) rfl rfl ?_
        refine K_getR (pc := 65) (i := 33) (j := 1) (d := 3) rfl S_0 rfl (by decide) rfl fw_War_19 ?_
        refine K_getR (pc := 68) (i := 34) (j := 0) (d := 6) rfl (S_Sk sk3) rfl (by decide) rfl fw_War_88 ?_
        refine K_getR (pc := 71) (i := 35) (j := 1) (d := 8) rfl (S_Fl fl6) rfl (by decide) rfl fw_War_105 ?_
        refine K_iload_n (pc := 74) (i := 36) rfl rfl ?_
        refine K_iload_n (pc := 75) (i := 37) rfl rfl ?_
        refine K_iast (pc := 76) (i := 38) rfl (S_Fl2 fl6) (by omega) (by omega) (by decide) ?_
        have hI := st_stake hI fl6 (i := (x1).toNat) (v := x2) (by omega)
        have fx := Fx.st (c := 8) (i := (x1).toNat) (v := x2) fx (by first | (dsimp only; omega) | omega | exact not_false)
        refine K_iload_n (pc := 77) (i := 39) rfl rfl ?_
        refine K_iload_n (pc := 78) (i := 40) rfl rfl ?_
        refine K_isub (pc := 79) (i := 41) rfl ?_
        refine K_mabs (pc := 80) (i := 42) rfl mw_War_141 (by omega) (Nat.le_of_ble_eq_true rfl) ⟨Nat.le_of_ble_eq_true rfl, Nat.le_of_ble_eq_true rfl⟩ ⟨Nat.le_of_ble_eq_true rfl, Nat.le_of_ble_eq_true rfl⟩ ?_
        refine K_nm (fun v80 e80 => ?_)
        have r80 := kAbs_r (a := x2 - v62) (by omega)
        rw [← e80] at r80
        exact K_retI (pc := 83) (i := 43) rfl rfl ⟨fx, ⟨hI, Or.inr (Or.inr (Or.inr ⟨by omega, by omega, r28.elim (fun q => absurd q.1 (by omega)) (fun q => q.2), by rw [e80, t62], AR.of (h1 := h48) ⟨rm48.1, rm48.2.1, fun c a _ q => rm48.2.2 c a q⟩ (rd_actnext hI0) (fun c a b => kU_c _ _ _ _ (by omega)), fun c a b n => (kU_c _ _ _ _ n).trans (fa48 c (by omega)), fun j => by rw [kU_s, fa48 8 (by omega)]⟩))⟩⟩
      · skip
        refine K_bipush (pc := 34) (i := 17) rfl rfl ?_
        exact K_retI (pc := 36) (i := 18) rfl rfl ⟨fx, ⟨hI, Or.inr (Or.inr (Or.inl ⟨by omega, by omega, r28.elim (fun q => q.2) (fun q => absurd q.1 (by omega)), rfl, rfl⟩))⟩⟩
    · skip
      refine K_bipush (pc := 17) (i := 9) rfl rfl ?_
      exact K_retI (pc := 19) (i := 10) rfl rfl ⟨fx, ⟨hI, Or.inr (Or.inl ⟨by omega, by omega, rfl, rfl⟩)⟩⟩
  · skip
    refine K_iconst (pc := 8) (i := 4) rfl ?_
    exact K_retI (pc := 9) (i := 5) rfl rfl ⟨fx, ⟨hI, Or.inl ⟨by omega, rfl, rfl⟩⟩⟩
set_option maxHeartbeats 4000000 in
set_option maxRecDepth 100000 in
theorem c_War_launch (G : kG) {g : kGh} {h : kH} {x1 : Int} {x2 : Int} {x3 : Int} {x4 : Int} (s1 : kR x1) (s2 : kR x2) (s3 : kR x3) (s4 : kR x4) (hI : Gd g h) : Ctr G y_War_launch X_War_launch 13 [.ref (G.2.2.2 0), kI x1, kI x2, kI x3, kI x4] h (kQi (fun z h' => Fx (fun c i => (6 ≤ c ∧ c ≤ 12) ∨ c = 23 ∨ (25 ≤ c ∧ c ≤ 136)) h h' ∧ (Gd g h' ∧ CWlaunch h h' x1 x2 x3 x4 z))) := by
  refine Ctr.ofK (by decide) rfl T_War_launch (Nat.le_of_ble_eq_true rfl) (lo := [(0, .ref (G.2.2.2 0)), (1, kI x1), (2, kI x2), (3, kI x3), (4, kI x4)]) rfl ?_
  have fx : Fx (fun c i => (6 ≤ c ∧ c ≤ 12) ∨ c = 23 ∨ (25 ≤ c ∧ c ≤ 136)) h h := Fx.rf
  have hI0 := hI
  refine K_iload_n (pc := 0) (i := 0) rfl rfl ?_
  refine K_cSI (pc := 1) (i := 1) rfl (c_War_isTown G (x0 := x1) (s0 := by omega)) (ls_War_146 rfl) rfl rfl rfl rfl (fun v1 h1 q1 => ?_)
  obtain ⟨eh, r1⟩ := q1
  rw [eh]; clear eh
  first | refine K_if_eq 29 (pc := 4) (i := 2) rfl rfl (by omega) (fun b4 => ?_) (fun b4 => ?_) | refine K_if_eq_an 29 (pc := 4) (i := 2) rfl rfl (fun b4 => ?_) (fun b4 => ?_)
  · skip
    refine K_bipush (pc := 29) (i := 12) rfl rfl ?_
    exact K_retI (pc := 31) (i := 13) rfl rfl ⟨fx, ⟨hI, Or.inl ⟨by omega, rfl, rfl⟩⟩⟩
  · skip
    refine K_iload_n (pc := 7) (i := 3) rfl rfl ?_
    refine K_cSI (pc := 8) (i := 4) rfl (c_War_isStake G (x0 := x2) (s0 := by omega)) (ls_War_135 rfl) rfl rfl rfl rfl (fun v8 h8 q8 => ?_)
    obtain ⟨eh, r8⟩ := q8
    rw [eh]; clear eh
    first | refine K_if_eq 29 (pc := 11) (i := 5) rfl rfl (by omega) (fun b11 => ?_) (fun b11 => ?_) | refine K_if_eq_an 29 (pc := 11) (i := 5) rfl rfl (fun b11 => ?_) (fun b11 => ?_)
    · skip
      refine K_bipush (pc := 29) (i := 12) rfl rfl ?_
      exact K_retI (pc := 31) (i := 13) rfl rfl ⟨fx, ⟨hI, Or.inl ⟨by omega, rfl, rfl⟩⟩⟩
    · skip
      refine K_iload_n (pc := 14) (i := 6) rfl rfl ?_
      refine K_cSI (pc := 15) (i := 7) rfl (c_War_isHeight G (x0 := x3) (s0 := by omega)) (ls_War_121 rfl) rfl rfl rfl rfl (fun v15 h15 q15 => ?_)
      obtain ⟨eh, r15⟩ := q15
      rw [eh]; clear eh
      first | refine K_if_eq 29 (pc := 18) (i := 8) rfl rfl (by omega) (fun b18 => ?_) (fun b18 => ?_) | refine K_if_eq_an 29 (pc := 18) (i := 8) rfl rfl (fun b18 => ?_) (fun b18 => ?_)
      · skip
        refine K_bipush (pc := 29) (i := 12) rfl rfl ?_
        exact K_retI (pc := 31) (i := 13) rfl rfl ⟨fx, ⟨hI, Or.inl ⟨by omega, rfl, rfl⟩⟩⟩
      · skip
        refine K_iload (pc := 21) (i := 9) rfl rfl ?_
        refine K_cSI (pc := 23) (i := 10) rfl (c_War_isGlass G (x0 := x4) (s0 := by omega)) (ls_War_149 rfl) rfl rfl rfl rfl (fun v23 h23 q23 => ?_)
        obtain ⟨eh, r23⟩ := q23
        rw [eh]; clear eh
        first | refine K_if_ne 32 (pc := 26) (i := 11) rfl rfl (by omega) (fun b26 => ?_) (fun b26 => ?_) | refine K_if_ne_an 32 (pc := 26) (i := 11) rfl rfl (fun b26 => ?_) (fun b26 => ?_)
        · skip
          refine K_aload_n (pc := 32) (i := 14) rfl rfl ?_
          refine K_getR (pc := 33) (i := 15) (j := 1) (d := 3) rfl S_0 rfl (by decide) rfl fw_War_19 ?_
          refine K_getR (pc := 36) (i := 16) (j := 0) (d := 6) rfl (S_Sk sk3) rfl (by decide) rfl fw_War_88 ?_
          refine K_iload_n (pc := 39) (i := 17) rfl rfl ?_
          refine K_cVI (pc := 40) (i := 18) rfl (c_Fleet_hasStake G (f := 6) (hf := fl6) (x1 := x2) (hI := hI) (s1 := by omega)) (S_Fl fl6) rfl (lv_War_138 rfl) rfl rfl rfl rfl rfl (fun v40 h40 q40 => ?_)
          obtain ⟨eh, r40⟩ := q40
          rw [eh]; clear eh
          first | refine K_if_eq 49 (pc := 43) (i := 19) rfl rfl (by omega) (fun b43 => ?_) (fun b43 => ?_) | refine K_if_eq_an 49 (pc := 43) (i := 19) rfl rfl (fun b43 => ?_) (fun b43 => ?_)
          · skip
            refine K_aload_n (pc := 49) (i := 22) rfl rfl ?_
            refine K_getR (pc := 50) (i := 23) (j := 1) (d := 3) rfl S_0 rfl (by decide) rfl fw_War_19 ?_
            refine K_getR (pc := 53) (i := 24) (j := 0) (d := 6) rfl (S_Sk sk3) rfl (by decide) rfl fw_War_88 ?_
            refine K_getI (pc := 56) (i := 25) (j := 6) rfl (S_Fl fl6) rfl (by decide) rfl fw_War_92 ?_
            refine K_nm (fun v56 e56 => ?_)
            have r56 := rd_kites hI fl6
            rw [← e56] at r56
            refine K_bipush (pc := 59) (i := 26) rfl rfl ?_
            first | refine K_icmp_lt 67 (pc := 61) (i := 27) rfl rfl (by omega) (by omega) (fun b61 => ?_) (fun b61 => ?_) | refine K_icmp_lt_an 67 (pc := 61) (i := 27) rfl rfl (fun b61 => ?_) (fun b61 => ?_)
            · skip
              refine K_aload_n (pc := 67) (i := 30) rfl rfl ?_
              refine K_getR (pc := 68) (i := 31) (j := 3) (d := 23) rfl S_0 rfl (by decide) rfl fw_War_29 ?_
              refine K_aload_n (pc := 71) (i := 32) rfl rfl ?_
              refine K_getR (pc := 72) (i := 33) (j := 1) (d := 3) rfl S_0 rfl (by decide) rfl fw_War_19 ?_
              refine K_getR (pc := 75) (i := 34) (j := 0) (d := 6) rfl (S_Sk sk3) rfl (by decide) rfl fw_War_88 ?_
              refine K_cVV (pc := 78) (i := 35) rfl (c_Acts_remember G (f := 6) (hf := fl6) (hI := hI) (hr := by omega)) S_23 rfl (lv_War_131 rfl) rfl rfl rfl rfl rfl (fun h78 q78 => ?_)
              obtain ⟨fx78, q78⟩ := q78
              obtain ⟨hI, fa78, rm78⟩ := q78
              have fx := fx.tr fx78 (fun c i q => (by first | (dsimp only at q ⊢; omega) | omega))
              have n78 : h78 6 6 = h 6 6 := by rw [fa78 6 (by omega)]
              refine K_aload_n (pc := 81) (i := 36) rfl rfl ?_
              refine K_getR (pc := 82) (i := 37) (j := 1) (d := 3) rfl S_0 rfl (by decide) rfl fw_War_19 ?_
              refine K_getR (pc := 85) (i := 38) (j := 0) (d := 6) rfl (S_Sk sk3) rfl (by decide) rfl fw_War_88 ?_
              refine K_iload_n (pc := 88) (i := 39) rfl rfl ?_
              refine K_iload_n (pc := 89) (i := 40) rfl rfl ?_
              refine K_iload_n (pc := 90) (i := 41) rfl rfl ?_
              refine K_iload_n (pc := 91) (i := 42) rfl rfl ?_
              refine K_iload (pc := 92) (i := 43) rfl rfl ?_
              refine K_cVV (pc := 94) (i := 44) rfl (c_Fleet_add G (f := 6) (hf := fl6) (x1 := x1) (x2 := x2) (x3 := x2) (x4 := x3) (x5 := x4) (hI := hI) (s1 := by omega) (s2 := by omega) (s3 := by omega) (s4 := by omega) (s5 := by omega)) (S_Fl fl6) rfl (lv_War_152 rfl) rfl rfl rfl rfl rfl (fun h94 q94 => ?_)
              obtain ⟨fx94, q94⟩ := q94
              obtain ⟨hI, fr94, fa94⟩ := q94
              have fx := fx.tr fx94 (fun c i q => (by first | (dsimp only at q ⊢; omega) | omega))
              have fa95 := FA.of (fa94 (by omega)) fa78
              refine K_aload_n (pc := 97) (i := 45) rfl rfl ?_
              refine K_getR (pc := 98) (i := 46) (j := 1) (d := 3) rfl S_0 rfl (by decide) rfl fw_War_19 ?_
              refine K_getR (pc := 101) (i := 47) (j := 0) (d := 6) rfl (S_Sk sk3) rfl (by decide) rfl fw_War_88 ?_
              refine K_getI (pc := 104) (i := 48) (j := 6) rfl (S_Fl fl6) rfl (by decide) rfl fw_War_92 ?_
              refine K_nm (fun v104 e104 => ?_)
              have r104 := rd_kites hI fl6
              rw [← e104] at r104
              have t104 : v104 = h 6 6 + 1 := by rw [e104]; exact fa95.1
              refine K_iconst (pc := 107) (i := 49) rfl ?_
              refine K_isub (pc := 108) (i := 50) rfl ?_
              exact K_retI (pc := 109) (i := 51) rfl rfl ⟨fx, ⟨hI, Or.inr (Or.inr (Or.inr ⟨by omega, r40.elim (fun q => absurd q.1 (by omega)) (fun q => q.2), by omega, by omega, AR.of (h1 := h78) ⟨rm78.1, rm78.2.1, fun c a _ q => rm78.2.2 c a q⟩ (rd_actnext hI0) (fun c a b => fr94 c (by omega)), fa95⟩))⟩⟩
            · skip
              refine K_bipush (pc := 64) (i := 28) rfl rfl ?_
              exact K_retI (pc := 66) (i := 29) rfl rfl ⟨fx, ⟨hI, Or.inr (Or.inr (Or.inl ⟨by omega, r40.elim (fun q => absurd q.1 (by omega)) (fun q => q.2), by omega, rfl, rfl⟩))⟩⟩
          · skip
            refine K_bipush (pc := 46) (i := 20) rfl rfl ?_
            exact K_retI (pc := 48) (i := 21) rfl rfl ⟨fx, ⟨hI, Or.inr (Or.inl ⟨by omega, r40.elim (fun q => q.2) (fun q => absurd q.1 (by omega)), rfl, rfl⟩)⟩⟩
        · skip
          refine K_bipush (pc := 29) (i := 12) rfl rfl ?_
          exact K_retI (pc := 31) (i := 13) rfl rfl ⟨fx, ⟨hI, Or.inl ⟨by omega, rfl, rfl⟩⟩⟩
set_option maxHeartbeats 4000000 in
set_option maxRecDepth 100000 in
theorem c_War_takeIn (G : kG) {g : kGh} {h : kH} {x1 : Int} (s1 : kR x1) (hI : Gd g h) : Ctr G y_War_takeIn X_War_takeIn 13 [.ref (G.2.2.2 0), kI x1] h (kQi (fun z h' => Fx (fun c i => (6 ≤ c ∧ c ≤ 12) ∨ c = 23 ∨ (25 ≤ c ∧ c ≤ 136)) h h' ∧ (Gd g h' ∧ CWtakeIn h h' x1 z))) := by
  refine Ctr.ofK (by decide) rfl T_War_takeIn (Nat.le_of_ble_eq_true rfl) (lo := [(0, .ref (G.2.2.2 0)), (1, kI x1)]) rfl ?_
  have fx : Fx (fun c i => (6 ≤ c ∧ c ≤ 12) ∨ c = 23 ∨ (25 ≤ c ∧ c ≤ 136)) h h := Fx.rf
  have hI0 := hI
  refine K_aload_n (pc := 0) (i := 0) rfl rfl ?_
  refine K_iload_n (pc := 1) (i := 1) rfl rfl ?_
  refine K_cVI (pc := 2) (i := 2) rfl (c_War_isKite G (x1 := x1) (hI := hI) (s1 := by omega)) S_0 rfl (lv_War_97 rfl) rfl rfl rfl rfl rfl (fun v2 h2 q2 => ?_)
  obtain ⟨eh, r2⟩ := q2
  rw [eh]; clear eh
  first | refine K_if_ne 10 (pc := 5) (i := 3) rfl rfl (by omega) (fun b5 => ?_) (fun b5 => ?_) | refine K_if_ne_an 10 (pc := 5) (i := 3) rfl rfl (fun b5 => ?_) (fun b5 => ?_)
  · skip
    refine K_aload_n (pc := 10) (i := 6) rfl rfl ?_
    refine K_getR (pc := 11) (i := 7) (j := 3) (d := 23) rfl S_0 rfl (by decide) rfl fw_War_29 ?_
    refine K_aload_n (pc := 14) (i := 8) rfl rfl ?_
    refine K_getR (pc := 15) (i := 9) (j := 1) (d := 3) rfl S_0 rfl (by decide) rfl fw_War_19 ?_
    refine K_getR (pc := 18) (i := 10) (j := 0) (d := 6) rfl (S_Sk sk3) rfl (by decide) rfl fw_War_88 ?_
    refine K_cVV (pc := 21) (i := 11) rfl (c_Acts_remember G (f := 6) (hf := fl6) (hI := hI) (hr := by omega)) S_23 rfl (lv_War_131 rfl) rfl rfl rfl rfl rfl (fun h21 q21 => ?_)
    obtain ⟨fx21, q21⟩ := q21
    obtain ⟨hI, fa21, rm21⟩ := q21
    have fx := fx.tr fx21 (fun c i q => (by first | (dsimp only at q ⊢; omega) | omega))
    refine K_aload_n (pc := 24) (i := 12) rfl rfl ?_
    refine K_getR (pc := 25) (i := 13) (j := 1) (d := 3) rfl S_0 rfl (by decide) rfl fw_War_19 ?_
    refine K_getR (pc := 28) (i := 14) (j := 0) (d := 6) rfl (S_Sk sk3) rfl (by decide) rfl fw_War_88 ?_
    refine K_iconst (pc := 31) (i := 15) rfl ?_
    refine K_iload_n (pc := 32) (i := 16) rfl rfl ?_
    refine K_ishl (pc := 33) (i := 17) rfl ?_
    refine K_nm (fun v33 e33 => ?_)
    have r33 := kShl_R 1 x1
    rw [← e33] at r33
    refine K_cVV (pc := 34) (i := 18) rfl (c_Fleet_drop G (f := 6) (hf := fl6) (x1 := v33) (hI := hI)) (S_Fl fl6) rfl (lv_War_156 rfl) rfl rfl rfl rfl rfl (fun h34 q34 => ?_)
    obtain ⟨fx34, q34⟩ := q34
    obtain ⟨hI, fd34⟩ := q34
    have fx := fx.tr fx34 (fun c i q => (by first | (dsimp only at q ⊢; omega) | omega))
    rw [e33] at fd34
    refine K_aload_n (pc := 37) (i := 19) rfl rfl ?_
    refine K_getR (pc := 38) (i := 20) (j := 1) (d := 3) rfl S_0 rfl (by decide) rfl fw_War_19 ?_
    refine K_getR (pc := 41) (i := 21) (j := 0) (d := 6) rfl (S_Sk sk3) rfl (by decide) rfl fw_War_88 ?_
    refine K_getI (pc := 44) (i := 22) (j := 6) rfl (S_Fl fl6) rfl (by decide) rfl fw_War_92 ?_
    refine K_nm (fun v44 e44 => ?_)
    have r44 := rd_kites hI fl6
    rw [← e44] at r44
    exact K_retI (pc := 47) (i := 23) rfl rfl ⟨fx, ⟨hI, Or.inr ⟨by omega, e44, AR.of (h1 := h21) ⟨rm21.1, rm21.2.1, fun c a _ q => rm21.2.2 c a q⟩ (rd_actnext hI0) (fun c a b => fx34.cell c (fun i => (by first | (dsimp only; omega) | omega))), fd34.of fa21⟩⟩⟩
  · skip
    refine K_iconst (pc := 8) (i := 4) rfl ?_
    exact K_retI (pc := 9) (i := 5) rfl rfl ⟨fx, ⟨hI, Or.inl ⟨by omega, rfl, rfl⟩⟩⟩
set_option maxHeartbeats 4000000 in
set_option maxRecDepth 100000 in
theorem c_War_gust (G : kG) {g : kGh} {h : kH}  (hI : Gd g h) : Ctr G y_War_gust X_War_gust 13 [.ref (G.2.2.2 0)] h (kQi (fun z h' => Fx (fun c i => (5 ≤ c ∧ c ≤ 12) ∨ c = 23 ∨ (25 ≤ c ∧ c ≤ 136)) h h' ∧ (Gd g h' ∧ CWgust h h' z))) := by
  refine Ctr.ofK (by decide) rfl T_War_gust (Nat.le_of_ble_eq_true rfl) (lo := [(0, .ref (G.2.2.2 0))]) rfl ?_
  have fx : Fx (fun c i => (5 ≤ c ∧ c ≤ 12) ∨ c = 23 ∨ (25 ≤ c ∧ c ≤ 136)) h h := Fx.rf
  have hI0 := hI
  refine K_aload_n (pc := 0) (i := 0) rfl rfl ?_
  refine K_getR (pc := 1) (i := 1) (j := 3) (d := 23) rfl S_0 rfl (by decide) rfl fw_War_29 ?_
  refine K_aload_n (pc := 4) (i := 2) rfl rfl ?_
  refine K_getR (pc := 5) (i := 3) (j := 1) (d := 3) rfl S_0 rfl (by decide) rfl fw_War_19 ?_
  refine K_getR (pc := 8) (i := 4) (j := 0) (d := 6) rfl (S_Sk sk3) rfl (by decide) rfl fw_War_88 ?_
  refine K_cVV (pc := 11) (i := 5) rfl (c_Acts_remember G (f := 6) (hf := fl6) (hI := hI) (hr := by omega)) S_23 rfl (lv_War_131 rfl) rfl rfl rfl rfl rfl (fun h11 q11 => ?_)
  obtain ⟨fx11, q11⟩ := q11
  obtain ⟨hI, fa11, rm11⟩ := q11
  have fx := fx.tr fx11 (fun c i q => (by first | (dsimp only at q ⊢; omega) | omega))
  refine K_aload_n (pc := 14) (i := 6) rfl rfl ?_
  refine K_getR (pc := 15) (i := 7) (j := 1) (d := 3) rfl S_0 rfl (by decide) rfl fw_War_19 ?_
  refine K_cVI (pc := 18) (i := 8) rfl (c_Sky_blow G (s := 3) (hs := sk3) (hI := hI)) (S_Sk sk3) rfl (lv_War_160 rfl) rfl rfl rfl rfl rfl (fun v18 h18 q18 => ?_)
  obtain ⟨fx18, q18⟩ := q18
  obtain ⟨hI, r18, bw18⟩ := q18
  have fx := fx.tr fx18 (fun c i q => (by first | (dsimp only at q ⊢; omega) | omega))
  exact K_retI (pc := 21) (i := 9) rfl rfl ⟨fx, ⟨hI, by omega, AR.of (h1 := h11) ⟨rm11.1, rm11.2.1, fun c a _ q => rm11.2.2 c a q⟩ (rd_actnext hI0) (fun c a b => fx18.cell c (fun i => (by first | (dsimp only; omega) | omega))), bw18.of fa11⟩⟩
set_option maxHeartbeats 4000000 in
set_option maxRecDepth 100000 in
theorem c_War_undo (G : kG) {g : kGh} {h : kH}  (hI : Gd g h) : Ctr G y_War_undo X_War_undo 13 [.ref (G.2.2.2 0)] h (kQi (fun z h' => Fx (fun c i => (6 ≤ c ∧ c ≤ 12) ∨ c = 23) h h' ∧ (Gd g h' ∧ CWundo h h' z))) := by
  refine Ctr.ofK (by decide) rfl T_War_undo (Nat.le_of_ble_eq_true rfl) (lo := [(0, .ref (G.2.2.2 0))]) rfl ?_
  have fx : Fx (fun c i => (6 ≤ c ∧ c ≤ 12) ∨ c = 23) h h := Fx.rf
  refine K_aload_n (pc := 0) (i := 0) rfl rfl ?_
  refine K_getR (pc := 1) (i := 1) (j := 3) (d := 23) rfl S_0 rfl (by decide) rfl fw_War_29 ?_
  refine K_aload_n (pc := 4) (i := 2) rfl rfl ?_
  refine K_getR (pc := 5) (i := 3) (j := 1) (d := 3) rfl S_0 rfl (by decide) rfl fw_War_19 ?_
  refine K_getR (pc := 8) (i := 4) (j := 0) (d := 6) rfl (S_Sk sk3) rfl (by decide) rfl fw_War_88 ?_
  refine K_cVI (pc := 11) (i := 5) rfl (c_Acts_takeBack G (f := 6) (hf := fl6) (hI := hI) (hr := by omega)) S_23 rfl (lv_War_163 rfl) rfl rfl rfl rfl rfl (fun v11 h11 q11 => ?_)
  obtain ⟨fx11, q11⟩ := q11
  obtain ⟨hI, r11⟩ := q11
  have fx := fx.tr fx11 (fun c i q => (by first | (dsimp only at q ⊢; omega) | omega))
  have k11 : v11 = 0 ∨ v11 = 1 := r11.elim (fun q => Or.inl q.1) (fun q => Or.inr q.1)
  first | refine K_if_eq 27 (pc := 14) (i := 6) rfl rfl (by omega) (fun b14 => ?_) (fun b14 => ?_) | refine K_if_eq_an 27 (pc := 14) (i := 6) rfl rfl (fun b14 => ?_) (fun b14 => ?_)
  · skip
    refine K_bipush (pc := 27) (i := 11) rfl rfl ?_
    exact K_retI (pc := 29) (i := 12) rfl rfl ⟨fx, (by first | exact ⟨hI, Or.inl (r11.elim (fun q => ⟨q.2.1, rfl, q.2.2⟩) (fun q => absurd q.1 (by omega)))⟩ | exact ⟨hI, Or.inr (r11.elim (fun q => absurd q.1 (by omega)) (fun q => ⟨q.2.1, e21.trans q.2.2.2.1, q.2.2⟩))⟩)⟩
  · skip
    refine K_aload_n (pc := 17) (i := 7) rfl rfl ?_
    refine K_getR (pc := 18) (i := 8) (j := 3) (d := 23) rfl S_0 rfl (by decide) rfl fw_War_29 ?_
    refine K_getI (pc := 21) (i := 9) (j := 2) rfl S_23 rfl (by decide) rfl fw_War_167 ?_
    refine K_nm (fun v21 e21 => ?_)
    have r21 := rd_actsize hI
    rw [← e21] at r21
    refine K_goto 29 (pc := 24) (i := 10) rfl rfl ?_
    exact K_retI (pc := 29) (i := 12) rfl rfl ⟨fx, (by first | exact ⟨hI, Or.inl (r11.elim (fun q => ⟨q.2.1, rfl, q.2.2⟩) (fun q => absurd q.1 (by omega)))⟩ | exact ⟨hI, Or.inr (r11.elim (fun q => absurd q.1 (by omega)) (fun q => ⟨q.2.1, e21.trans q.2.2.2.1, q.2.2⟩))⟩)⟩
set_option maxHeartbeats 4000000 in
set_option maxRecDepth 100000 in
theorem c_War_cross (G : kG) {g : kGh} {h : kH} {x1 : Int} {x2 : Int} (s1 : kR x1) (s2 : kR x2) (hI : Gd g h) : Ctr G y_War_cross X_War_cross 13 [.ref (G.2.2.2 0), kI x1, kI x2] h (kQi (fun z h' => Fx (fun c i => False) h h' ∧ (Gd g h' ∧ CWcross h x1 x2 z))) := by
  refine Ctr.ofK (by decide) rfl T_War_cross (Nat.le_of_ble_eq_true rfl) (lo := [(0, .ref (G.2.2.2 0)), (1, kI x1), (2, kI x2)]) rfl ?_
  have fx : Fx (fun c i => False) h h := Fx.rf
  refine K_aload_n (pc := 0) (i := 0) rfl rfl ?_
  refine K_iload_n (pc := 1) (i := 1) rfl rfl ?_
  refine K_iload_n (pc := 2) (i := 2) rfl rfl ?_
  refine K_cVI (pc := 3) (i := 3) rfl (c_War_refusalOfPair G (x1 := x1) (x2 := x2) (hI := hI) (s1 := by omega) (s2 := by omega)) S_0 rfl (lv_War_170 rfl) rfl rfl rfl rfl rfl (fun v3 h3 q3 => ?_)
  obtain ⟨eh, r3⟩ := q3
  rw [eh]; clear eh
  refine K_ist_n (pc := 6) (i := 4) (lo' := [(0, _), (1, _), (2, _), (3, _)]) rfl rfl rfl rfl ?_
  refine K_iload_n (pc := 7) (i := 5) rfl rfl ?_
  first | refine K_if_eq 13 (pc := 8) (i := 6) rfl rfl (by omega) (fun b8 => ?_) (fun b8 => ?_) | refine K_if_eq_an 13 (pc := 8) (i := 6) rfl rfl (fun b8 => ?_) (fun b8 => ?_)
  · skip
    refine K_aload_n (pc := 13) (i := 9) rfl rfl ?_
    refine K_getR (pc := 14) (i := 10) (j := 1) (d := 3) rfl S_0 rfl (by decide) rfl fw_War_19 ?_
    refine K_getR (pc := 17) (i := 11) (j := 0) (d := 6) rfl (S_Sk sk3) rfl (by decide) rfl fw_War_88 ?_
    refine K_iload_n (pc := 20) (i := 12) rfl rfl ?_
    refine K_iload_n (pc := 21) (i := 13) rfl rfl ?_
    refine K_cVI (pc := 22) (i := 14) rfl (c_Fleet_meet G (f := 6) (hf := fl6) (x1 := x1) (x2 := x2) (hI := hI) (s1 := by omega) (s2 := by omega)) (S_Fl fl6) rfl (lv_War_174 rfl) rfl rfl rfl rfl rfl (fun v22 h22 q22 => ?_)
    obtain ⟨eh, r22⟩ := q22
    rw [eh]; clear eh
    first | refine K_if_eq 32 (pc := 25) (i := 15) rfl rfl (by omega) (fun b25 => ?_) (fun b25 => ?_) | refine K_if_eq_an 32 (pc := 25) (i := 15) rfl rfl (fun b25 => ?_) (fun b25 => ?_)
    · skip
      refine K_iconst (pc := 32) (i := 18) rfl ?_
      exact K_retI (pc := 33) (i := 19) rfl rfl ⟨fx, (by first | exact ⟨hI, Or.inr (Or.inr ⟨by omega, by omega, Or.inl ⟨rfl, r22.elim (fun q => q.2) (fun q => absurd q.1 (by omega))⟩⟩)⟩ | exact ⟨hI, Or.inr (Or.inr ⟨by omega, by omega, Or.inr ⟨rfl, r22.elim (fun q => absurd q.1 (by omega)) (fun q => q.2)⟩⟩)⟩)⟩
    · skip
      refine K_iconst (pc := 28) (i := 16) rfl ?_
      refine K_goto 33 (pc := 29) (i := 17) rfl rfl ?_
      exact K_retI (pc := 33) (i := 19) rfl rfl ⟨fx, (by first | exact ⟨hI, Or.inr (Or.inr ⟨by omega, by omega, Or.inl ⟨rfl, r22.elim (fun q => q.2) (fun q => absurd q.1 (by omega))⟩⟩)⟩ | exact ⟨hI, Or.inr (Or.inr ⟨by omega, by omega, Or.inr ⟨rfl, r22.elim (fun q => absurd q.1 (by omega)) (fun q => q.2)⟩⟩)⟩)⟩
  · skip
    refine K_iload_n (pc := 11) (i := 7) rfl rfl ?_
    exact K_retI (pc := 12) (i := 8) rfl rfl ⟨fx, (by first | exact ⟨hI, Or.inl ⟨by omega, by omega⟩⟩ | exact ⟨hI, by rcases r3.2 with q | q | q; exact Or.inl ⟨q.2, q.1⟩; exact Or.inr (Or.inl ⟨q.2.1, q.2.2, q.1⟩); exact absurd q.1 (by omega)⟩)⟩
set_option maxHeartbeats 4000000 in
set_option maxRecDepth 100000 in
theorem c_War_see (G : kG) {g : kGh} {h : kH} {x1 : Int} {x2 : Int} {x3 : Int} (s1 : kR x1) (s2 : kR x2) (s3 : x3 = 0 ∨ x3 = 1) (hI : Gd g h) : Ctr G y_War_see X_War_see 13 [.ref (G.2.2.2 0), kI x1, kI x2, kI x3] h (kQi (fun z h' => Fx (fun c i => 169 ≤ c ∧ c ≤ 172) h h' ∧ (Gd g h' ∧ CWsee h h' x1 x2 x3 z))) := by
  refine Ctr.ofK (by decide) rfl T_War_see (Nat.le_of_ble_eq_true rfl) (lo := [(0, .ref (G.2.2.2 0)), (1, kI x1), (2, kI x2), (3, kI x3)]) rfl ?_
  have fx : Fx (fun c i => 169 ≤ c ∧ c ≤ 172) h h := Fx.rf
  refine K_aload_n (pc := 0) (i := 0) rfl rfl ?_
  refine K_iload_n (pc := 1) (i := 1) rfl rfl ?_
  refine K_cVI (pc := 2) (i := 2) rfl (c_War_isSeenKite G (x1 := x1) (hI := hI) (s1 := by omega)) S_0 rfl (lv_War_223 rfl) rfl rfl rfl rfl rfl (fun v2 h2 q2 => ?_)
  obtain ⟨eh, r2⟩ := q2
  rw [eh]; clear eh
  first | refine K_if_eq 16 (pc := 5) (i := 3) rfl rfl (by omega) (fun b5 => ?_) (fun b5 => ?_) | refine K_if_eq_an 16 (pc := 5) (i := 3) rfl rfl (fun b5 => ?_) (fun b5 => ?_)
  · skip
    refine K_iconst (pc := 16) (i := 8) rfl ?_
    exact K_retI (pc := 17) (i := 9) rfl rfl ⟨fx, ⟨hI, Or.inl ⟨by omega, rfl, rfl⟩⟩⟩
  · skip
    refine K_aload_n (pc := 8) (i := 4) rfl rfl ?_
    refine K_iload_n (pc := 9) (i := 5) rfl rfl ?_
    refine K_cVI (pc := 10) (i := 6) rfl (c_War_isSeenKite G (x1 := x2) (hI := hI) (s1 := by omega)) S_0 rfl (lv_War_223 rfl) rfl rfl rfl rfl rfl (fun v10 h10 q10 => ?_)
    obtain ⟨eh, r10⟩ := q10
    rw [eh]; clear eh
    first | refine K_if_ne 18 (pc := 13) (i := 7) rfl rfl (by omega) (fun b13 => ?_) (fun b13 => ?_) | refine K_if_ne_an 18 (pc := 13) (i := 7) rfl rfl (fun b13 => ?_) (fun b13 => ?_)
    · skip
      refine K_iload_n (pc := 18) (i := 10) rfl rfl ?_
      refine K_iload_n (pc := 19) (i := 11) rfl rfl ?_
      first | refine K_icmp_ne 26 (pc := 20) (i := 12) rfl rfl (by omega) (by omega) (fun b20 => ?_) (fun b20 => ?_) | refine K_icmp_ne_an 26 (pc := 20) (i := 12) rfl rfl (fun b20 => ?_) (fun b20 => ?_)
      · skip
        refine K_aload_n (pc := 26) (i := 15) rfl rfl ?_
        refine K_getR (pc := 27) (i := 16) (j := 6) (d := 169) rfl S_0 rfl (by decide) rfl fw_War_49 ?_
        refine K_iload_n (pc := 30) (i := 17) rfl rfl ?_
        refine K_iload_n (pc := 31) (i := 18) rfl rfl ?_
        refine K_iload_n (pc := 32) (i := 19) rfl rfl ?_
        refine K_cVI (pc := 33) (i := 20) rfl (c_Seen_add G (x1 := x1) (x2 := x2) (x3 := x3) (hI := hI) (s1 := by omega) (s2 := by omega) (s3 := by omega)) S_169 rfl (lv_War_226 rfl) rfl rfl rfl rfl rfl (fun v33 h33 q33 => ?_)
        obtain ⟨fx33, q33⟩ := q33
        obtain ⟨hI, r33⟩ := q33
        have fx := fx.tr fx33 (fun c i q => (by first | (dsimp only at q ⊢; omega) | omega))
        have k33 : v33 = 0 ∨ v33 = 1 := r33.elim (fun q => Or.inl q.1) (fun q => Or.inr q.1)
        first | refine K_if_eq 49 (pc := 36) (i := 21) rfl rfl (by omega) (fun b36 => ?_) (fun b36 => ?_) | refine K_if_eq_an 49 (pc := 36) (i := 21) rfl rfl (fun b36 => ?_) (fun b36 => ?_)
        · skip
          refine K_bipush (pc := 49) (i := 26) rfl rfl ?_
          exact K_retI (pc := 51) (i := 27) rfl rfl ⟨fx, (by first | exact ⟨hI, Or.inr (Or.inr (Or.inl (r33.elim (fun q => ⟨by omega, by omega, q.2.1, rfl, q.2.2⟩) (fun q => absurd q.1 (by omega)))))⟩ | exact ⟨hI, Or.inr (Or.inr (Or.inr (r33.elim (fun q => absurd q.1 (by omega)) (fun q => ⟨by omega, by omega, q.2.1, e43.trans q.2.2.1, q.2.2⟩))))⟩)⟩
        · skip
          refine K_aload_n (pc := 39) (i := 22) rfl rfl ?_
          refine K_getR (pc := 40) (i := 23) (j := 6) (d := 169) rfl S_0 rfl (by decide) rfl fw_War_49 ?_
          refine K_getI (pc := 43) (i := 24) (j := 6) rfl S_169 rfl (by decide) rfl fw_War_229 ?_
          refine K_nm (fun v43 e43 => ?_)
          have r43 := rd_seensize hI
          rw [← e43] at r43
          refine K_goto 51 (pc := 46) (i := 25) rfl rfl ?_
          exact K_retI (pc := 51) (i := 27) rfl rfl ⟨fx, (by first | exact ⟨hI, Or.inr (Or.inr (Or.inl (r33.elim (fun q => ⟨by omega, by omega, q.2.1, rfl, q.2.2⟩) (fun q => absurd q.1 (by omega)))))⟩ | exact ⟨hI, Or.inr (Or.inr (Or.inr (r33.elim (fun q => absurd q.1 (by omega)) (fun q => ⟨by omega, by omega, q.2.1, e43.trans q.2.2.1, q.2.2⟩))))⟩)⟩
      · skip
        refine K_bipush (pc := 23) (i := 13) rfl rfl ?_
        exact K_retI (pc := 25) (i := 14) rfl rfl ⟨fx, ⟨hI, Or.inr (Or.inl ⟨by omega, by omega, rfl, rfl⟩)⟩⟩
    · skip
      refine K_iconst (pc := 16) (i := 8) rfl ?_
      exact K_retI (pc := 17) (i := 9) rfl rfl ⟨fx, ⟨hI, Or.inl ⟨by omega, rfl, rfl⟩⟩⟩
set_option maxHeartbeats 4000000 in
set_option maxRecDepth 100000 in
theorem c_War_unsee (G : kG) {g : kGh} {h : kH}  (hI : Gd g h) : Ctr G y_War_unsee X_War_unsee 13 [.ref (G.2.2.2 0)] h (kQi (fun z h' => Fx (fun c i => 169 ≤ c ∧ c ≤ 172) h h' ∧ (Gd g h' ∧ z = h 169 6 ∧ h' 169 6 = 0 ∧ h' 170 = h 170 ∧ h' 171 = h 171 ∧ h' 172 = h 172))) := by
  refine Ctr.ofK (by decide) rfl T_War_unsee (Nat.le_of_ble_eq_true rfl) (lo := [(0, .ref (G.2.2.2 0))]) rfl ?_
  have fx : Fx (fun c i => 169 ≤ c ∧ c ≤ 172) h h := Fx.rf
  refine K_aload_n (pc := 0) (i := 0) rfl rfl ?_
  refine K_getR (pc := 1) (i := 1) (j := 6) (d := 169) rfl S_0 rfl (by decide) rfl fw_War_49 ?_
  refine K_getI (pc := 4) (i := 2) (j := 6) rfl S_169 rfl (by decide) rfl fw_War_229 ?_
  refine K_nm (fun v4 e4 => ?_)
  have r4 := rd_seensize hI
  rw [← e4] at r4
  refine K_ist_n (pc := 7) (i := 3) (lo' := [(0, _), (1, _)]) rfl rfl rfl rfl ?_
  refine K_aload_n (pc := 8) (i := 4) rfl rfl ?_
  refine K_getR (pc := 9) (i := 5) (j := 6) (d := 169) rfl S_0 rfl (by decide) rfl fw_War_49 ?_
  refine K_iconst (pc := 12) (i := 6) rfl ?_
  refine K_putI (pc := 13) (i := 7) (j := 6) rfl S_169 rfl (by decide) rfl rfl rfl fw_War_229 ?_
  have hI := st_seensize hI (v := 0) (by omega)
  have fx := Fx.st (c := 169) (i := 6) (v := 0) fx (by first | (dsimp only; omega) | omega | exact not_false)
  refine K_iload_n (pc := 16) (i := 8) rfl rfl ?_
  exact K_retI (pc := 17) (i := 9) rfl rfl ⟨fx, ⟨hI, e4, by rw [kU_at, if_pos ⟨rfl, rfl⟩], kU_c _ _ _ _ (by decide), kU_c _ _ _ _ (by decide), kU_c _ _ _ _ (by decide)⟩⟩
set_option maxHeartbeats 4000000 in
set_option maxRecDepth 100000 in
theorem c_War_keep (G : kG) {g : kGh} {h : kH} {x1 : Int} (s1 : kR x1) (hI : Gd g h) : Ctr G y_War_keep X_War_keep 13 [.ref (G.2.2.2 0), kI x1] h (kQi (fun z h' => Fx (fun c i => 138 ≤ c ∧ c ≤ 159) h h' ∧ (Gd g h' ∧ CWkeep h h' x1 z))) := by
  refine Ctr.ofK (by decide) rfl T_War_keep (Nat.le_of_ble_eq_true rfl) (lo := [(0, .ref (G.2.2.2 0)), (1, kI x1)]) rfl ?_
  have fx : Fx (fun c i => 138 ≤ c ∧ c ≤ 159) h h := Fx.rf
  refine K_iload_n (pc := 0) (i := 0) rfl rfl ?_
  refine K_iconst (pc := 1) (i := 1) rfl ?_
  refine K_iconst (pc := 2) (i := 2) rfl ?_
  refine K_cSI (pc := 3) (i := 3) rfl (c_War_isWithin G (x0 := x1) (x1 := 0) (x2 := 1) (s0 := by omega) (s1 := by omega) (s2 := by omega)) (ls_War_124 rfl) rfl rfl rfl rfl (fun v3 h3 q3 => ?_)
  obtain ⟨eh, r3⟩ := q3
  rw [eh]; clear eh
  first | refine K_if_ne 11 (pc := 6) (i := 4) rfl rfl (by omega) (fun b6 => ?_) (fun b6 => ?_) | refine K_if_ne_an 11 (pc := 6) (i := 4) rfl rfl (fun b6 => ?_) (fun b6 => ?_)
  · skip
    refine K_aload_n (pc := 11) (i := 7) rfl rfl ?_
    refine K_getR (pc := 12) (i := 8) (j := 4) (d := 137) rfl S_0 rfl (by decide) rfl fw_War_35 ?_
    refine K_iload_n (pc := 15) (i := 9) rfl rfl ?_
    obtain ⟨q16, hq16, hsq16⟩ := slotAt (a := x1) (by omega) (by omega)
    refine K_aald (pc := 16) (i := 10) (q := q16) rfl S_137 (by decide) (by omega) (by simp; omega) (by decide) hq16 ?_
    obtain ⟨hp16, hr16⟩ := slotAt2 hq16
    refine K_getR (pc := 17) (i := 11) (j := 0) (d := q16 + 1) rfl (S_Sl hsq16) rfl (by decide) rfl fw_War_245 ?_
    refine K_aload_n (pc := 20) (i := 12) rfl rfl ?_
    refine K_getR (pc := 21) (i := 13) (j := 1) (d := 3) rfl S_0 rfl (by decide) rfl fw_War_19 ?_
    refine K_cVV (pc := 24) (i := 14) rfl (c_Sky_copyFrom G (s := q16 + 1) (hs := (sl_sk hsq16)) (s2 := 3) (hs2 := sk3) (hI := hI) (dj := by omega)) (S_Sk (sl_sk hsq16)) rfl (lv_War_201 rfl) rfl rfl rfl rfl rfl (fun h24 q24 => ?_)
    obtain ⟨fx24, q24⟩ := q24
    obtain ⟨hI, fc24, wc24⟩ := q24
    have fx := fx.tr fx24 (fun c i q => (by first | (dsimp only at q ⊢; omega) | omega))
    have hqe : q16 = 138 + 11 * x1.toNat := by omega
    refine K_aload_n (pc := 27) (i := 15) rfl rfl ?_
    refine K_getR (pc := 28) (i := 16) (j := 4) (d := 137) rfl S_0 rfl (by decide) rfl fw_War_35 ?_
    refine K_iload_n (pc := 31) (i := 17) rfl rfl ?_
    obtain ⟨q32, hq32, hsq32⟩ := slotAt (a := x1) (by omega) (by omega)
    refine K_aald (pc := 32) (i := 18) (q := q32) rfl S_137 (by decide) (by omega) (by simp; omega) (by decide) hq32 ?_
    obtain ⟨hp32, hr32⟩ := slotAt2 hq32
    have hqf : q32 = 138 + 11 * x1.toNat := by omega
    refine K_iconst (pc := 33) (i := 19) rfl ?_
    refine K_putB (pc := 34) (i := 20) (j := 1) rfl (S_Sl hsq32) rfl (by decide) rfl rfl rfl fw_War_84 (by omega) ?_
    have hI := st_used hI hsq32 (v := 1) (by omega)
    have fx := Fx.st (c := q32) (i := 1) (v := 1) fx (by first | (dsimp only; omega) | omega | exact not_false)
    refine K_aload_n (pc := 37) (i := 21) rfl rfl ?_
    refine K_getR (pc := 38) (i := 22) (j := 1) (d := 3) rfl S_0 rfl (by decide) rfl fw_War_19 ?_
    refine K_getR (pc := 41) (i := 23) (j := 0) (d := 6) rfl (S_Sk sk3) rfl (by decide) rfl fw_War_88 ?_
    refine K_getI (pc := 44) (i := 24) (j := 6) rfl (S_Fl fl6) rfl (by decide) rfl fw_War_92 ?_
    refine K_nm (fun v44 e44 => ?_)
    have r44 := rd_kites hI fl6
    rw [← e44] at r44
    have t44 : v44 = h 6 6 := by rw [e44, kU_c _ _ _ _ (by omega), fx24.cell 6 (fun i => (by first | (dsimp only; omega) | omega))]
    exact K_retI (pc := 47) (i := 25) rfl rfl ⟨fx, ⟨hI, Or.inr ⟨by omega, t44, by rw [kU_at, if_pos ⟨by omega, rfl⟩], by rw [show 142 + 11 * x1.toNat = q16 + 1 + 3 by omega]; exact fc24.tr (FC.same (fun c a b => kU_c _ _ _ _ (by omega))), fun i hi => by rw [kU_c _ _ _ _ (by omega), show 140 + 11 * x1.toNat = q16 + 1 + 1 by omega, wc24 i, if_pos hi], fun c hc => (kU_c _ _ _ _ (by omega)).trans (fx24.cell c (fun i => (by first | (dsimp only; omega) | omega)))⟩⟩⟩
  · skip
    refine K_iconst (pc := 9) (i := 5) rfl ?_
    exact K_retI (pc := 10) (i := 6) rfl rfl ⟨fx, ⟨hI, Or.inl ⟨by omega, rfl, rfl⟩⟩⟩
set_option maxHeartbeats 4000000 in
set_option maxRecDepth 100000 in
theorem c_War_again (G : kG) {g : kGh} {h : kH} {x1 : Int} (s1 : kR x1) (hI : Gd g h) : Ctr G y_War_again X_War_again 13 [.ref (G.2.2.2 0), kI x1] h (kQi (fun z h' => Fx (fun c i => c = 4 ∨ (6 ≤ c ∧ c ≤ 12) ∨ c = 23) h h' ∧ (Gd g h' ∧ CWagain h h' x1 z))) := by
  refine Ctr.ofK (by decide) rfl T_War_again (Nat.le_of_ble_eq_true rfl) (lo := [(0, .ref (G.2.2.2 0)), (1, kI x1)]) rfl ?_
  have fx : Fx (fun c i => c = 4 ∨ (6 ≤ c ∧ c ≤ 12) ∨ c = 23) h h := Fx.rf
  refine K_iload_n (pc := 0) (i := 0) rfl rfl ?_
  refine K_iconst (pc := 1) (i := 1) rfl ?_
  refine K_iconst (pc := 2) (i := 2) rfl ?_
  refine K_cSI (pc := 3) (i := 3) rfl (c_War_isWithin G (x0 := x1) (x1 := 0) (x2 := 1) (s0 := by omega) (s1 := by omega) (s2 := by omega)) (ls_War_124 rfl) rfl rfl rfl rfl (fun v3 h3 q3 => ?_)
  obtain ⟨eh, r3⟩ := q3
  rw [eh]; clear eh
  first | refine K_if_ne 11 (pc := 6) (i := 4) rfl rfl (by omega) (fun b6 => ?_) (fun b6 => ?_) | refine K_if_ne_an 11 (pc := 6) (i := 4) rfl rfl (fun b6 => ?_) (fun b6 => ?_)
  · skip
    refine K_aload_n (pc := 11) (i := 7) rfl rfl ?_
    refine K_getR (pc := 12) (i := 8) (j := 4) (d := 137) rfl S_0 rfl (by decide) rfl fw_War_35 ?_
    refine K_iload_n (pc := 15) (i := 9) rfl rfl ?_
    obtain ⟨q16, hq16, hsq16⟩ := slotAt (a := x1) (by omega) (by omega)
    refine K_aald (pc := 16) (i := 10) (q := q16) rfl S_137 (by decide) (by omega) (by simp; omega) (by decide) hq16 ?_
    obtain ⟨hp16, hr16⟩ := slotAt2 hq16
    refine K_getI (pc := 17) (i := 11) (j := 1) rfl (S_Sl hsq16) rfl (by decide) rfl fw_War_84 ?_
    refine K_nm (fun v17 e17 => ?_)
    have r17 := rd_used hI hsq16
    rw [← e17] at r17
    have t17 : v17 = h (138 + 11 * x1.toNat) 1 := by rw [e17, show q16 = 138 + 11 * x1.toNat by omega]
    first | refine K_if_ne 26 (pc := 20) (i := 12) rfl rfl (by omega) (fun b20 => ?_) (fun b20 => ?_) | refine K_if_ne_an 26 (pc := 20) (i := 12) rfl rfl (fun b20 => ?_) (fun b20 => ?_)
    · skip
      refine K_aload_n (pc := 26) (i := 15) rfl rfl ?_
      refine K_getR (pc := 27) (i := 16) (j := 1) (d := 3) rfl S_0 rfl (by decide) rfl fw_War_19 ?_
      refine K_aload_n (pc := 30) (i := 17) rfl rfl ?_
      refine K_getR (pc := 31) (i := 18) (j := 4) (d := 137) rfl S_0 rfl (by decide) rfl fw_War_35 ?_
      refine K_iload_n (pc := 34) (i := 19) rfl rfl ?_
      obtain ⟨q35, hq35, hsq35⟩ := slotAt (a := x1) (by omega) (by omega)
      refine K_aald (pc := 35) (i := 20) (q := q35) rfl S_137 (by decide) (by omega) (by simp; omega) (by decide) hq35 ?_
      obtain ⟨hp35, hr35⟩ := slotAt2 hq35
      refine K_getR (pc := 36) (i := 21) (j := 0) (d := q35 + 1) rfl (S_Sl hsq35) rfl (by decide) rfl fw_War_245 ?_
      refine K_cVV (pc := 39) (i := 22) rfl (c_Sky_copyFrom G (s := 3) (hs := sk3) (s2 := q35 + 1) (hs2 := (sl_sk hsq35)) (hI := hI) (dj := by omega)) (S_Sk sk3) rfl (lv_War_201 rfl) rfl rfl rfl rfl rfl (fun h39 q39 => ?_)
      obtain ⟨fx39, q39⟩ := q39
      obtain ⟨hI, fc39, wc39⟩ := q39
      have fx := fx.tr fx39 (fun c i q => (by first | (dsimp only at q ⊢; omega) | omega))
      have hqe : q35 = 138 + 11 * x1.toNat := by omega
      refine K_aload_n (pc := 42) (i := 23) rfl rfl ?_
      refine K_getR (pc := 43) (i := 24) (j := 3) (d := 23) rfl S_0 rfl (by decide) rfl fw_War_29 ?_
      refine K_cVV (pc := 46) (i := 25) rfl (c_Acts_clear G (hI := hI)) S_23 rfl (lv_War_81 rfl) rfl rfl rfl rfl rfl (fun h46 q46 => ?_)
      obtain ⟨fx46, q46⟩ := q46
      obtain ⟨hI, ac46⟩ := q46
      have fx := fx.tr fx46 (fun c i q => (by first | (dsimp only at q ⊢; omega) | omega))
      refine K_aload_n (pc := 49) (i := 26) rfl rfl ?_
      refine K_getR (pc := 50) (i := 27) (j := 1) (d := 3) rfl S_0 rfl (by decide) rfl fw_War_19 ?_
      refine K_getR (pc := 53) (i := 28) (j := 0) (d := 6) rfl (S_Sk sk3) rfl (by decide) rfl fw_War_88 ?_
      refine K_getI (pc := 56) (i := 29) (j := 6) rfl (S_Fl fl6) rfl (by decide) rfl fw_War_92 ?_
      refine K_nm (fun v56 e56 => ?_)
      have r56 := rd_kites hI fl6
      rw [← e56] at r56
      exact K_retI (pc := 59) (i := 30) rfl rfl ⟨fx, ⟨hI, Or.inr (Or.inr ⟨by omega, by omega, e56, by rw [show 142 + 11 * x1.toNat = q35 + 1 + 3 by omega]; exact fc39.tr (FC.same (fun c a b => fx46.cell c (fun i => (by first | (dsimp only; omega) | omega)))), fun i => by rw [fx46.cell 4 (fun i => (by first | (dsimp only; omega) | omega)), show 140 + 11 * x1.toNat = q35 + 1 + 1 by omega]; exact wc39 i, ac46, by rw [fx46 23 1 (by first | (dsimp only; omega) | omega), fx39 23 1 (by first | (dsimp only; omega) | omega)]⟩)⟩⟩
    · skip
      refine K_bipush (pc := 23) (i := 13) rfl rfl ?_
      exact K_retI (pc := 25) (i := 14) rfl rfl ⟨fx, ⟨hI, Or.inr (Or.inl ⟨by omega, by omega, rfl, rfl⟩)⟩⟩
  · skip
    refine K_iconst (pc := 9) (i := 5) rfl ?_
    exact K_retI (pc := 10) (i := 6) rfl rfl ⟨fx, ⟨hI, Or.inl ⟨by omega, rfl, rfl⟩⟩⟩
set_option maxHeartbeats 4000000 in
set_option maxRecDepth 100000 in
theorem c_War_count (G : kG) {g : kGh} {h : kH} {x1 : Int} (s1 : kR x1) (hI : Gd g h) : Ctr G y_War_count X_War_count 13 [.ref (G.2.2.2 0), kI x1] h (kQi (fun z h' => Fx (fun c i => False) h h' ∧ (Gd g h' ∧ z = ctF (h 1 1) (h 6 6) (cnt (h 7) 0 (h 6 6).toNat) (h 12 0) (h 12 1) (h 23 2) (h 169 6) x1))) := by
  refine Ctr.ofK (by decide) rfl T_War_count (Nat.le_of_ble_eq_true rfl) (lo := [(0, .ref (G.2.2.2 0)), (1, kI x1)]) rfl ?_
  have fx : Fx (fun c i => False) h h := Fx.rf
  refine K_iload_n (pc := 0) (i := 0) rfl rfl ?_
  by_cases sw1 : (0 : Int) ≤ x1 ∧ x1 ≤ 6
  · skip
    rcases (show x1 = 0 ∨ x1 = 1 ∨ x1 = 2 ∨ x1 = 3 ∨ x1 = 4 ∨ x1 = 5 ∨ x1 = 6 by omega) with sx1 | sx1 | sx1 | sx1 | sx1 | sx1 | sx1
    · refine K_tableIn 44 (by omega) (pc := 1) (i := 1) rfl (by omega) (by omega) (by rw [sx1]; rfl) rfl ?_
      refine K_aload_n (pc := 44) (i := 2) rfl rfl ?_
      refine K_getR (pc := 45) (i := 3) (j := 0) (d := 1) rfl S_0 rfl (by decide) rfl fw_War_10 ?_
      refine K_getI (pc := 48) (i := 4) (j := 1) rfl S_1 rfl (by decide) rfl fw_War_69 ?_
      refine K_nm (fun v48 e48 => ?_)
      have r48 := rd_len hI
      rw [← e48] at r48
      exact K_retI (pc := 51) (i := 5) rfl rfl ⟨fx, ⟨hI, by rw [sx1, e48]; rfl⟩⟩
    · refine K_tableIn 52 (by omega) (pc := 1) (i := 1) rfl (by omega) (by omega) (by rw [sx1]; rfl) rfl ?_
      refine K_aload_n (pc := 52) (i := 6) rfl rfl ?_
      refine K_getR (pc := 53) (i := 7) (j := 1) (d := 3) rfl S_0 rfl (by decide) rfl fw_War_19 ?_
      refine K_getR (pc := 56) (i := 8) (j := 0) (d := 6) rfl (S_Sk sk3) rfl (by decide) rfl fw_War_88 ?_
      refine K_getI (pc := 59) (i := 9) (j := 6) rfl (S_Fl fl6) rfl (by decide) rfl fw_War_92 ?_
      refine K_nm (fun v59 e59 => ?_)
      have r59 := rd_kites hI fl6
      rw [← e59] at r59
      exact K_retI (pc := 62) (i := 10) rfl rfl ⟨fx, ⟨hI, by rw [sx1, e59]; rfl⟩⟩
    · refine K_tableIn 63 (by omega) (pc := 1) (i := 1) rfl (by omega) (by omega) (by rw [sx1]; rfl) rfl ?_
      refine K_aload_n (pc := 63) (i := 11) rfl rfl ?_
      refine K_getR (pc := 64) (i := 12) (j := 1) (d := 3) rfl S_0 rfl (by decide) rfl fw_War_19 ?_
      refine K_getR (pc := 67) (i := 13) (j := 0) (d := 6) rfl (S_Sk sk3) rfl (by decide) rfl fw_War_88 ?_
      refine K_iconst (pc := 70) (i := 14) rfl ?_
      refine K_cVI (pc := 71) (i := 15) rfl (c_Fleet_ofTown G (f := 6) (hf := fl6) (x1 := 0) (hI := hI) (s1 := by omega)) (S_Fl fl6) rfl (lv_War_217 rfl) rfl rfl rfl rfl rfl (fun v71 h71 q71 => ?_)
      obtain ⟨eh, r71⟩ := q71
      rw [eh]; clear eh
      exact K_retI (pc := 74) (i := 16) rfl rfl ⟨fx, ⟨hI, by rw [sx1, r71.2]; rfl⟩⟩
    · refine K_tableIn 75 (by omega) (pc := 1) (i := 1) rfl (by omega) (by omega) (by rw [sx1]; rfl) rfl ?_
      refine K_aload_n (pc := 75) (i := 17) rfl rfl ?_
      refine K_getR (pc := 76) (i := 18) (j := 1) (d := 3) rfl S_0 rfl (by decide) rfl fw_War_19 ?_
      refine K_getR (pc := 79) (i := 19) (j := 0) (d := 6) rfl (S_Sk sk3) rfl (by decide) rfl fw_War_88 ?_
      refine K_getR (pc := 82) (i := 20) (j := 5) (d := 12) rfl (S_Fl fl6) rfl (by decide) rfl fw_War_248 ?_
      refine K_iconst (pc := 85) (i := 21) rfl ?_
      refine K_iald (pc := 86) (i := 22) rfl (S_Fl6 fl6) (by omega) (by omega) (by decide) ?_
      refine K_nm (fun v86 e86 => ?_)
      exact K_retI (pc := 87) (i := 23) rfl rfl ⟨fx, ⟨hI, by rw [sx1, e86]; rfl⟩⟩
    · refine K_tableIn 88 (by omega) (pc := 1) (i := 1) rfl (by omega) (by omega) (by rw [sx1]; rfl) rfl ?_
      refine K_aload_n (pc := 88) (i := 24) rfl rfl ?_
      refine K_getR (pc := 89) (i := 25) (j := 1) (d := 3) rfl S_0 rfl (by decide) rfl fw_War_19 ?_
      refine K_getR (pc := 92) (i := 26) (j := 0) (d := 6) rfl (S_Sk sk3) rfl (by decide) rfl fw_War_88 ?_
      refine K_getR (pc := 95) (i := 27) (j := 5) (d := 12) rfl (S_Fl fl6) rfl (by decide) rfl fw_War_248 ?_
      refine K_iconst (pc := 98) (i := 28) rfl ?_
      refine K_iald (pc := 99) (i := 29) rfl (S_Fl6 fl6) (by omega) (by omega) (by decide) ?_
      refine K_nm (fun v99 e99 => ?_)
      exact K_retI (pc := 100) (i := 30) rfl rfl ⟨fx, ⟨hI, by rw [sx1, e99]; rfl⟩⟩
    · refine K_tableIn 101 (by omega) (pc := 1) (i := 1) rfl (by omega) (by omega) (by rw [sx1]; rfl) rfl ?_
      refine K_aload_n (pc := 101) (i := 31) rfl rfl ?_
      refine K_getR (pc := 102) (i := 32) (j := 3) (d := 23) rfl S_0 rfl (by decide) rfl fw_War_29 ?_
      refine K_getI (pc := 105) (i := 33) (j := 2) rfl S_23 rfl (by decide) rfl fw_War_167 ?_
      refine K_nm (fun v105 e105 => ?_)
      have r105 := rd_actsize hI
      rw [← e105] at r105
      exact K_retI (pc := 108) (i := 34) rfl rfl ⟨fx, ⟨hI, by rw [sx1, e105]; rfl⟩⟩
    · refine K_tableIn 109 (by omega) (pc := 1) (i := 1) rfl (by omega) (by omega) (by rw [sx1]; rfl) rfl ?_
      refine K_aload_n (pc := 109) (i := 35) rfl rfl ?_
      refine K_getR (pc := 110) (i := 36) (j := 6) (d := 169) rfl S_0 rfl (by decide) rfl fw_War_49 ?_
      refine K_getI (pc := 113) (i := 37) (j := 6) rfl S_169 rfl (by decide) rfl fw_War_229 ?_
      refine K_nm (fun v113 e113 => ?_)
      have r113 := rd_seensize hI
      rw [← e113] at r113
      exact K_retI (pc := 116) (i := 38) rfl rfl ⟨fx, ⟨hI, by rw [sx1, e113]; rfl⟩⟩
  · refine K_tableOut 117 (by omega) (pc := 1) (i := 1) rfl (by omega) rfl ?_
    refine K_bipush (pc := 117) (i := 39) rfl rfl ?_
    exact K_retI (pc := 119) (i := 40) rfl rfl ⟨fx, ⟨hI, by unfold ctF; rw [if_neg (by omega), if_neg (by omega), if_neg (by omega), if_neg (by omega), if_neg (by omega), if_neg (by omega), if_neg (by omega)]⟩⟩
end
section
set_option maxHeartbeats 4000000 in
set_option maxRecDepth 100000 in
theorem c_War_where (G : kG) {g : kGh} {h : kH} {x1 : Int} {x2 : Int} {x3 : Int} {x4 : Int} (s1 : kR x1) (s2 : kR x2) (s3 : kR x3) (s4 : kR x4) (hI : Gd g h) : Ctr G y_War_where X_War_where 13 [.ref (G.2.2.2 0), kI x1, kI x2, kI x3, kI x4] h (kQi (fun z h' => Fx (fun c i => False) h h' ∧ (Gd g h' ∧ True))) := by
  refine Ctr.ofK (by decide) rfl T_War_where (Nat.le_of_ble_eq_true rfl) (lo := [(0, .ref (G.2.2.2 0)), (1, kI x1), (2, kI x2), (3, kI x3), (4, kI x4)]) rfl ?_
  have fx : Fx (fun c i => False) h h := Fx.rf
  refine K_aload_n (pc := 0) (i := 0) rfl rfl ?_
  refine K_iload_n (pc := 1) (i := 1) rfl rfl ?_
  refine K_iload_n (pc := 2) (i := 2) rfl rfl ?_
  refine K_cVI (pc := 3) (i := 3) rfl (c_War_refusalOfPair G (x1 := x1) (x2 := x2) (hI := hI) (s1 := by omega) (s2 := by omega)) S_0 rfl (lv_War_170 rfl) rfl rfl rfl rfl rfl (fun v3 h3 q3 => ?_)
  obtain ⟨eh, r3⟩ := q3
  rw [eh]; clear eh
  refine K_ist (pc := 6) (i := 4) (lo' := [(0, _), (1, _), (2, _), (3, _), (4, _), (5, _)]) rfl rfl rfl rfl ?_
  refine K_iload (pc := 8) (i := 5) rfl rfl ?_
  first | refine K_if_eq 16 (pc := 10) (i := 6) rfl rfl (by omega) (fun b10 => ?_) (fun b10 => ?_) | refine K_if_eq_an 16 (pc := 10) (i := 6) rfl rfl (fun b10 => ?_) (fun b10 => ?_)
  · skip
    refine K_aload_n (pc := 16) (i := 9) rfl rfl ?_
    refine K_getR (pc := 17) (i := 10) (j := 1) (d := 3) rfl S_0 rfl (by decide) rfl fw_War_19 ?_
    refine K_getR (pc := 20) (i := 11) (j := 0) (d := 6) rfl (S_Sk sk3) rfl (by decide) rfl fw_War_88 ?_
    refine K_iload_n (pc := 23) (i := 12) rfl rfl ?_
    refine K_iload_n (pc := 24) (i := 13) rfl rfl ?_
    refine K_cVI (pc := 25) (i := 14) rfl (c_Fleet_meet G (f := 6) (hf := fl6) (x1 := x1) (x2 := x2) (hI := hI) (s1 := by omega) (s2 := by omega)) (S_Fl fl6) rfl (lv_War_174 rfl) rfl rfl rfl rfl rfl (fun v25 h25 q25 => ?_)
    obtain ⟨eh, r25⟩ := q25
    rw [eh]; clear eh
    first | refine K_if_ne 34 (pc := 28) (i := 15) rfl rfl (by omega) (fun b28 => ?_) (fun b28 => ?_) | refine K_if_ne_an 34 (pc := 28) (i := 15) rfl rfl (fun b28 => ?_) (fun b28 => ?_)
    · skip
      refine K_iload_n (pc := 34) (i := 18) rfl rfl ?_
      first | refine K_if_eq 53 (pc := 35) (i := 19) rfl rfl (by omega) (fun b35 => ?_) (fun b35 => ?_) | refine K_if_eq_an 53 (pc := 35) (i := 19) rfl rfl (fun b35 => ?_) (fun b35 => ?_)
      · skip
        refine K_aload_n (pc := 53) (i := 27) rfl rfl ?_
        refine K_getR (pc := 54) (i := 28) (j := 1) (d := 3) rfl S_0 rfl (by decide) rfl fw_War_19 ?_
        refine K_getR (pc := 57) (i := 29) (j := 0) (d := 6) rfl (S_Sk sk3) rfl (by decide) rfl fw_War_88 ?_
        refine K_iload_n (pc := 60) (i := 30) rfl rfl ?_
        refine K_iload_n (pc := 61) (i := 31) rfl rfl ?_
        refine K_cVI (pc := 62) (i := 32) rfl (c_Fleet_meetingX G (f := 6) (hf := fl6) (x1 := x1) (x2 := x2) (hI := hI) (s1 := by omega) (s2 := by omega)) (S_Fl fl6) rfl (lv_War_181 rfl) rfl rfl rfl rfl rfl (fun v62 h62 q62 => ?_)
        obtain ⟨eh, r62⟩ := q62
        rw [eh]; clear eh
        refine K_ist (pc := 65) (i := 33) (lo' := [(0, _), (1, _), (2, _), (3, _), (4, _), (5, _), (6, _)]) rfl rfl rfl rfl ?_
        refine K_aload_n (pc := 67) (i := 34) rfl rfl ?_
        refine K_getR (pc := 68) (i := 35) (j := 1) (d := 3) rfl S_0 rfl (by decide) rfl fw_War_19 ?_
        refine K_getR (pc := 71) (i := 36) (j := 0) (d := 6) rfl (S_Sk sk3) rfl (by decide) rfl fw_War_88 ?_
        refine K_iload_n (pc := 74) (i := 37) rfl rfl ?_
        refine K_iload_n (pc := 75) (i := 38) rfl rfl ?_
        refine K_cVI (pc := 76) (i := 39) rfl (c_Fleet_meetingBelow G (f := 6) (hf := fl6) (x1 := x1) (x2 := x2) (hI := hI) (s1 := by omega) (s2 := by omega)) (S_Fl fl6) rfl (lv_War_184 rfl) rfl rfl rfl rfl rfl (fun v76 h76 q76 => ?_)
        obtain ⟨eh, r76⟩ := q76
        rw [eh]; clear eh
        refine K_ist (pc := 79) (i := 40) (lo' := [(0, _), (1, _), (2, _), (3, _), (4, _), (5, _), (6, _), (7, _)]) rfl rfl rfl rfl ?_
        refine K_iload (pc := 81) (i := 41) rfl rfl ?_
        refine K_iload (pc := 83) (i := 42) rfl rfl ?_
        refine K_cSI (pc := 85) (i := 43) rfl (c_War_greatestDivisor G (x0 := v62) (x1 := v76) (s0 := by omega) (s1 := by omega)) (ls_War_187 rfl) rfl rfl rfl rfl (fun v85 h85 q85 => ?_)
        obtain ⟨eh, r85⟩ := q85
        rw [eh]; clear eh
        refine K_ist (pc := 88) (i := 44) (lo' := [(0, _), (1, _), (2, _), (3, _), (4, _), (5, _), (6, _), (7, _), (8, _)]) rfl rfl rfl rfl ?_
        refine K_iload (pc := 90) (i := 45) rfl rfl ?_
        refine K_iconst (pc := 92) (i := 46) rfl ?_
        first | refine K_icmp_ge 99 (pc := 93) (i := 47) rfl rfl (by omega) (by omega) (fun b93 => ?_) (fun b93 => ?_) | refine K_icmp_ge_an 99 (pc := 93) (i := 47) rfl rfl (fun b93 => ?_) (fun b93 => ?_)
        · skip
          refine K_iload (pc := 99) (i := 50) rfl rfl ?_
          first | refine K_if_eq 109 (pc := 101) (i := 51) rfl rfl (by omega) (fun b101 => ?_) (fun b101 => ?_) | refine K_if_eq_an 109 (pc := 101) (i := 51) rfl rfl (fun b101 => ?_) (fun b101 => ?_)
          · skip
            refine K_iload (pc := 109) (i := 54) rfl rfl ?_
            refine K_iload (pc := 111) (i := 55) rfl rfl ?_
            refine K_idiv (pc := 113) (i := 56) rfl (by omega) (by omega) ?_
            refine K_any (fun v113 r113 => ?_)
            exact K_retI (pc := 114) (i := 57) rfl rfl ⟨fx, ⟨hI, trivial⟩⟩
          · skip
            refine K_iload (pc := 104) (i := 52) rfl rfl ?_
            refine K_goto 111 (pc := 106) (i := 53) rfl rfl ?_
            refine K_iload (pc := 111) (i := 55) rfl rfl ?_
            refine K_idiv (pc := 113) (i := 56) rfl (by omega) (by omega) ?_
            refine K_any (fun v113 r113 => ?_)
            exact K_retI (pc := 114) (i := 57) rfl rfl ⟨fx, ⟨hI, trivial⟩⟩
        · skip
          refine K_bipush (pc := 96) (i := 48) rfl rfl ?_
          exact K_retI (pc := 98) (i := 49) rfl rfl ⟨fx, ⟨hI, trivial⟩⟩
      · skip
        refine K_aload_n (pc := 38) (i := 20) rfl rfl ?_
        refine K_getR (pc := 39) (i := 21) (j := 1) (d := 3) rfl S_0 rfl (by decide) rfl fw_War_19 ?_
        refine K_getR (pc := 42) (i := 22) (j := 0) (d := 6) rfl (S_Sk sk3) rfl (by decide) rfl fw_War_88 ?_
        refine K_iload_n (pc := 45) (i := 23) rfl rfl ?_
        refine K_iload_n (pc := 46) (i := 24) rfl rfl ?_
        refine K_cVI (pc := 47) (i := 25) rfl (c_Fleet_meetingHeight G (f := 6) (hf := fl6) (x1 := x1) (x2 := x2) (hI := hI) (s1 := by omega) (s2 := by omega)) (S_Fl fl6) rfl (lv_War_178 rfl) rfl rfl rfl rfl rfl (fun v47 h47 q47 => ?_)
        obtain ⟨eh, r47⟩ := q47
        rw [eh]; clear eh
        refine K_goto 65 (pc := 50) (i := 26) rfl rfl ?_
        refine K_ist (pc := 65) (i := 33) (lo' := [(0, _), (1, _), (2, _), (3, _), (4, _), (5, _), (6, _)]) rfl rfl rfl rfl ?_
        refine K_aload_n (pc := 67) (i := 34) rfl rfl ?_
        refine K_getR (pc := 68) (i := 35) (j := 1) (d := 3) rfl S_0 rfl (by decide) rfl fw_War_19 ?_
        refine K_getR (pc := 71) (i := 36) (j := 0) (d := 6) rfl (S_Sk sk3) rfl (by decide) rfl fw_War_88 ?_
        refine K_iload_n (pc := 74) (i := 37) rfl rfl ?_
        refine K_iload_n (pc := 75) (i := 38) rfl rfl ?_
        refine K_cVI (pc := 76) (i := 39) rfl (c_Fleet_meetingBelow G (f := 6) (hf := fl6) (x1 := x1) (x2 := x2) (hI := hI) (s1 := by omega) (s2 := by omega)) (S_Fl fl6) rfl (lv_War_184 rfl) rfl rfl rfl rfl rfl (fun v76 h76 q76 => ?_)
        obtain ⟨eh, r76⟩ := q76
        rw [eh]; clear eh
        refine K_ist (pc := 79) (i := 40) (lo' := [(0, _), (1, _), (2, _), (3, _), (4, _), (5, _), (6, _), (7, _)]) rfl rfl rfl rfl ?_
        refine K_iload (pc := 81) (i := 41) rfl rfl ?_
        refine K_iload (pc := 83) (i := 42) rfl rfl ?_
        refine K_cSI (pc := 85) (i := 43) rfl (c_War_greatestDivisor G (x0 := v47) (x1 := v76) (s0 := by omega) (s1 := by omega)) (ls_War_187 rfl) rfl rfl rfl rfl (fun v85 h85 q85 => ?_)
        obtain ⟨eh, r85⟩ := q85
        rw [eh]; clear eh
        refine K_ist (pc := 88) (i := 44) (lo' := [(0, _), (1, _), (2, _), (3, _), (4, _), (5, _), (6, _), (7, _), (8, _)]) rfl rfl rfl rfl ?_
        refine K_iload (pc := 90) (i := 45) rfl rfl ?_
        refine K_iconst (pc := 92) (i := 46) rfl ?_
        first | refine K_icmp_ge 99 (pc := 93) (i := 47) rfl rfl (by omega) (by omega) (fun b93 => ?_) (fun b93 => ?_) | refine K_icmp_ge_an 99 (pc := 93) (i := 47) rfl rfl (fun b93 => ?_) (fun b93 => ?_)
        · skip
          refine K_iload (pc := 99) (i := 50) rfl rfl ?_
          first | refine K_if_eq 109 (pc := 101) (i := 51) rfl rfl (by omega) (fun b101 => ?_) (fun b101 => ?_) | refine K_if_eq_an 109 (pc := 101) (i := 51) rfl rfl (fun b101 => ?_) (fun b101 => ?_)
          · skip
            refine K_iload (pc := 109) (i := 54) rfl rfl ?_
            refine K_iload (pc := 111) (i := 55) rfl rfl ?_
            refine K_idiv (pc := 113) (i := 56) rfl (by omega) (by omega) ?_
            refine K_any (fun v113 r113 => ?_)
            exact K_retI (pc := 114) (i := 57) rfl rfl ⟨fx, ⟨hI, trivial⟩⟩
          · skip
            refine K_iload (pc := 104) (i := 52) rfl rfl ?_
            refine K_goto 111 (pc := 106) (i := 53) rfl rfl ?_
            refine K_iload (pc := 111) (i := 55) rfl rfl ?_
            refine K_idiv (pc := 113) (i := 56) rfl (by omega) (by omega) ?_
            refine K_any (fun v113 r113 => ?_)
            exact K_retI (pc := 114) (i := 57) rfl rfl ⟨fx, ⟨hI, trivial⟩⟩
        · skip
          refine K_bipush (pc := 96) (i := 48) rfl rfl ?_
          exact K_retI (pc := 98) (i := 49) rfl rfl ⟨fx, ⟨hI, trivial⟩⟩
    · skip
      refine K_bipush (pc := 31) (i := 16) rfl rfl ?_
      exact K_retI (pc := 33) (i := 17) rfl rfl ⟨fx, ⟨hI, trivial⟩⟩
  · skip
    refine K_iload (pc := 13) (i := 7) rfl rfl ?_
    exact K_retI (pc := 15) (i := 8) rfl rfl ⟨fx, ⟨hI, trivial⟩⟩
set_option maxHeartbeats 4000000 in
set_option maxRecDepth 100000 in
theorem c_War_along (G : kG) {g : kGh} {h : kH} {x1 : Int} {x2 : Int} (s1 : kR x1) (s2 : kR x2) (hI : Gd g h) : Ctr G y_War_along X_War_along 13 [.ref (G.2.2.2 0), kI x1, kI x2] h (kQi (fun z h' => Fx (fun c i => c = 183) h h' ∧ (Gd g h' ∧ ((¬ (0 ≤ x1 ∧ x1 < h 6 6) ∧ z = -1) ∨ ((0 ≤ x1 ∧ x1 < h 6 6) ∧ FST (fun k => ((k ≠ x1.toNat ∧ mt h 6 x1.toNat k) ∧ sm (fun o => ind ((o ≠ x1.toNat ∧ mt h 6 x1.toNat o) ∧ ahC h 6 x1.toNat o k)) (h 6 6).toNat = x2)) (h 6 6) z))))) := by
  refine Ctr.ofK (by decide) rfl T_War_along (Nat.le_of_ble_eq_true rfl) (lo := [(0, .ref (G.2.2.2 0)), (1, kI x1), (2, kI x2)]) rfl ?_
  have fx : Fx (fun c i => c = 183) h h := Fx.rf
  refine K_aload_n (pc := 0) (i := 0) rfl rfl ?_
  refine K_iload_n (pc := 1) (i := 1) rfl rfl ?_
  refine K_cVI (pc := 2) (i := 2) rfl (c_War_isKite G (x1 := x1) (hI := hI) (s1 := by omega)) S_0 rfl (lv_War_97 rfl) rfl rfl rfl rfl rfl (fun v2 h2 q2 => ?_)
  obtain ⟨eh, r2⟩ := q2
  rw [eh]; clear eh
  first | refine K_if_eq 27 (pc := 5) (i := 3) rfl rfl (by omega) (fun b5 => ?_) (fun b5 => ?_) | refine K_if_eq_an 27 (pc := 5) (i := 3) rfl rfl (fun b5 => ?_) (fun b5 => ?_)
  · skip
    refine K_iconst (pc := 27) (i := 13) rfl ?_
    exact K_retI (pc := 28) (i := 14) rfl rfl ⟨fx, (by first | exact ⟨hI, Or.inl ⟨by omega, rfl⟩⟩ | exact ⟨hI, Or.inr ⟨by omega, r21⟩⟩)⟩
  · skip
    refine K_aload_n (pc := 8) (i := 4) rfl rfl ?_
    refine K_getR (pc := 9) (i := 5) (j := 7) (d := 182) rfl S_0 rfl (by decide) rfl fw_War_56 ?_
    refine K_aload_n (pc := 12) (i := 6) rfl rfl ?_
    refine K_getR (pc := 13) (i := 7) (j := 1) (d := 3) rfl S_0 rfl (by decide) rfl fw_War_19 ?_
    refine K_getR (pc := 16) (i := 8) (j := 0) (d := 6) rfl (S_Sk sk3) rfl (by decide) rfl fw_War_88 ?_
    refine K_iload_n (pc := 19) (i := 9) rfl rfl ?_
    refine K_iload_n (pc := 20) (i := 10) rfl rfl ?_
    refine K_cVI (pc := 21) (i := 11) rfl (c_Tangle_nthAlong G (f := 6) (hf := fl6) (x2 := x1) (x3 := x2) (hI := hI) (hr := by omega) (s2 := by omega) (s3 := by omega)) S_182 rfl (lv_War_190 rfl) rfl rfl rfl rfl rfl (fun v21 h21 q21 => ?_)
    obtain ⟨fx21, q21⟩ := q21
    obtain ⟨hI, r21⟩ := q21
    have fx := fx.tr fx21 (fun c i q => (by first | (dsimp only at q ⊢; omega) | omega))
    refine K_goto 28 (pc := 24) (i := 12) rfl rfl ?_
    exact K_retI (pc := 28) (i := 14) rfl rfl ⟨fx, (by first | exact ⟨hI, Or.inl ⟨by omega, rfl⟩⟩ | exact ⟨hI, Or.inr ⟨by omega, r21⟩⟩)⟩
set_option maxHeartbeats 4000000 in
set_option maxRecDepth 100000 in
theorem c_War_tangle (G : kG) {g : kGh} {h : kH}  (hI : Gd g h) : Ctr G y_War_tangle X_War_tangle 13 [.ref (G.2.2.2 0)] h (kQi (fun z h' => Fx (fun c i => c = 183) h h' ∧ (Gd g h' ∧ z = sm (fun a => sm (fun b => ind (b ≠ a ∧ mt h 6 a b)) (h 6 6).toNat) (h 6 6).toNat / 2))) := by
  refine Ctr.ofK (by decide) rfl T_War_tangle (Nat.le_of_ble_eq_true rfl) (lo := [(0, .ref (G.2.2.2 0))]) rfl ?_
  have fx : Fx (fun c i => c = 183) h h := Fx.rf
  refine K_aload_n (pc := 0) (i := 0) rfl rfl ?_
  refine K_getR (pc := 1) (i := 1) (j := 7) (d := 182) rfl S_0 rfl (by decide) rfl fw_War_56 ?_
  refine K_aload_n (pc := 4) (i := 2) rfl rfl ?_
  refine K_getR (pc := 5) (i := 3) (j := 1) (d := 3) rfl S_0 rfl (by decide) rfl fw_War_19 ?_
  refine K_getR (pc := 8) (i := 4) (j := 0) (d := 6) rfl (S_Sk sk3) rfl (by decide) rfl fw_War_88 ?_
  refine K_cVI (pc := 11) (i := 5) rfl (c_Tangle_pairs G (f := 6) (hf := fl6) (hI := hI) (hr := by omega)) S_182 rfl (lv_War_194 rfl) rfl rfl rfl rfl rfl (fun v11 h11 q11 => ?_)
  obtain ⟨fx11, q11⟩ := q11
  obtain ⟨hI, r11⟩ := q11
  have fx := fx.tr fx11 (fun c i q => (by first | (dsimp only at q ⊢; omega) | omega))
  exact K_retI (pc := 14) (i := 6) rfl rfl ⟨fx, ⟨hI, r11⟩⟩
set_option maxHeartbeats 4000000 in
set_option maxRecDepth 100000 in
theorem c_War_toTakeIn (G : kG) {g : kGh} {h : kH}  (hI : Gd g h) : Ctr G y_War_toTakeIn X_War_toTakeIn 13 [.ref (G.2.2.2 0)] h (kQi (fun z h' => Fx (fun c i => c = 183) h h' ∧ (Gd g h' ∧ ∃ k : Nat, (h 6 6 = k ∧ k < 9) ∧ FWc (fun s => LSt (fun i j => mt h 6 i j) k s) ((2 ^ k : Nat) - 1 : Int) z ((2 ^ k : Nat) : Int)))) := by
  refine Ctr.ofK (by decide) rfl T_War_toTakeIn (Nat.le_of_ble_eq_true rfl) (lo := [(0, .ref (G.2.2.2 0))]) rfl ?_
  have fx : Fx (fun c i => c = 183) h h := Fx.rf
  refine K_aload_n (pc := 0) (i := 0) rfl rfl ?_
  refine K_getR (pc := 1) (i := 1) (j := 7) (d := 182) rfl S_0 rfl (by decide) rfl fw_War_56 ?_
  refine K_aload_n (pc := 4) (i := 2) rfl rfl ?_
  refine K_getR (pc := 5) (i := 3) (j := 1) (d := 3) rfl S_0 rfl (by decide) rfl fw_War_19 ?_
  refine K_getR (pc := 8) (i := 4) (j := 0) (d := 6) rfl (S_Sk sk3) rfl (by decide) rfl fw_War_88 ?_
  refine K_cVI (pc := 11) (i := 5) rfl (c_Tangle_fewest G (f := 6) (hf := fl6) (hI := hI) (hr := by omega)) S_182 rfl (lv_War_198 rfl) rfl rfl rfl rfl rfl (fun v11 h11 q11 => ?_)
  obtain ⟨fx11, q11⟩ := q11
  obtain ⟨hI, r11⟩ := q11
  have fx := fx.tr fx11 (fun c i q => (by first | (dsimp only at q ⊢; omega) | omega))
  exact K_retI (pc := 14) (i := 6) rfl rfl ⟨fx, ⟨hI, r11⟩⟩
def CWafter (h : kH) (x n z : Int) : Prop := (¬ ((0 ≤ x ∧ x ≤ 1) ∧ 0 ≤ n ∧ n ≤ 20) ∧ z = -2) ∨ (((0 ≤ x ∧ x ≤ 1) ∧ 0 ≤ n ∧ n ≤ 20) ∧ ∃ ht hz : kH, FC ht 16 h 6 ∧ (∀ i, i < 10 → ht 14 i = h 4 i) ∧ BTW 13 n.toNat ht hz ∧ z = hz 22 x.toNat - h 12 x.toNat)
set_option maxHeartbeats 4000000 in
set_option maxRecDepth 100000 in
theorem c_War_after (G : kG) {g : kGh} {h : kH} {x1 : Int} {x2 : Int} (s1 : kR x1) (s2 : kR x2) (hI : Gd g h) : Ctr G y_War_after X_War_after 13 [.ref (G.2.2.2 0), kI x1, kI x2] h (kQi (fun z h' => Fx (fun c i => 13 ≤ c ∧ c ≤ 22) h h' ∧ (Gd g h' ∧ CWafter h x1 x2 z))) := by
  refine Ctr.ofK (by decide) rfl T_War_after (Nat.le_of_ble_eq_true rfl) (lo := [(0, .ref (G.2.2.2 0)), (1, kI x1), (2, kI x2)]) rfl ?_
  have fx : Fx (fun c i => 13 ≤ c ∧ c ≤ 22) h h := Fx.rf
  refine K_iload_n (pc := 0) (i := 0) rfl rfl ?_
  refine K_cSI (pc := 1) (i := 1) rfl (c_War_isTown G (x0 := x1) (s0 := by omega)) (ls_War_146 rfl) rfl rfl rfl rfl (fun v1 h1 q1 => ?_)
  obtain ⟨eh, r1⟩ := q1
  rw [eh]; clear eh
  first | refine K_if_eq 17 (pc := 4) (i := 2) rfl rfl (by omega) (fun b4 => ?_) (fun b4 => ?_) | refine K_if_eq_an 17 (pc := 4) (i := 2) rfl rfl (fun b4 => ?_) (fun b4 => ?_)
  · skip
    refine K_bipush (pc := 17) (i := 8) rfl rfl ?_
    exact K_retI (pc := 19) (i := 9) rfl rfl ⟨fx, ⟨hI, Or.inl ⟨by omega, rfl⟩⟩⟩
  · skip
    refine K_iload_n (pc := 7) (i := 3) rfl rfl ?_
    refine K_iconst (pc := 8) (i := 4) rfl ?_
    refine K_bipush (pc := 9) (i := 5) rfl rfl ?_
    refine K_cSI (pc := 11) (i := 6) rfl (c_War_isWithin G (x0 := x2) (x1 := 0) (x2 := 20) (s0 := by omega) (s1 := by omega) (s2 := by omega)) (ls_War_124 rfl) rfl rfl rfl rfl (fun v11 h11 q11 => ?_)
    obtain ⟨eh, r11⟩ := q11
    rw [eh]; clear eh
    first | refine K_if_ne 20 (pc := 14) (i := 7) rfl rfl (by omega) (fun b14 => ?_) (fun b14 => ?_) | refine K_if_ne_an 20 (pc := 14) (i := 7) rfl rfl (fun b14 => ?_) (fun b14 => ?_)
    · skip
      refine K_aload_n (pc := 20) (i := 10) rfl rfl ?_
      refine K_getR (pc := 21) (i := 11) (j := 2) (d := 13) rfl S_0 rfl (by decide) rfl fw_War_23 ?_
      refine K_aload_n (pc := 24) (i := 12) rfl rfl ?_
      refine K_getR (pc := 25) (i := 13) (j := 1) (d := 3) rfl S_0 rfl (by decide) rfl fw_War_19 ?_
      refine K_cVV (pc := 28) (i := 14) rfl (c_Sky_copyFrom G (s := 13) (hs := sk13) (s2 := 3) (hs2 := sk3) (hI := hI) (dj := by omega)) (S_Sk sk13) rfl (lv_War_201 rfl) rfl rfl rfl rfl rfl (fun h28 q28 => ?_)
      obtain ⟨fx28, q28⟩ := q28
      obtain ⟨hI, fc28, wc28⟩ := q28
      have fx := fx.tr fx28 (fun c i q => (by first | (dsimp only at q ⊢; omega) | omega))
      refine K_aload_n (pc := 31) (i := 15) rfl rfl ?_
      refine K_getR (pc := 32) (i := 16) (j := 2) (d := 13) rfl S_0 rfl (by decide) rfl fw_War_23 ?_
      refine K_iload_n (pc := 35) (i := 17) rfl rfl ?_
      refine K_cVV (pc := 36) (i := 18) rfl (c_Sky_blowTimes G (s := 13) (hs := sk13) (x1 := x2) (hI := hI) (s1 := by omega)) (S_Sk sk13) rfl (lv_War_204 rfl) rfl rfl rfl rfl rfl (fun h36 q36 => ?_)
      obtain ⟨fx36, q36⟩ := q36
      obtain ⟨hI, bt36⟩ := q36
      have fx := fx.tr fx36 (fun c i q => (by first | (dsimp only at q ⊢; omega) | omega))
      refine K_aload_n (pc := 39) (i := 19) rfl rfl ?_
      refine K_iload_n (pc := 40) (i := 20) rfl rfl ?_
      refine K_cVI (pc := 41) (i := 21) rfl (c_War_wonInTrial G (x1 := x1) (hI := hI) (s1 := by omega)) S_0 rfl (lv_War_207 rfl) rfl rfl rfl rfl rfl (fun v41 h41 q41 => ?_)
      obtain ⟨eh, r41⟩ := q41
      rw [eh]; clear eh
      exact K_retI (pc := 44) (i := 22) rfl rfl ⟨fx, ⟨hI, Or.inr ⟨by omega, _, _, fc28, fun i hi => by have q := wc28 i; rw [if_pos hi] at q; exact q, bt36, by rw [r41, fx36.cell 12 (fun i => (by first | (dsimp only; omega) | omega)), fx28.cell 12 (fun i => (by first | (dsimp only; omega) | omega))]⟩⟩⟩
    · skip
      refine K_bipush (pc := 17) (i := 8) rfl rfl ?_
      exact K_retI (pc := 19) (i := 9) rfl rfl ⟨fx, ⟨hI, Or.inl ⟨by omega, rfl⟩⟩⟩
set_option maxHeartbeats 4000000 in
set_option maxRecDepth 100000 in
theorem c_War_tonight (G : kG) {g : kGh} {h : kH} {x1 : Int} (s1 : kR x1) (hI : Gd g h) : Ctr G y_War_tonight X_War_tonight 13 [.ref (G.2.2.2 0), kI x1] h (kQi (fun z h' => Fx (fun c i => 160 ≤ c ∧ c ≤ 168) h h' ∧ (Gd g h' ∧ True))) := by
  refine Ctr.ofK (by decide) rfl T_War_tonight (Nat.le_of_ble_eq_true rfl) (lo := [(0, .ref (G.2.2.2 0)), (1, kI x1)]) rfl ?_
  have fx : Fx (fun c i => 160 ≤ c ∧ c ≤ 168) h h := Fx.rf
  refine K_aload_n (pc := 0) (i := 0) rfl rfl ?_
  refine K_iload_n (pc := 1) (i := 1) rfl rfl ?_
  refine K_cVI (pc := 2) (i := 2) rfl (c_War_refusalOfPlan G (x1 := x1) (hI := hI) (s1 := by omega)) S_0 rfl (lv_War_210 rfl) rfl rfl rfl rfl rfl (fun v2 h2 q2 => ?_)
  obtain ⟨eh, r2⟩ := q2
  rw [eh]; clear eh
  refine K_ist_n (pc := 5) (i := 3) (lo' := [(0, _), (1, _), (2, _)]) rfl rfl rfl rfl ?_
  refine K_iload_n (pc := 6) (i := 4) rfl rfl ?_
  first | refine K_if_eq 12 (pc := 7) (i := 5) rfl rfl (by omega) (fun b7 => ?_) (fun b7 => ?_) | refine K_if_eq_an 12 (pc := 7) (i := 5) rfl rfl (fun b7 => ?_) (fun b7 => ?_)
  · skip
    refine K_aload_n (pc := 12) (i := 8) rfl rfl ?_
    refine K_getR (pc := 13) (i := 9) (j := 5) (d := 160) rfl S_0 rfl (by decide) rfl fw_War_42 ?_
    refine K_aload_n (pc := 16) (i := 10) rfl rfl ?_
    refine K_getR (pc := 17) (i := 11) (j := 1) (d := 3) rfl S_0 rfl (by decide) rfl fw_War_19 ?_
    refine K_iload_n (pc := 20) (i := 12) rfl rfl ?_
    refine K_iconst (pc := 21) (i := 13) rfl ?_
    refine K_cVI (pc := 22) (i := 14) rfl (c_Plans_best G (x2 := x1) (x3 := 0) (hI := hI) (s2 := by omega)) S_160 rfl (lv_War_213 rfl) rfl rfl rfl rfl rfl (fun v22 h22 q22 => ?_)
    obtain ⟨fx22, q22⟩ := q22
    obtain ⟨hI, r22⟩ := q22
    have fx := fx.tr fx22 (fun c i q => (by first | (dsimp only at q ⊢; omega) | omega))
    refine K_bipush (pc := 25) (i := 15) rfl rfl ?_
    refine K_iadd (pc := 27) (i := 16) rfl ?_
    exact K_retI (pc := 28) (i := 17) rfl rfl ⟨fx, ⟨hI, trivial⟩⟩
  · skip
    refine K_iload_n (pc := 10) (i := 6) rfl rfl ?_
    exact K_retI (pc := 11) (i := 7) rfl rfl ⟨fx, ⟨hI, trivial⟩⟩
set_option maxHeartbeats 4000000 in
set_option maxRecDepth 100000 in
theorem c_War_tonightAt (G : kG) {g : kGh} {h : kH} {x1 : Int} {x2 : Int} (s1 : kR x1) (s2 : kR x2) (hI : Gd g h) : Ctr G y_War_tonightAt X_War_tonightAt 13 [.ref (G.2.2.2 0), kI x1, kI x2] h (kQi (fun z h' => Fx (fun c i => 160 ≤ c ∧ c ≤ 168) h h' ∧ (Gd g h' ∧ True))) := by
  refine Ctr.ofK (by decide) rfl T_War_tonightAt (Nat.le_of_ble_eq_true rfl) (lo := [(0, .ref (G.2.2.2 0)), (1, kI x1), (2, kI x2)]) rfl ?_
  have fx : Fx (fun c i => 160 ≤ c ∧ c ≤ 168) h h := Fx.rf
  refine K_iload_n (pc := 0) (i := 0) rfl rfl ?_
  first | refine K_if_ge 7 (pc := 1) (i := 1) rfl rfl (by omega) (fun b1 => ?_) (fun b1 => ?_) | refine K_if_ge_an 7 (pc := 1) (i := 1) rfl rfl (fun b1 => ?_) (fun b1 => ?_)
  · skip
    refine K_aload_n (pc := 7) (i := 4) rfl rfl ?_
    refine K_iload_n (pc := 8) (i := 5) rfl rfl ?_
    refine K_cVI (pc := 9) (i := 6) rfl (c_War_refusalOfPlan G (x1 := x1) (hI := hI) (s1 := by omega)) S_0 rfl (lv_War_210 rfl) rfl rfl rfl rfl rfl (fun v9 h9 q9 => ?_)
    obtain ⟨eh, r9⟩ := q9
    rw [eh]; clear eh
    refine K_ist_n (pc := 12) (i := 7) (lo' := [(0, _), (1, _), (2, _), (3, _)]) rfl rfl rfl rfl ?_
    refine K_iload_n (pc := 13) (i := 8) rfl rfl ?_
    first | refine K_if_eq 19 (pc := 14) (i := 9) rfl rfl (by omega) (fun b14 => ?_) (fun b14 => ?_) | refine K_if_eq_an 19 (pc := 14) (i := 9) rfl rfl (fun b14 => ?_) (fun b14 => ?_)
    · skip
      refine K_iload_n (pc := 19) (i := 12) rfl rfl ?_
      refine K_aload_n (pc := 20) (i := 13) rfl rfl ?_
      refine K_getR (pc := 21) (i := 14) (j := 1) (d := 3) rfl S_0 rfl (by decide) rfl fw_War_19 ?_
      refine K_getR (pc := 24) (i := 15) (j := 0) (d := 6) rfl (S_Sk sk3) rfl (by decide) rfl fw_War_88 ?_
      refine K_iload_n (pc := 27) (i := 16) rfl rfl ?_
      refine K_cVI (pc := 28) (i := 17) rfl (c_Fleet_ofTown G (f := 6) (hf := fl6) (x1 := x1) (hI := hI) (s1 := by omega)) (S_Fl fl6) rfl (lv_War_217 rfl) rfl rfl rfl rfl rfl (fun v28 h28 q28 => ?_)
      obtain ⟨eh, r28⟩ := q28
      rw [eh]; clear eh
      first | refine K_icmp_lt 37 (pc := 31) (i := 18) rfl rfl (by omega) (by omega) (fun b31 => ?_) (fun b31 => ?_) | refine K_icmp_lt_an 37 (pc := 31) (i := 18) rfl rfl (fun b31 => ?_) (fun b31 => ?_)
      · skip
        refine K_aload_n (pc := 37) (i := 21) rfl rfl ?_
        refine K_getR (pc := 38) (i := 22) (j := 5) (d := 160) rfl S_0 rfl (by decide) rfl fw_War_42 ?_
        refine K_aload_n (pc := 41) (i := 23) rfl rfl ?_
        refine K_getR (pc := 42) (i := 24) (j := 1) (d := 3) rfl S_0 rfl (by decide) rfl fw_War_19 ?_
        refine K_iload_n (pc := 45) (i := 25) rfl rfl ?_
        refine K_iconst (pc := 46) (i := 26) rfl ?_
        refine K_cVI (pc := 47) (i := 27) rfl (c_Plans_best G (x2 := x1) (x3 := 0) (hI := hI) (s2 := by omega)) S_160 rfl (lv_War_213 rfl) rfl rfl rfl rfl rfl (fun v47 h47 q47 => ?_)
        obtain ⟨fx47, q47⟩ := q47
        obtain ⟨hI, r47⟩ := q47
        have fx := fx.tr fx47 (fun c i q => (by first | (dsimp only at q ⊢; omega) | omega))
        refine K_pop (pc := 50) (i := 28) rfl rfl ?_
        refine K_aload_n (pc := 51) (i := 29) rfl rfl ?_
        refine K_getR (pc := 52) (i := 30) (j := 5) (d := 160) rfl S_0 rfl (by decide) rfl fw_War_42 ?_
        refine K_iload_n (pc := 55) (i := 31) rfl rfl ?_
        refine K_cVI (pc := 56) (i := 32) rfl (c_Plans_bestChange G (x1 := x2) (hI := hI) (s1 := by omega)) S_160 rfl (lv_War_220 rfl) rfl rfl rfl rfl rfl (fun v56 h56 q56 => ?_)
        obtain ⟨eh, r56⟩ := q56
        rw [eh]; clear eh
        exact K_retI (pc := 59) (i := 33) rfl rfl ⟨fx, ⟨hI, trivial⟩⟩
      · skip
        refine K_bipush (pc := 34) (i := 19) rfl rfl ?_
        exact K_retI (pc := 36) (i := 20) rfl rfl ⟨fx, ⟨hI, trivial⟩⟩
    · skip
      refine K_iload_n (pc := 17) (i := 10) rfl rfl ?_
      exact K_retI (pc := 18) (i := 11) rfl rfl ⟨fx, ⟨hI, trivial⟩⟩
  · skip
    refine K_bipush (pc := 4) (i := 2) rfl rfl ?_
    exact K_retI (pc := 6) (i := 3) rfl rfl ⟨fx, ⟨hI, trivial⟩⟩
set_option maxHeartbeats 4000000 in
set_option maxRecDepth 100000 in
theorem c_War_forSure (G : kG) {g : kGh} {h : kH} {x1 : Int} (s1 : kR x1) (hI : Gd g h) : Ctr G y_War_forSure X_War_forSure 13 [.ref (G.2.2.2 0), kI x1] h (kQi (fun z h' => Fx (fun c i => 160 ≤ c ∧ c ≤ 168) h h' ∧ (Gd g h' ∧ True))) := by
  refine Ctr.ofK (by decide) rfl T_War_forSure (Nat.le_of_ble_eq_true rfl) (lo := [(0, .ref (G.2.2.2 0)), (1, kI x1)]) rfl ?_
  have fx : Fx (fun c i => 160 ≤ c ∧ c ≤ 168) h h := Fx.rf
  refine K_aload_n (pc := 0) (i := 0) rfl rfl ?_
  refine K_iload_n (pc := 1) (i := 1) rfl rfl ?_
  refine K_cVI (pc := 2) (i := 2) rfl (c_War_refusalOfPlan G (x1 := x1) (hI := hI) (s1 := by omega)) S_0 rfl (lv_War_210 rfl) rfl rfl rfl rfl rfl (fun v2 h2 q2 => ?_)
  obtain ⟨eh, r2⟩ := q2
  rw [eh]; clear eh
  refine K_ist_n (pc := 5) (i := 3) (lo' := [(0, _), (1, _), (2, _)]) rfl rfl rfl rfl ?_
  refine K_iload_n (pc := 6) (i := 4) rfl rfl ?_
  first | refine K_if_eq 12 (pc := 7) (i := 5) rfl rfl (by omega) (fun b7 => ?_) (fun b7 => ?_) | refine K_if_eq_an 12 (pc := 7) (i := 5) rfl rfl (fun b7 => ?_) (fun b7 => ?_)
  · skip
    refine K_aload_n (pc := 12) (i := 8) rfl rfl ?_
    refine K_getR (pc := 13) (i := 9) (j := 1) (d := 3) rfl S_0 rfl (by decide) rfl fw_War_19 ?_
    refine K_getR (pc := 16) (i := 10) (j := 0) (d := 6) rfl (S_Sk sk3) rfl (by decide) rfl fw_War_88 ?_
    refine K_iconst (pc := 19) (i := 11) rfl ?_
    refine K_iload_n (pc := 20) (i := 12) rfl rfl ?_
    refine K_isub (pc := 21) (i := 13) rfl ?_
    refine K_cVI (pc := 22) (i := 14) rfl (c_Fleet_ofTown G (f := 6) (hf := fl6) (x1 := 1 - x1) (hI := hI) (s1 := by omega)) (S_Fl fl6) rfl (lv_War_217 rfl) rfl rfl rfl rfl rfl (fun v22 h22 q22 => ?_)
    obtain ⟨eh, r22⟩ := q22
    rw [eh]; clear eh
    refine K_iconst (pc := 25) (i := 15) rfl ?_
    first | refine K_icmp_le 32 (pc := 26) (i := 16) rfl rfl (by omega) (by omega) (fun b26 => ?_) (fun b26 => ?_) | refine K_icmp_le_an 32 (pc := 26) (i := 16) rfl rfl (fun b26 => ?_) (fun b26 => ?_)
    · skip
      refine K_aload_n (pc := 32) (i := 19) rfl rfl ?_
      refine K_getR (pc := 33) (i := 20) (j := 5) (d := 160) rfl S_0 rfl (by decide) rfl fw_War_42 ?_
      refine K_aload_n (pc := 36) (i := 21) rfl rfl ?_
      refine K_getR (pc := 37) (i := 22) (j := 1) (d := 3) rfl S_0 rfl (by decide) rfl fw_War_19 ?_
      refine K_iload_n (pc := 40) (i := 23) rfl rfl ?_
      refine K_iconst (pc := 41) (i := 24) rfl ?_
      refine K_cVI (pc := 42) (i := 25) rfl (c_Plans_best G (x2 := x1) (x3 := 1) (hI := hI) (s2 := by omega)) S_160 rfl (lv_War_213 rfl) rfl rfl rfl rfl rfl (fun v42 h42 q42 => ?_)
      obtain ⟨fx42, q42⟩ := q42
      obtain ⟨hI, r42⟩ := q42
      have fx := fx.tr fx42 (fun c i q => (by first | (dsimp only at q ⊢; omega) | omega))
      refine K_bipush (pc := 45) (i := 26) rfl rfl ?_
      refine K_iadd (pc := 47) (i := 27) rfl ?_
      exact K_retI (pc := 48) (i := 28) rfl rfl ⟨fx, ⟨hI, trivial⟩⟩
    · skip
      refine K_bipush (pc := 29) (i := 17) rfl rfl ?_
      exact K_retI (pc := 31) (i := 18) rfl rfl ⟨fx, ⟨hI, trivial⟩⟩
  · skip
    refine K_iload_n (pc := 10) (i := 6) rfl rfl ?_
    exact K_retI (pc := 11) (i := 7) rfl rfl ⟨fx, ⟨hI, trivial⟩⟩
set_option maxHeartbeats 4000000 in
set_option maxRecDepth 100000 in
theorem c_War_fits (G : kG) {g : kGh} {h : kH}  (hI : Gd g h) : Ctr G y_War_fits X_War_fits 13 [.ref (G.2.2.2 0)] h (kQi (fun z h' => Fx (fun c i => 173 ≤ c ∧ c ≤ 181) h h' ∧ (Gd g h' ∧ True))) := by
  refine Ctr.ofK (by decide) rfl T_War_fits (Nat.le_of_ble_eq_true rfl) (lo := [(0, .ref (G.2.2.2 0))]) rfl ?_
  have fx : Fx (fun c i => 173 ≤ c ∧ c ≤ 181) h h := Fx.rf
  refine K_aload_n (pc := 0) (i := 0) rfl rfl ?_
  refine K_getR (pc := 1) (i := 1) (j := 6) (d := 169) rfl S_0 rfl (by decide) rfl fw_War_49 ?_
  refine K_aload_n (pc := 4) (i := 2) rfl rfl ?_
  refine K_getR (pc := 5) (i := 3) (j := 1) (d := 3) rfl S_0 rfl (by decide) rfl fw_War_19 ?_
  refine K_getR (pc := 8) (i := 4) (j := 0) (d := 6) rfl (S_Sk sk3) rfl (by decide) rfl fw_War_88 ?_
  refine K_cVI (pc := 11) (i := 5) rfl (c_Seen_countRows G (f := 6) (hf := fl6) (hI := hI) (hr := by omega)) S_169 rfl (lv_War_230 rfl) rfl rfl rfl rfl rfl (fun v11 h11 q11 => ?_)
  obtain ⟨fx11, q11⟩ := q11
  obtain ⟨hI, r11⟩ := q11
  have fx := fx.tr fx11 (fun c i q => (by first | (dsimp only at q ⊢; omega) | omega))
  exact K_retI (pc := 14) (i := 6) rfl rfl ⟨fx, ⟨hI, trivial⟩⟩
set_option maxHeartbeats 4000000 in
set_option maxRecDepth 100000 in
theorem c_War_height (G : kG) {g : kGh} {h : kH} {x1 : Int} {x2 : Int} (s1 : kR x1) (s2 : kR x2) (hI : Gd g h) : Ctr G y_War_height X_War_height 13 [.ref (G.2.2.2 0), kI x1, kI x2] h (kQi (fun z h' => Fx (fun c i => 173 ≤ c ∧ c ≤ 181) h h' ∧ (Gd g h' ∧ True))) := by
  refine Ctr.ofK (by decide) rfl T_War_height (Nat.le_of_ble_eq_true rfl) (lo := [(0, .ref (G.2.2.2 0)), (1, kI x1), (2, kI x2)]) rfl ?_
  have fx : Fx (fun c i => 173 ≤ c ∧ c ≤ 181) h h := Fx.rf
  refine K_aload_n (pc := 0) (i := 0) rfl rfl ?_
  refine K_iload_n (pc := 1) (i := 1) rfl rfl ?_
  refine K_cVI (pc := 2) (i := 2) rfl (c_War_isSeenKite G (x1 := x1) (hI := hI) (s1 := by omega)) S_0 rfl (lv_War_223 rfl) rfl rfl rfl rfl rfl (fun v2 h2 q2 => ?_)
  obtain ⟨eh, r2⟩ := q2
  rw [eh]; clear eh
  first | refine K_if_ne 10 (pc := 5) (i := 3) rfl rfl (by omega) (fun b5 => ?_) (fun b5 => ?_) | refine K_if_ne_an 10 (pc := 5) (i := 3) rfl rfl (fun b5 => ?_) (fun b5 => ?_)
  · skip
    refine K_aload_n (pc := 10) (i := 6) rfl rfl ?_
    refine K_getR (pc := 11) (i := 7) (j := 6) (d := 169) rfl S_0 rfl (by decide) rfl fw_War_49 ?_
    refine K_aload_n (pc := 14) (i := 8) rfl rfl ?_
    refine K_getR (pc := 15) (i := 9) (j := 1) (d := 3) rfl S_0 rfl (by decide) rfl fw_War_19 ?_
    refine K_getR (pc := 18) (i := 10) (j := 0) (d := 6) rfl (S_Sk sk3) rfl (by decide) rfl fw_War_88 ?_
    refine K_cVI (pc := 21) (i := 11) rfl (c_Seen_countRows G (f := 6) (hf := fl6) (hI := hI) (hr := by omega)) S_169 rfl (lv_War_230 rfl) rfl rfl rfl rfl rfl (fun v21 h21 q21 => ?_)
    obtain ⟨fx21, q21⟩ := q21
    obtain ⟨hI, r21⟩ := q21
    have fx := fx.tr fx21 (fun c i q => (by first | (dsimp only at q ⊢; omega) | omega))
    first | refine K_if_ne 30 (pc := 24) (i := 12) rfl rfl (by omega) (fun b24 => ?_) (fun b24 => ?_) | refine K_if_ne_an 30 (pc := 24) (i := 12) rfl rfl (fun b24 => ?_) (fun b24 => ?_)
    · skip
      refine K_iload_n (pc := 30) (i := 15) rfl rfl ?_
      first | refine K_if_eq 46 (pc := 31) (i := 16) rfl rfl (by omega) (fun b31 => ?_) (fun b31 => ?_) | refine K_if_eq_an 46 (pc := 31) (i := 16) rfl rfl (fun b31 => ?_) (fun b31 => ?_)
      · skip
        refine K_aload_n (pc := 46) (i := 23) rfl rfl ?_
        refine K_getR (pc := 47) (i := 24) (j := 6) (d := 169) rfl S_0 rfl (by decide) rfl fw_War_49 ?_
        refine K_getR (pc := 50) (i := 25) (j := 4) (d := 180) rfl S_169 rfl (by decide) rfl fw_War_236 ?_
        refine K_iload_n (pc := 53) (i := 26) rfl rfl ?_
        refine K_iald (pc := 54) (i := 27) rfl S_180 (by omega) (by omega) (by decide) ?_
        refine K_any (fun v54 r54 => ?_)
        exact K_retI (pc := 55) (i := 28) rfl rfl ⟨fx, ⟨hI, trivial⟩⟩
      · skip
        refine K_aload_n (pc := 34) (i := 17) rfl rfl ?_
        refine K_getR (pc := 35) (i := 18) (j := 6) (d := 169) rfl S_0 rfl (by decide) rfl fw_War_49 ?_
        refine K_getR (pc := 38) (i := 19) (j := 5) (d := 181) rfl S_169 rfl (by decide) rfl fw_War_233 ?_
        refine K_iload_n (pc := 41) (i := 20) rfl rfl ?_
        refine K_iald (pc := 42) (i := 21) rfl S_181 (by omega) (by omega) (by decide) ?_
        refine K_any (fun v42 r42 => ?_)
        refine K_goto 55 (pc := 43) (i := 22) rfl rfl ?_
        exact K_retI (pc := 55) (i := 28) rfl rfl ⟨fx, ⟨hI, trivial⟩⟩
    · skip
      refine K_bipush (pc := 27) (i := 13) rfl rfl ?_
      exact K_retI (pc := 29) (i := 14) rfl rfl ⟨fx, ⟨hI, trivial⟩⟩
  · skip
    refine K_iconst (pc := 8) (i := 4) rfl ?_
    exact K_retI (pc := 9) (i := 5) rfl rfl ⟨fx, ⟨hI, trivial⟩⟩
end
section
/-- the wind by a seed -/
def wdv (sd : Int) : Int := kL2i (kLrem (kLushr sd 33) 7) - 3
/-- gusts of an autumn -/
def AUC (s : Nat) (sd : Int) : Nat → kH → kH → Prop
  | 0, h, h' => h' = h
  | m + 1, h, h' => ∃ (h1 h2 : kH) (z : Int), AUC s sd m h h1 ∧ ((∀ c, s + 3 ≤ c → c ≤ s + 9 → h2 c = h1 c) ∧ ∀ i : Nat, 1 ≤ i → i < 10 → h2 (s + 1) i = wdv (itr (9 * m + i) sd)) ∧ kR z ∧ BLW h2 h' s z
def CWautumn (h : kH) (sd x m z : Int) : Prop := (¬ (0 ≤ x ∧ x ≤ 1 ∧ 1 ≤ m ∧ m ≤ 20) ∧ z = -2) ∨ ((0 ≤ x ∧ x ≤ 1 ∧ 1 ≤ m ∧ m ≤ 20) ∧ ∃ ht hz : kH, FC ht 16 h 6 ∧ AUC 13 sd m.toNat ht hz ∧ z = hz 22 x.toNat - h 12 x.toNat)
set_option maxHeartbeats 4000000 in
set_option maxRecDepth 100000 in
theorem c_War_autumn (G : kG) {g : kGh} {h : kH} {x1 : Int} {x2 : Int} (s1 : kR x1) (s2 : kR x2) (hI : Gd g h) : Ctr G y_War_autumn X_War_autumn 13 [.ref (G.2.2.2 0), kI x1, kI x2] h (kQi (fun z h' => Fx (fun c i => c = 0 ∨ (13 ≤ c ∧ c ≤ 22)) h h' ∧ (((¬ (0 ≤ x1 ∧ x1 ≤ 1 ∧ 1 ≤ x2 ∧ x2 ≤ 20) ∧ Gd g h') ∨ ((0 ≤ x1 ∧ x1 ≤ 1 ∧ 1 ≤ x2 ∧ x2 ≤ 20) ∧ Gd (g.1, itr (9 * x2).toNat g.2.1, g.2.2) h')) ∧ CWautumn h g.2.1 x1 x2 z))) := by
  refine Ctr.ofK (by decide) rfl T_War_autumn (Nat.le_of_ble_eq_true rfl) (lo := [(0, .ref (G.2.2.2 0)), (1, kI x1), (2, kI x2)]) rfl ?_
  have fx : Fx (fun c i => c = 0 ∨ (13 ≤ c ∧ c ≤ 22)) h h := Fx.rf
  refine K_iload_n (pc := 0) (i := 0) rfl rfl ?_
  refine K_cSI (pc := 1) (i := 1) rfl (c_War_isTown G (x0 := x1) (s0 := by omega)) (ls_War_146 rfl) rfl rfl rfl rfl (fun v1 h1 q1 => ?_)
  obtain ⟨eh, r1⟩ := q1
  rw [eh]; clear eh
  first | refine K_if_eq 17 (pc := 4) (i := 2) rfl rfl (by omega) (fun b4 => ?_) (fun b4 => ?_) | refine K_if_eq_an 17 (pc := 4) (i := 2) rfl rfl (fun b4 => ?_) (fun b4 => ?_)
  · skip
    refine K_bipush (pc := 17) (i := 8) rfl rfl ?_
    exact K_retI (pc := 19) (i := 9) rfl rfl ⟨fx, ⟨Or.inl ⟨by omega, hI⟩, Or.inl ⟨by omega, rfl⟩⟩⟩
  · skip
    refine K_iload_n (pc := 7) (i := 3) rfl rfl ?_
    refine K_iconst (pc := 8) (i := 4) rfl ?_
    refine K_bipush (pc := 9) (i := 5) rfl rfl ?_
    refine K_cSI (pc := 11) (i := 6) rfl (c_War_isWithin G (x0 := x2) (x1 := 1) (x2 := 20) (s0 := by omega) (s1 := by omega) (s2 := by omega)) (ls_War_124 rfl) rfl rfl rfl rfl (fun v11 h11 q11 => ?_)
    obtain ⟨eh, r11⟩ := q11
    rw [eh]; clear eh
    first | refine K_if_ne 20 (pc := 14) (i := 7) rfl rfl (by omega) (fun b14 => ?_) (fun b14 => ?_) | refine K_if_ne_an 20 (pc := 14) (i := 7) rfl rfl (fun b14 => ?_) (fun b14 => ?_)
    · skip
      refine K_aload_n (pc := 20) (i := 10) rfl rfl ?_
      refine K_getR (pc := 21) (i := 11) (j := 2) (d := 13) rfl S_0 rfl (by decide) rfl fw_War_23 ?_
      refine K_aload_n (pc := 24) (i := 12) rfl rfl ?_
      refine K_getR (pc := 25) (i := 13) (j := 1) (d := 3) rfl S_0 rfl (by decide) rfl fw_War_19 ?_
      refine K_cVV (pc := 28) (i := 14) rfl (c_Sky_copyFrom G (s := 13) (hs := sk13) (s2 := 3) (hs2 := sk3) (hI := hI) (dj := by omega)) (S_Sk sk13) rfl (lv_War_201 rfl) rfl rfl rfl rfl rfl (fun h28 q28 => ?_)
      obtain ⟨fx28, q28⟩ := q28
      obtain ⟨hI, fc28, wc28⟩ := q28
      have fx := fx.tr fx28 (fun c i q => (by first | (dsimp only at q ⊢; omega) | omega))
      refine K_iconst (pc := 31) (i := 15) rfl ?_
      refine K_ist_n (pc := 32) (i := 16) (lo' := [(0, _), (1, _), (2, _), (3, _)]) rfl rfl rfl rfl ?_
      have L33 : ∀ (n : Nat) (x3 : Int) (ha : kH), (x2 - x3).toNat < n → (Fx (fun c i => c = 0 ∨ (13 ≤ c ∧ c ≤ 22)) h ha) → (Gd (g.1, itr (9 * x3).toNat g.2.1, g.2.2) ha ∧ (0 ≤ x3 ∧ x3 ≤ x2) ∧ AUC 13 g.2.1 x3.toNat h28 ha) → K X_War_autumn G (kZm G 13 (kQi (fun z h' => Fx (fun c i => c = 0 ∨ (13 ≤ c ∧ c ≤ 22)) h h' ∧ (((¬ (0 ≤ x1 ∧ x1 ≤ 1 ∧ 1 ≤ x2 ∧ x2 ≤ 20) ∧ Gd g h') ∨ ((0 ≤ x1 ∧ x1 ≤ 1 ∧ 1 ≤ x2 ∧ x2 ≤ 20) ∧ Gd (g.1, itr (9 * x2).toNat g.2.1, g.2.2) h')) ∧ CWautumn h g.2.1 x1 x2 z)))) 33 [(0, .ref (G.2.2.2 0)), (1, kI x1), (2, kI x2), (3, kI x3)] [] ha := by
        intro n
        induction n with
        | zero => intro x3 ha hm; exact absurd hm (Nat.not_lt_zero _)
        | succ n ih33 =>
          intro x3 ha hm33 fx hV33
          have hI := hV33.1
          have hV := hV33.2.1
          refine K_iload_n (pc := 33) (i := 17) rfl rfl ?_
          refine K_iload_n (pc := 34) (i := 18) rfl rfl ?_
          first | refine K_icmp_ge 108 (pc := 35) (i := 19) rfl rfl (by omega) (by omega) (fun b35 => ?_) (fun b35 => ?_) | refine K_icmp_ge_an 108 (pc := 35) (i := 19) rfl rfl (fun b35 => ?_) (fun b35 => ?_)
          · skip
            refine K_aload_n (pc := 108) (i := 55) rfl rfl ?_
            refine K_iload_n (pc := 109) (i := 56) rfl rfl ?_
            refine K_cVI (pc := 110) (i := 57) rfl (c_War_wonInTrial G (x1 := x1) (hI := hI) (s1 := by omega)) S_0 rfl (lv_War_207 rfl) rfl rfl rfl rfl rfl (fun v110 h110 q110 => ?_)
            obtain ⟨eh, r110⟩ := q110
            rw [eh]; clear eh
            exact K_retI (pc := 113) (i := 58) rfl rfl ⟨fx, ⟨Or.inr ⟨by omega, Gd.sdT hI (by rw [show x3 = x2 by omega])⟩, Or.inr ⟨by omega, h28, ha, fc28, by have q := hV33.2.2; rwa [show x3 = x2 by omega] at q, by rw [r110, fx 12 x1.toNat (by first | (dsimp only; omega) | omega | exact not_false)]⟩⟩⟩
          · skip
            refine K_iconst (pc := 38) (i := 20) rfl ?_
            refine K_ist (pc := 39) (i := 21) (lo' := [(0, _), (1, _), (2, _), (3, _), (4, _)]) rfl rfl rfl rfl ?_
            have L41 : ∀ (n : Nat) (x4 : Int) (hb : kH), (10 - x4).toNat < n → (Fx (fun c i => c = 0 ∨ (13 ≤ c ∧ c ≤ 22)) h hb) → (Gd (g.1, itr (9 * x3 + x4 - 1).toNat g.2.1, g.2.2) hb ∧ (1 ≤ x4 ∧ x4 ≤ 10) ∧ (∀ c, c ≠ 0 → c ≠ 14 → hb c = ha c) ∧ ∀ i : Nat, 1 ≤ i → (i : Int) < x4 → hb 14 i = wdv (itr (9 * x3.toNat + i) g.2.1)) → K X_War_autumn G (kZm G 13 (kQi (fun z h' => Fx (fun c i => c = 0 ∨ (13 ≤ c ∧ c ≤ 22)) h h' ∧ (((¬ (0 ≤ x1 ∧ x1 ≤ 1 ∧ 1 ≤ x2 ∧ x2 ≤ 20) ∧ Gd g h') ∨ ((0 ≤ x1 ∧ x1 ≤ 1 ∧ 1 ≤ x2 ∧ x2 ≤ 20) ∧ Gd (g.1, itr (9 * x2).toNat g.2.1, g.2.2) h')) ∧ CWautumn h g.2.1 x1 x2 z)))) 41 [(0, .ref (G.2.2.2 0)), (1, kI x1), (2, kI x2), (3, kI x3), (4, kI x4)] [] hb := by
              intro n
              induction n with
              | zero => intro x4 hb hm; exact absurd hm (Nat.not_lt_zero _)
              | succ n ih41 =>
                intro x4 hb hm41 fx hV41
                have hI := hV41.1
                have hW := hV41.2.1
                have e8 : hb 0 8 = itr (9 * x3 + x4 - 1).toNat g.2.1 := hI.2.2.1
                refine K_iload (pc := 41) (i := 22) rfl rfl ?_
                refine K_bipush (pc := 43) (i := 23) rfl rfl ?_
                first | refine K_icmp_gt 94 (pc := 45) (i := 24) rfl rfl (by omega) (by omega) (fun b45 => ?_) (fun b45 => ?_) | refine K_icmp_gt_an 94 (pc := 45) (i := 24) rfl rfl (fun b45 => ?_) (fun b45 => ?_)
                · skip
                  refine K_aload_n (pc := 94) (i := 49) rfl rfl ?_
                  refine K_getR (pc := 95) (i := 50) (j := 2) (d := 13) rfl S_0 rfl (by decide) rfl fw_War_23 ?_
                  refine K_cVI (pc := 98) (i := 51) rfl (c_Sky_blow G (s := 13) (hs := sk13) (hI := hI)) (S_Sk sk13) rfl (lv_War_160 rfl) rfl rfl rfl rfl rfl (fun v98 h98 q98 => ?_)
                  obtain ⟨fx98, q98⟩ := q98
                  obtain ⟨hI, r98, bw98⟩ := q98
                  have fx := fx.tr fx98 (fun c i q => (by first | (dsimp only at q ⊢; omega) | omega))
                  refine K_pop (pc := 101) (i := 52) rfl rfl ?_
                  refine K_inc (pc := 102) (i := 53) (q := 3) (lo' := [(0, _), (1, _), (2, _), (3, _), (4, _)]) rfl rfl rfl rfl rfl ?_
                  refine K_goto 33 (pc := 105) (i := 54) rfl rfl ?_
                  refine K_drop (lo' := [(0, .ref (G.2.2.2 0)), (1, kI x1), (2, kI x2), (3, kI (x3 + 1))]) [0, 1, 2, 3] rfl ?_
                  exact ih33 (x3 + 1) _ (by omega) fx ⟨Gd.sdT hI (by rw [show (9 * (x3 + 1)).toNat = (9 * x3 + x4 - 1).toNat by omega]), by omega, by rw [show (x3 + 1).toNat = x3.toNat + 1 by omega]; exact ⟨ha, hb, v98, hV33.2.2, ⟨fun c p q => hV41.2.2.1 c (by omega) (by omega), fun i p q => hV41.2.2.2 i p (by omega)⟩, r98, bw98⟩⟩
                · skip
                  refine K_aload_n (pc := 48) (i := 25) rfl rfl ?_
                  refine K_aload_n (pc := 49) (i := 26) rfl rfl ?_
                  refine K_getJ (pc := 50) (i := 27) (j := 8) rfl S_0 rfl (by decide) rfl fw_War_60 ?_
                  refine K_ldc2 (6364136223846793005) (pc := 53) (i := 28) rfl cl_War_239 (by decide) ?_
                  refine K_lmul (pc := 56) (i := 29) rfl ?_
                  refine K_ldc2 (1442695040888963407) (pc := 57) (i := 30) rfl cl_War_241 (by decide) ?_
                  refine K_ladd (pc := 60) (i := 31) rfl ?_
                  refine K_putJ (pc := 61) (i := 32) (j := 8) rfl S_0 rfl (by decide) rfl rfl rfl fw_War_60 ?_
                  have hI := st_seed hI (v := hb 0 8 * 6364136223846793005 + 1442695040888963407)
                  have fx := Fx.st (c := 0) (i := 8) (v := ((hb 0 8) * 6364136223846793005) + 1442695040888963407) fx (by first | (dsimp only; omega) | omega | exact not_false)
                  refine K_aload_n (pc := 64) (i := 33) rfl rfl ?_
                  refine K_getR (pc := 65) (i := 34) (j := 2) (d := 13) rfl S_0 rfl (by decide) rfl fw_War_23 ?_
                  refine K_getR (pc := 68) (i := 35) (j := 1) (d := 14) rfl (S_Sk sk13) rfl (by decide) rfl fw_War_128 ?_
                  refine K_iload (pc := 71) (i := 36) rfl rfl ?_
                  refine K_aload_n (pc := 73) (i := 37) rfl rfl ?_
                  refine K_getJ (pc := 74) (i := 38) (j := 8) rfl S_0 rfl (by decide) rfl fw_War_60 ?_
                  refine K_bipush (pc := 77) (i := 39) rfl rfl ?_
                  refine K_lushr (pc := 79) (i := 40) rfl ?_
                  refine K_ldc2 (7) (pc := 80) (i := 41) rfl cl_War_243 (by decide) ?_
                  refine K_lrem (pc := 83) (i := 42) rfl (by decide) ?_
                  refine K_l2i (pc := 84) (i := 43) rfl ?_
                  refine K_nm (fun v84 e84 => ?_)
                  have r84 := kL2i_R (kLrem (kLushr ((kU hb 0 8 (((hb 0 8) * 6364136223846793005) + 1442695040888963407)) 0 8) 33) 7)
                  rw [← e84] at r84
                  have t84 : 0 ≤ v84 ∧ v84 ≤ 6 := by rw [e84]; exact wd7 _
                  have y84 : v84 - 3 = wdv (itr (9 * x3.toNat + x4.toNat) g.2.1) := by unfold wdv; rw [e84, kU_at, if_pos ⟨rfl, rfl⟩, e8, show 9 * x3.toNat + x4.toNat = (9 * x3 + x4 - 1).toNat + 1 by omega, itr]
                  refine K_iconst (pc := 85) (i := 44) rfl ?_
                  refine K_isub (pc := 86) (i := 45) rfl ?_
                  refine K_iast (pc := 87) (i := 46) rfl (S_Sk1 sk13) (by omega) (by omega) (by decide) ?_
                  have hI := st_wind hI sk13 (i := (x4).toNat) (v := v84 - 3) (by omega)
                  have fx := Fx.st (c := 14) (i := (x4).toNat) (v := v84 - 3) fx (by first | (dsimp only; omega) | omega | exact not_false)
                  have wd87 : ∀ i : Nat, 1 ≤ i → (i : Int) < x4 + 1 → (kU (kU hb 0 8 (((hb 0 8) * 6364136223846793005) + 1442695040888963407)) 14 ((x4).toNat) (v84 - 3)) 14 i = wdv (itr (9 * x3.toNat + i) g.2.1) := fun i p q => by rw [kU_s]; by_cases e : i = x4.toNat; (rw [if_pos e, y84, e]); (rw [if_neg e, kU_c _ _ _ _ (by decide)]; exact hV41.2.2.2 i p (by omega))
                  refine K_inc (pc := 88) (i := 47) (q := 4) (lo' := [(0, _), (1, _), (2, _), (3, _), (4, _)]) rfl rfl rfl rfl rfl ?_
                  refine K_goto 41 (pc := 91) (i := 48) rfl rfl ?_
                  exact ih41 (x4 + 1) _ (by omega) fx ⟨Gd.sdT hI (by rw [show (9 * x3 + (x4 + 1) - 1).toNat = (9 * x3 + x4 - 1).toNat + 1 by omega, itr, ← e8]), by omega, fun c p q => (kU_c _ _ _ _ q).trans ((kU_c _ _ _ _ p).trans (hV41.2.2.1 c p q)), wd87⟩
            exact L41 _ 1 _ (Nat.lt_succ_self _) fx ⟨Gd.sdT hI (by rw [show (9 * x3 + 1 - 1).toNat = (9 * x3).toNat by omega]), by omega, fun _ _ _ => rfl, fun i p q => absurd q (by omega)⟩
      exact L33 _ 0 _ (Nat.lt_succ_self _) fx ⟨Gd.sd rfl hI, by omega, rfl⟩
    · skip
      refine K_bipush (pc := 17) (i := 8) rfl rfl ?_
      exact K_retI (pc := 19) (i := 9) rfl rfl ⟨fx, ⟨Or.inl ⟨by omega, hI⟩, Or.inl ⟨by omega, rfl⟩⟩⟩
end
section
/-- the lead with a kite launched: its stake and its height as one number -/
def PC (h : kH) (t gl n : Int) (c : Nat) (v : Int) : Prop := ∃ ht ha hz : kH, FC ht 16 h 6 ∧ (∀ i, i < 10 → ht 14 i = h 4 i) ∧ FA ht ha 16 t ((c / 9 : Nat) : Int) ((c / 9 : Nat) : Int) (((c % 9 : Nat) : Int) + 1) gl ∧ ha 14 = ht 14 ∧ BTW 13 n.toNat ha hz ∧ v = (hz 22 t.toNat - h 12 t.toNat) - (hz 22 (1 - t).toNat - h 12 (1 - t).toNat)
theorem PC.mk {h hb h97 h115 h123 : kH} {t gl n s e : Int} {c : Nat} (ec : ((c / 9 : Nat) : Int) = s) (ee : ((c % 9 : Nat) : Int) + 1 = e) (fs : ∀ c, 4 ≤ c → c ≤ 12 → hb c = h c) (fc : FC h97 16 hb 6) (wc : ∀ i, h97 14 i = if i < 10 then hb 4 i else hb 14 i) (fa : FA h97 h115 16 t s s e gl) (ew : h115 14 = h97 14) (bt : BTW 13 n.toNat h115 h123) : PC h t gl n c ((h123 22 t.toNat - h 12 t.toNat) - (h123 22 (1 - t).toNat - h 12 (1 - t).toNat)) := by
  subst ec; subst ee
  refine ⟨h97, h115, h123, (FC.same (fun c a b => fs c (by omega) (by omega))).tr fc, fun i hi => ?_, fa, ew, bt, rfl⟩
  rw [wc i, if_pos hi, fs 4 (by omega) (by omega)]
theorem PC.bd {h : kH} {t gl n v : Int} {c : Nat} (a : PC h t gl n c v) (h0 : 0 ≤ h 6 6) (h7 : h 6 6 ≤ 7) (hn : 0 ≤ n ∧ n ≤ 5) (ht2 : 0 ≤ t ∧ t ≤ 1) : -40 ≤ v ∧ v ≤ 40 := by
  obtain ⟨ht, ha, hz, a1, a2, a3, a4, a5, a6⟩ := a
  have k0 : ht 16 6 = h 6 6 := a1.1
  have k1 : ha 16 6 = ht 16 6 + 1 := a3.1
  have b := BTW.bd (s := 13) (h := ha) (show 0 ≤ ha 16 6 by omega) (show ha 16 6 ≤ 8 by omega) a5
  have w : ∀ i, i < 2 → ha 22 i = h 12 i := fun i hi => (a3.2.2.2 i).trans (a1.2.2 i hi)
  have b0 : ha 22 t.toNat ≤ hz 22 t.toNat ∧ hz 22 t.toNat ≤ ha 22 t.toNat + 8 * n.toNat := b.2 t.toNat (by omega)
  have b1 : ha 22 (1 - t).toNat ≤ hz 22 (1 - t).toNat ∧ hz 22 (1 - t).toNat ≤ ha 22 (1 - t).toNat + 8 * n.toNat := b.2 (1 - t).toNat (by omega)
  rw [w _ (by omega)] at b0 b1
  omega
def CWtoLaunch (h : kH) (t gl n z : Int) : Prop := (¬ ((0 ≤ t ∧ t ≤ 1) ∧ (0 ≤ gl ∧ gl ≤ 9) ∧ 1 ≤ n ∧ n ≤ 5) ∧ z = -2) ∨ (((0 ≤ t ∧ t ≤ 1) ∧ (0 ≤ gl ∧ gl ≤ 9) ∧ 1 ≤ n ∧ n ≤ 5) ∧ 8 ≤ h 6 6 ∧ z = -4) ∨ (((0 ≤ t ∧ t ≤ 1) ∧ (0 ≤ gl ∧ gl ≤ 9) ∧ 1 ≤ n ∧ n ≤ 5) ∧ h 6 6 < 8 ∧ ∃ m : Int, TLR (PC h t gl n) (fun s => ¬ hsF h 6 s) (-100) 0 369 m z)
theorem hsF.of {h h' : kH} {x : Int} (e : ∀ c, 6 ≤ c → c ≤ 12 → h' c = h c) : hsF h' 6 x ↔ hsF h 6 x := by
  unfold hsF
  rw [e 6 (by omega) (by omega), e (6 + 2) (by omega) (by omega)]
set_option maxHeartbeats 4000000 in
set_option maxRecDepth 100000 in
theorem c_War_toLaunch (G : kG) {g : kGh} {h : kH} {x1 : Int} {x2 : Int} {x3 : Int} (s1 : kR x1) (s2 : kR x2) (s3 : kR x3) (hI : Gd g h) : Ctr G y_War_toLaunch X_War_toLaunch 13 [.ref (G.2.2.2 0), kI x1, kI x2, kI x3] h (kQi (fun z h' => Fx (fun c i => 13 ≤ c ∧ c ≤ 22) h h' ∧ (Gd g h' ∧ CWtoLaunch h x1 x2 x3 z))) := by
  refine Ctr.ofK (by decide) rfl T_War_toLaunch (Nat.le_of_ble_eq_true rfl) (lo := [(0, .ref (G.2.2.2 0)), (1, kI x1), (2, kI x2), (3, kI x3)]) rfl ?_
  have fx : Fx (fun c i => 13 ≤ c ∧ c ≤ 22) h h := Fx.rf
  have n00 := rd_kites hI fl6
  refine K_iload_n (pc := 0) (i := 0) rfl rfl ?_
  refine K_cSI (pc := 1) (i := 1) rfl (c_War_isTown G (x0 := x1) (s0 := by omega)) (ls_War_146 rfl) rfl rfl rfl rfl (fun v1 h1 q1 => ?_)
  obtain ⟨eh, r1⟩ := q1
  rw [eh]; clear eh
  first | refine K_if_eq 23 (pc := 4) (i := 2) rfl rfl (by omega) (fun b4 => ?_) (fun b4 => ?_) | refine K_if_eq_an 23 (pc := 4) (i := 2) rfl rfl (fun b4 => ?_) (fun b4 => ?_)
  · skip
    refine K_bipush (pc := 23) (i := 11) rfl rfl ?_
    exact K_retI (pc := 25) (i := 12) rfl rfl ⟨fx, ⟨hI, Or.inl ⟨by omega, rfl⟩⟩⟩
  · skip
    refine K_iload_n (pc := 7) (i := 3) rfl rfl ?_
    refine K_cSI (pc := 8) (i := 4) rfl (c_War_isGlass G (x0 := x2) (s0 := by omega)) (ls_War_149 rfl) rfl rfl rfl rfl (fun v8 h8 q8 => ?_)
    obtain ⟨eh, r8⟩ := q8
    rw [eh]; clear eh
    first | refine K_if_eq 23 (pc := 11) (i := 5) rfl rfl (by omega) (fun b11 => ?_) (fun b11 => ?_) | refine K_if_eq_an 23 (pc := 11) (i := 5) rfl rfl (fun b11 => ?_) (fun b11 => ?_)
    · skip
      refine K_bipush (pc := 23) (i := 11) rfl rfl ?_
      exact K_retI (pc := 25) (i := 12) rfl rfl ⟨fx, ⟨hI, Or.inl ⟨by omega, rfl⟩⟩⟩
    · skip
      refine K_iload_n (pc := 14) (i := 6) rfl rfl ?_
      refine K_iconst (pc := 15) (i := 7) rfl ?_
      refine K_iconst (pc := 16) (i := 8) rfl ?_
      refine K_cSI (pc := 17) (i := 9) rfl (c_War_isWithin G (x0 := x3) (x1 := 1) (x2 := 5) (s0 := by omega) (s1 := by omega) (s2 := by omega)) (ls_War_124 rfl) rfl rfl rfl rfl (fun v17 h17 q17 => ?_)
      obtain ⟨eh, r17⟩ := q17
      rw [eh]; clear eh
      first | refine K_if_ne 26 (pc := 20) (i := 10) rfl rfl (by omega) (fun b20 => ?_) (fun b20 => ?_) | refine K_if_ne_an 26 (pc := 20) (i := 10) rfl rfl (fun b20 => ?_) (fun b20 => ?_)
      · skip
        refine K_aload_n (pc := 26) (i := 13) rfl rfl ?_
        refine K_getR (pc := 27) (i := 14) (j := 1) (d := 3) rfl S_0 rfl (by decide) rfl fw_War_19 ?_
        refine K_getR (pc := 30) (i := 15) (j := 0) (d := 6) rfl (S_Sk sk3) rfl (by decide) rfl fw_War_88 ?_
        refine K_getI (pc := 33) (i := 16) (j := 6) rfl (S_Fl fl6) rfl (by decide) rfl fw_War_92 ?_
        refine K_nm (fun v33 e33 => ?_)
        have r33 := rd_kites hI fl6
        rw [← e33] at r33
        have t33 : v33 = h 6 6 := e33
        refine K_bipush (pc := 36) (i := 17) rfl rfl ?_
        first | refine K_icmp_lt 44 (pc := 38) (i := 18) rfl rfl (by omega) (by omega) (fun b38 => ?_) (fun b38 => ?_) | refine K_icmp_lt_an 44 (pc := 38) (i := 18) rfl rfl (fun b38 => ?_) (fun b38 => ?_)
        · skip
          refine K_bipush (pc := 44) (i := 21) rfl rfl ?_
          refine K_ist (pc := 46) (i := 22) (lo' := [(0, _), (1, _), (2, _), (3, _), (4, _)]) rfl rfl rfl rfl ?_
          refine K_iconst (pc := 48) (i := 23) rfl ?_
          refine K_ist (pc := 49) (i := 24) (lo' := [(0, _), (1, _), (2, _), (3, _), (4, _), (5, _)]) rfl rfl rfl rfl ?_
          refine K_iconst (pc := 51) (i := 25) rfl ?_
          refine K_ist (pc := 52) (i := 26) (lo' := [(0, _), (1, _), (2, _), (3, _), (4, _), (5, _), (6, _)]) rfl rfl rfl rfl ?_
          have L54 : ∀ (n : Nat) (x4 : Int) (x5 : Int) (x6 : Int) (ha : kH), (41 - x6).toNat < n → (Gd g ha) → (Fx (fun c i => 13 ≤ c ∧ c ≤ 22) h ha) → ((0 ≤ x6 ∧ x6 ≤ 41) ∧ (-100 ≤ x4 ∧ x4 ≤ 100) ∧ TLR (PC h x1 x2 x3) (fun s => ¬ hsF h 6 s) (-100) 0 (9 * x6.toNat) x4 x5) → K X_War_toLaunch G (kZm G 13 (kQi (fun z h' => Fx (fun c i => 13 ≤ c ∧ c ≤ 22) h h' ∧ (Gd g h' ∧ CWtoLaunch h x1 x2 x3 z)))) 54 [(0, .ref (G.2.2.2 0)), (1, kI x1), (2, kI x2), (3, kI x3), (4, kI x4), (5, kI x5), (6, kI x6)] [] ha := by
            intro n
            induction n with
            | zero => intro x4 x5 x6 ha hm; exact absurd hm (Nat.not_lt_zero _)
            | succ n ih54 =>
              intro x4 x5 x6 ha hm54 hI fx hV54
              refine K_iload (pc := 54) (i := 27) rfl rfl ?_
              refine K_bipush (pc := 56) (i := 28) rfl rfl ?_
              first | refine K_icmp_gt 174 (pc := 58) (i := 29) rfl rfl (by omega) (by omega) (fun b58 => ?_) (fun b58 => ?_) | refine K_icmp_gt_an 174 (pc := 58) (i := 29) rfl rfl (fun b58 => ?_) (fun b58 => ?_)
              · skip
                refine K_iload (pc := 174) (i := 85) rfl rfl ?_
                exact K_retI (pc := 176) (i := 86) rfl rfl ⟨fx, ⟨hI, Or.inr (Or.inr ⟨by omega, by omega, x4, by have q := hV54.2.2; rwa [show x6.toNat = 41 by omega] at q⟩)⟩⟩
              · skip
                refine K_aload_n (pc := 61) (i := 30) rfl rfl ?_
                refine K_getR (pc := 62) (i := 31) (j := 1) (d := 3) rfl S_0 rfl (by decide) rfl fw_War_19 ?_
                refine K_getR (pc := 65) (i := 32) (j := 0) (d := 6) rfl (S_Sk sk3) rfl (by decide) rfl fw_War_88 ?_
                refine K_iload (pc := 68) (i := 33) rfl rfl ?_
                refine K_cVI (pc := 70) (i := 34) rfl (c_Fleet_hasStake G (f := 6) (hf := fl6) (x1 := x6) (hI := hI) (s1 := by omega)) (S_Fl fl6) rfl (lv_War_138 rfl) rfl rfl rfl rfl rfl (fun v70 h70 q70 => ?_)
                obtain ⟨eh, r70⟩ := q70
                rw [eh]; clear eh
                have hs70 : ∀ c, 6 ≤ c → c ≤ 12 → ha c = h c := fun c p q => fx.cell c (fun i => (by first | (dsimp only; omega) | omega | exact not_false))
                rw [hsF.of hs70] at r70
                have k70 : v70 = 0 ∨ v70 = 1 := r70.elim (fun q => Or.inr q.1) (fun q => Or.inl q.1)
                first | refine K_if_eq 79 (pc := 73) (i := 35) rfl rfl (by omega) (fun b73 => ?_) (fun b73 => ?_) | refine K_if_eq_an 79 (pc := 73) (i := 35) rfl rfl (fun b73 => ?_) (fun b73 => ?_)
                · skip
                  refine K_iconst (pc := 79) (i := 37) rfl ?_
                  refine K_ist (pc := 80) (i := 38) (lo' := [(0, _), (1, _), (2, _), (3, _), (4, _), (5, _), (6, _), (7, _)]) rfl rfl rfl rfl ?_
                  have L82 : ∀ (n : Nat) (x4b : Int) (x5b : Int) (x7b : Int) (hb : kH), (10 - x7b).toNat < n → (Gd g hb) → (Fx (fun c i => 13 ≤ c ∧ c ≤ 22) h hb) → ((1 ≤ x7b ∧ x7b ≤ 10) ∧ (-100 ≤ x4b ∧ x4b ≤ 100) ∧ TLR (PC h x1 x2 x3) (fun s => ¬ hsF h 6 s) (-100) 0 (9 * x6.toNat + (x7b - 1).toNat) x4b x5b) → K X_War_toLaunch G (kZm G 13 (kQi (fun z h' => Fx (fun c i => 13 ≤ c ∧ c ≤ 22) h h' ∧ (Gd g h' ∧ CWtoLaunch h x1 x2 x3 z)))) 82 [(0, .ref (G.2.2.2 0)), (1, kI x1), (2, kI x2), (3, kI x3), (4, kI x4b), (5, kI x5b), (6, kI x6), (7, kI x7b)] [] hb := by
                    intro n
                    induction n with
                    | zero => intro x4b x5b x7b hb hm; exact absurd hm (Nat.not_lt_zero _)
                    | succ n ih82 =>
                      intro x4b x5b x7b hb hm82 hI fx hV82
                      refine K_iload (pc := 82) (i := 39) rfl rfl ?_
                      refine K_bipush (pc := 84) (i := 40) rfl rfl ?_
                      first | refine K_icmp_gt 168 (pc := 86) (i := 41) rfl rfl (by omega) (by omega) (fun b86 => ?_) (fun b86 => ?_) | refine K_icmp_gt_an 168 (pc := 86) (i := 41) rfl rfl (fun b86 => ?_) (fun b86 => ?_)
                      · skip
                        refine K_inc (pc := 168) (i := 83) (q := 6) (lo' := [(0, _), (1, _), (2, _), (3, _), (4, _), (5, _), (6, _), (7, _)]) rfl rfl rfl rfl rfl ?_
                        refine K_goto 54 (pc := 171) (i := 84) rfl rfl ?_
                        refine K_drop (lo' := [(0, .ref (G.2.2.2 0)), (1, kI x1), (2, kI x2), (3, kI x3), (4, kI x4b), (5, kI x5b), (6, kI (x6 + 1))]) [0, 1, 2, 3, 4, 5, 6] rfl ?_
                        exact ih54 x4b x5b (x6 + 1) _ (by omega) hI fx (by first | exact ⟨by omega, by omega, by rw [show 9 * (x6 + 1).toNat = 9 * x6.toNat + 9 by omega]; exact hV54.2.2.skip2 (j := 0) (fun q => q (by rw [show ((x6.toNat : Nat) : Int) = x6 by omega]; exact r70.elim (fun e => e.2) (fun e => absurd e.1 (by omega)))) (by omega)⟩ | exact ⟨by omega, by omega, by rw [show 9 * (x6 + 1).toNat = 9 * x6.toNat + (x7b - 1).toNat by omega]; exact hV82.2.2⟩)
                      · skip
                        have fxb := fx
                        have fr82 : ¬ hsF h 6 (((9 * x6.toNat + (x7b - 1).toNat) / 9 : Nat) : Int) := by rw [show (((9 * x6.toNat + (x7b - 1).toNat) / 9 : Nat) : Int) = x6 by omega]; exact r70.elim (fun e => absurd e.1 (by omega)) (fun e => e.2)
                        refine K_aload_n (pc := 89) (i := 42) rfl rfl ?_
                        refine K_getR (pc := 90) (i := 43) (j := 2) (d := 13) rfl S_0 rfl (by decide) rfl fw_War_23 ?_
                        refine K_aload_n (pc := 93) (i := 44) rfl rfl ?_
                        refine K_getR (pc := 94) (i := 45) (j := 1) (d := 3) rfl S_0 rfl (by decide) rfl fw_War_19 ?_
                        refine K_cVV (pc := 97) (i := 46) rfl (c_Sky_copyFrom G (s := 13) (hs := sk13) (s2 := 3) (hs2 := sk3) (hI := hI) (dj := by omega)) (S_Sk sk13) rfl (lv_War_201 rfl) rfl rfl rfl rfl rfl (fun h97 q97 => ?_)
                        obtain ⟨fx97, q97⟩ := q97
                        obtain ⟨hI, fc97, wc97⟩ := q97
                        have fx := fx.tr fx97 (fun c i q => (by first | (dsimp only at q ⊢; omega) | omega))
                        have fs97 : ∀ c, 4 ≤ c → c ≤ 12 → hb c = h c := fun c p q => fxb.cell c (fun i => (by first | (dsimp only; omega) | omega | exact not_false))
                        have k97 : h97 16 6 = h 6 6 := by have q := fc97.1; rw [fs97 6 (by omega) (by omega)] at q; exact q
                        refine K_aload_n (pc := 100) (i := 47) rfl rfl ?_
                        refine K_getR (pc := 101) (i := 48) (j := 2) (d := 13) rfl S_0 rfl (by decide) rfl fw_War_23 ?_
                        refine K_getR (pc := 104) (i := 49) (j := 0) (d := 16) rfl (S_Sk sk13) rfl (by decide) rfl fw_War_88 ?_
                        refine K_iload_n (pc := 107) (i := 50) rfl rfl ?_
                        refine K_iload (pc := 108) (i := 51) rfl rfl ?_
                        refine K_iload (pc := 110) (i := 52) rfl rfl ?_
                        refine K_iload (pc := 112) (i := 53) rfl rfl ?_
                        refine K_iload_n (pc := 114) (i := 54) rfl rfl ?_
                        refine K_cVV (pc := 115) (i := 55) rfl (c_Fleet_add G (f := 16) (hf := fl16) (x1 := x1) (x2 := x6) (x3 := x6) (x4 := x7b) (x5 := x2) (hI := hI) (s1 := by omega) (s2 := by omega) (s3 := by omega) (s4 := by omega) (s5 := by omega)) (S_Fl fl16) rfl (lv_War_152 rfl) rfl rfl rfl rfl rfl (fun h115 q115 => ?_)
                        obtain ⟨fx115, q115⟩ := q115
                        obtain ⟨hI, fr115, fa115⟩ := q115
                        have fx := fx.tr fx115 (fun c i q => (by first | (dsimp only at q ⊢; omega) | omega))
                        refine K_aload_n (pc := 118) (i := 56) rfl rfl ?_
                        refine K_getR (pc := 119) (i := 57) (j := 2) (d := 13) rfl S_0 rfl (by decide) rfl fw_War_23 ?_
                        refine K_iload_n (pc := 122) (i := 58) rfl rfl ?_
                        refine K_cVV (pc := 123) (i := 59) rfl (c_Sky_blowTimes G (s := 13) (hs := sk13) (x1 := x3) (hI := hI) (s1 := by omega)) (S_Sk sk13) rfl (lv_War_204 rfl) rfl rfl rfl rfl rfl (fun h123 q123 => ?_)
                        obtain ⟨fx123, q123⟩ := q123
                        obtain ⟨hI, bt123⟩ := q123
                        have fx := fx.tr fx123 (fun c i q => (by first | (dsimp only at q ⊢; omega) | omega))
                        refine K_aload_n (pc := 126) (i := 60) rfl rfl ?_
                        refine K_iload_n (pc := 127) (i := 61) rfl rfl ?_
                        refine K_cVI (pc := 128) (i := 62) rfl (c_War_wonInTrial G (x1 := x1) (hI := hI) (s1 := by omega)) S_0 rfl (lv_War_207 rfl) rfl rfl rfl rfl rfl (fun v128 h128 q128 => ?_)
                        obtain ⟨eh, r128⟩ := q128
                        rw [eh]; clear eh
                        refine K_aload_n (pc := 131) (i := 63) rfl rfl ?_
                        refine K_iconst (pc := 132) (i := 64) rfl ?_
                        refine K_iload_n (pc := 133) (i := 65) rfl rfl ?_
                        refine K_isub (pc := 134) (i := 66) rfl ?_
                        refine K_cVI (pc := 135) (i := 67) rfl (c_War_wonInTrial G (x1 := 1 - x1) (hI := hI) (s1 := by omega)) S_0 rfl (lv_War_207 rfl) rfl rfl rfl rfl rfl (fun v135 h135 q135 => ?_)
                        obtain ⟨eh, r135⟩ := q135
                        rw [eh]; clear eh
                        have pc135 := PC.mk (c := 9 * x6.toNat + (x7b - 1).toNat) (n := x3) (by omega) (by omega) fs97 fc97 wc97 (fa115 (by rw [k97]; omega)) (fx115.cell 14 (fun i => (by first | (dsimp only; omega) | omega | exact not_false))) bt123
                        have z135 : v128 - v135 = (h123 22 x1.toNat - h 12 x1.toNat) - (h123 22 (1 - x1).toNat - h 12 (1 - x1).toNat) := by rw [r128, r135, fx 12 x1.toNat (by first | (dsimp only; omega) | omega | exact not_false), fx 12 (1 - x1).toNat (by first | (dsimp only; omega) | omega | exact not_false)]
                        rw [← z135] at pc135
                        have bd135 := pc135.bd n00.1 (by omega) (by omega) (by omega)
                        refine K_isub (pc := 138) (i := 68) rfl ?_
                        refine K_ist (pc := 139) (i := 69) (lo' := [(0, _), (1, _), (2, _), (3, _), (4, _), (5, _), (6, _), (7, _), (8, _)]) rfl rfl rfl rfl ?_
                        refine K_iload (pc := 141) (i := 70) rfl rfl ?_
                        refine K_iload (pc := 143) (i := 71) rfl rfl ?_
                        first | refine K_icmp_le 162 (pc := 145) (i := 72) rfl rfl (by omega) (by omega) (fun b145 => ?_) (fun b145 => ?_) | refine K_icmp_le_an 162 (pc := 145) (i := 72) rfl rfl (fun b145 => ?_) (fun b145 => ?_)
                        · skip
                          refine K_inc (pc := 162) (i := 81) (q := 7) (lo' := [(0, _), (1, _), (2, _), (3, _), (4, _), (5, _), (6, _), (7, _), (8, _)]) rfl rfl rfl rfl rfl ?_
                          refine K_goto 82 (pc := 165) (i := 82) rfl rfl ?_
                          refine K_drop (lo' := [(0, .ref (G.2.2.2 0)), (1, kI x1), (2, kI x2), (3, kI x3), (4, kI x4b), (5, kI x5b), (6, kI x6), (7, kI (x7b + 1))]) [0, 1, 2, 3, 4, 5, 6, 7] rfl ?_
                          exact ih82 x4b x5b (x7b + 1) _ (by omega) hI fx (by first | exact ⟨by omega, by omega, by rw [show 9 * x6.toNat + (x7b + 1 - 1).toNat = (9 * x6.toNat + (x7b - 1).toNat) + 1 by omega]; exact hV82.2.2.gt fr82 pc135 (by omega) (by omega)⟩ | exact ⟨by omega, by omega, by rw [show 9 * x6.toNat + (x7b + 1 - 1).toNat = (9 * x6.toNat + (x7b - 1).toNat) + 1 by omega]; exact hV82.2.2.le fr82 pc135 (by omega)⟩)
                        · skip
                          refine K_iload (pc := 148) (i := 73) rfl rfl ?_
                          refine K_ist (pc := 150) (i := 74) (lo' := [(0, _), (1, _), (2, _), (3, _), (4, _), (5, _), (6, _), (7, _), (8, _)]) rfl rfl rfl rfl ?_
                          refine K_bipush (pc := 152) (i := 75) rfl rfl ?_
                          refine K_iload (pc := 154) (i := 76) rfl rfl ?_
                          refine K_imul (pc := 156) (i := 77) rfl ?_
                          refine K_iload (pc := 157) (i := 78) rfl rfl ?_
                          refine K_iadd (pc := 159) (i := 79) rfl ?_
                          refine K_ist (pc := 160) (i := 80) (lo' := [(0, _), (1, _), (2, _), (3, _), (4, _), (5, _), (6, _), (7, _), (8, _)]) rfl rfl rfl rfl ?_
                          refine K_inc (pc := 162) (i := 81) (q := 7) (lo' := [(0, _), (1, _), (2, _), (3, _), (4, _), (5, _), (6, _), (7, _), (8, _)]) rfl rfl rfl rfl rfl ?_
                          refine K_goto 82 (pc := 165) (i := 82) rfl rfl ?_
                          refine K_drop (lo' := [(0, .ref (G.2.2.2 0)), (1, kI x1), (2, kI x2), (3, kI x3), (4, kI (v128 - v135)), (5, kI ((10 * x6) + x7b)), (6, kI x6), (7, kI (x7b + 1))]) [0, 1, 2, 3, 4, 5, 6, 7] rfl ?_
                          exact ih82 (v128 - v135) ((10 * x6) + x7b) (x7b + 1) _ (by omega) hI fx (by first | exact ⟨by omega, by omega, by rw [show 9 * x6.toNat + (x7b + 1 - 1).toNat = (9 * x6.toNat + (x7b - 1).toNat) + 1 by omega]; exact hV82.2.2.gt fr82 pc135 (by omega) (by omega)⟩ | exact ⟨by omega, by omega, by rw [show 9 * x6.toNat + (x7b + 1 - 1).toNat = (9 * x6.toNat + (x7b - 1).toNat) + 1 by omega]; exact hV82.2.2.le fr82 pc135 (by omega)⟩)
                  exact L82 _ x4 x5 1 _ (Nat.lt_succ_self _) hI fx ⟨by omega, by omega, hV54.2.2⟩
                · skip
                  refine K_goto 168 (pc := 76) (i := 36) rfl rfl ?_
                  refine K_inc (pc := 168) (i := 83) (q := 6) (lo' := [(0, _), (1, _), (2, _), (3, _), (4, _), (5, _), (6, _)]) rfl rfl rfl rfl rfl ?_
                  refine K_goto 54 (pc := 171) (i := 84) rfl rfl ?_
                  exact ih54 x4 x5 (x6 + 1) _ (by omega) hI fx (by first | exact ⟨by omega, by omega, by rw [show 9 * (x6 + 1).toNat = 9 * x6.toNat + 9 by omega]; exact hV54.2.2.skip2 (j := 0) (fun q => q (by rw [show ((x6.toNat : Nat) : Int) = x6 by omega]; exact r70.elim (fun e => e.2) (fun e => absurd e.1 (by omega)))) (by omega)⟩ | exact ⟨by omega, by omega, by rw [show 9 * (x6 + 1).toNat = 9 * x6.toNat + (x7b - 1).toNat by omega]; exact hV82.2.2⟩)
          exact L54 _ (-100) 0 0 _ (Nat.lt_succ_self _) hI fx ⟨by omega, by omega, rfl, rfl⟩
        · skip
          refine K_bipush (pc := 41) (i := 19) rfl rfl ?_
          exact K_retI (pc := 43) (i := 20) rfl rfl ⟨fx, ⟨hI, Or.inr (Or.inl ⟨by omega, by omega, rfl⟩)⟩⟩
      · skip
        refine K_bipush (pc := 23) (i := 11) rfl rfl ?_
        exact K_retI (pc := 25) (i := 12) rfl rfl ⟨fx, ⟨hI, Or.inl ⟨by omega, rfl⟩⟩⟩
end
