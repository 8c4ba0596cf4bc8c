theorem Gd.len {g : kGh} {h : kH} {b : Int} (e : g.1 = b) (hI : Gd g h) : Gd (b, g.2) h := by subst e; exact hI
theorem Gd.sd {g : kGh} {h : kH} {b : Int} (e : g.2.1 = b) (hI : Gd g h) : Gd (g.1, b, g.2.2) h := by subst e; exact hI
theorem Gd.mlen {g : kGh} {h : kH} {b : Int} (e : g.2.2.1 = b) (hI : Gd g h) : Gd (g.1, g.2.1, b, g.2.2.2) h := by subst e; exact hI
theorem Gd.msd {g : kGh} {h : kH} {b : Int} (e : g.2.2.2.1 = b) (hI : Gd g h) : Gd (g.1, g.2.1, g.2.2.1, b, g.2.2.2.2) h := by subst e; exact hI
theorem Gd.lenT {a b : Int} {g2 : Int × Int × Int × Prop} {h : kH} (hI : Gd (a, g2) h) (e : a = b) : Gd (b, g2) h := by subst e; exact hI
theorem Gd.sdT {a b b' : Int} {g2 : Int × Int × Prop} {h : kH} (hI : Gd (a, b, g2) h) (e : b = b') : Gd (a, b', g2) h := by subst e; exact hI
theorem Gd.mlenT {a b c c' : Int} {d : Int × Prop} {h : kH} (hI : Gd (a, b, c, d) h) (e : c = c') : Gd (a, b, c', d) h := by subst e; exact hI
theorem Gd.msdT {a b c d d' : Int} {f : Prop} {h : kH} (hI : Gd (a, b, c, d, f) h) (e : d = d') : Gd (a, b, c, d', f) h := by subst e; exact hI
def itr : Nat → Int → Int
  | 0, s => s
  | n + 1, s => itr n s * 6364136223846793005 + 1442695040888963407
set_option maxHeartbeats 4000000 in
set_option maxRecDepth 100000 in
theorem c_Text_append (G : kG) {g : kGh} {h : kH} {x1 : Int} {l2 : Int} (s1 : 1 ≤ x1 ∧ x1 ≤ 8) (hI : Gd g h) : Ctr G y_Text_append X_Text_append 1 [.ref (G.2.2.2 1), kI x1, kJ l2] h (kQi (fun z h' => Fx (fun c i => c = 1 ∨ c = 2) h h' ∧ ((z = 1 ∧ g.1 + x1 ≤ 74 ∧ Gd (g.1 + x1, g.2) h' ∧ WrB (h 2) (h' 2) g.1 x1 (-1) l2) ∨ (z = 0 ∧ 74 < g.1 + x1 ∧ Gd g h' ∧ h' 2 = h 2)))) := by
  refine Ctr.ofK (by decide) rfl T_Text_append (Nat.le_of_ble_eq_true rfl) (lo := [(0, .ref (G.2.2.2 1)), (1, kI x1), (2, kJ l2)]) rfl ?_
  have fx : Fx (fun c i => c = 1 ∨ c = 2) h h := Fx.rf
  have e00 : h 1 1 = g.1 := hI.2.1
  have e09 := rd_len hI
  refine K_iload_n (pc := 0) (i := 0) rfl rfl ?_
  refine K_bipush (pc := 1) (i := 1) rfl rfl ?_
  refine K_aload_n (pc := 3) (i := 2) rfl rfl ?_
  refine K_getI (pc := 4) (i := 3) (j := 1) rfl S_1 rfl (by decide) rfl fw_Text_15 ?_
  refine K_nm (fun v4 e4 => ?_)
  have r4 := rd_len hI
  rw [← e4] at r4
  refine K_isub (pc := 7) (i := 4) rfl ?_
  first | refine K_icmp_le 13 (pc := 8) (i := 5) rfl rfl (by omega) (by omega) (fun b8 => ?_) (fun b8 => ?_) | refine K_icmp_le_an 13 (pc := 8) (i := 5) rfl rfl (fun b8 => ?_) (fun b8 => ?_)
  · skip
    refine K_iload_n (pc := 13) (i := 8) rfl rfl ?_
    refine K_iconst (pc := 14) (i := 9) rfl ?_
    refine K_isub (pc := 15) (i := 10) rfl ?_
    refine K_ist (pc := 16) (i := 11) (lo' := [(0, _), (1, _), (2, _), (4, _)]) rfl rfl rfl rfl ?_
    have L18 : ∀ (n : Nat) (x4 : Int) (ha : kH), (x4 + 1).toNat < n → (Fx (fun c i => c = 1 ∨ c = 2) h ha) → (Gd (g.1 + (x1 - 1 - x4), g.2) ha ∧ (-1 ≤ x4 ∧ x4 < x1) ∧ WrB (h 2) (ha 2) g.1 x1 x4 l2) → K X_Text_append G (kZm G 1 (kQi (fun z h' => Fx (fun c i => c = 1 ∨ c = 2) h h' ∧ ((z = 1 ∧ g.1 + x1 ≤ 74 ∧ Gd (g.1 + x1, g.2) h' ∧ WrB (h 2) (h' 2) g.1 x1 (-1) l2) ∨ (z = 0 ∧ 74 < g.1 + x1 ∧ Gd g h' ∧ h' 2 = h 2))))) 18 [(0, .ref (G.2.2.2 1)), (1, kI x1), (2, kJ l2), (4, kI x4)] [] ha := by
      intro n
      induction n with
      | zero => intro x4 ha hm; exact absurd hm (Nat.not_lt_zero _)
      | succ n ih18 =>
        intro x4 ha hm18 fx hV18
        have hI := hV18.1
        have e01 : ha 1 1 = g.1 + (x1 - 1 - x4) := hI.2.1
        have hV := hV18.2.1
        refine K_iload (pc := 18) (i := 12) rfl rfl ?_
        first | refine K_if_lt 60 (pc := 20) (i := 13) rfl rfl (by omega) (fun b20 => ?_) (fun b20 => ?_) | refine K_if_lt_an 60 (pc := 20) (i := 13) rfl rfl (fun b20 => ?_) (fun b20 => ?_)
        · skip
          refine K_iconst (pc := 60) (i := 35) rfl ?_
          exact K_retZ (pc := 61) (i := 36) rfl rfl (by omega) ⟨fx, (Or.inl ⟨rfl, by omega, Gd.lenT hI (by omega), hV18.2.2.cg rfl (by omega)⟩)⟩
        · skip
          refine K_aload_n (pc := 23) (i := 14) rfl rfl ?_
          refine K_getR (pc := 24) (i := 15) (j := 0) (d := 2) rfl S_1 rfl (by decide) rfl fw_Text_11 ?_
          refine K_aload_n (pc := 27) (i := 16) rfl rfl ?_
          refine K_getI (pc := 28) (i := 17) (j := 1) rfl S_1 rfl (by decide) rfl fw_Text_15 ?_
          refine K_nm (fun v28 e28 => ?_)
          have r28 := rd_len hI
          rw [← e28] at r28
          refine K_lload_n (pc := 31) (i := 18) rfl rfl ?_
          refine K_bipush (pc := 32) (i := 19) rfl rfl ?_
          refine K_iload (pc := 34) (i := 20) rfl rfl ?_
          refine K_imul (pc := 36) (i := 21) rfl ?_
          refine K_lushr (pc := 37) (i := 22) rfl ?_
          refine K_l2i (pc := 38) (i := 23) rfl ?_
          refine K_nm (fun v38 e38 => ?_)
          have r38 := kL2i_R (kLushr l2 (8 * x4))
          rw [← e38] at r38
          refine K_sipush (pc := 39) (i := 24) rfl rfl ?_
          refine K_iand (pc := 42) (i := 25) rfl ?_
          refine K_nm (fun v42 e42 => ?_)
          have r42 := kAnd_255 v38
          rw [← e42] at r42
          refine K_iast (pc := 43) (i := 26) rfl S_2 (by omega) (by omega) (by decide) ?_
          have hI := st_bytes hI (i := (v28).toNat) (v := v42) (by omega)
          have fx := Fx.st (c := 2) (i := (v28).toNat) (v := v42) fx (by first | (dsimp only; omega) | omega | exact not_false)
          have wr43 := WrB.st (c := 2) (p := (v28).toNat) (w := v42) hV18.2.2 (by omega) (by omega) (by omega) (by rw [e42, e38]; rfl)
          refine K_aload_n (pc := 44) (i := 27) rfl rfl ?_
          refine K_dup (pc := 45) (i := 28) rfl rfl ?_
          refine K_getI (pc := 46) (i := 29) (j := 1) rfl S_1 rfl (by decide) rfl fw_Text_15 ?_
          refine K_nm (fun v46 e46 => ?_)
          have r46 := rd_len hI
          rw [← e46] at r46
          have t46 : v46 = v28 := by rw [e46, e28]; simp [kU]
          refine K_iconst (pc := 49) (i := 30) rfl ?_
          refine K_iadd (pc := 50) (i := 31) rfl ?_
          refine K_putI (pc := 51) (i := 32) (j := 1) rfl S_1 rfl (by decide) rfl rfl rfl fw_Text_15 ?_
          have hI := st_len hI (v := v46 + 1) (by omega)
          have fx := Fx.st (c := 1) (i := 1) (v := v46 + 1) fx (by first | (dsimp only; omega) | omega | exact not_false)
          rw [← kU_c (kU ha 2 (v28).toNat v42) 1 1 (v46 + 1) (show (2 : Nat) ≠ 1 by decide)] at wr43
          refine K_inc (pc := 54) (i := 33) (q := 3) (lo' := [(0, _), (1, _), (2, _), (4, _)]) rfl rfl rfl rfl rfl ?_
          refine K_goto 18 (pc := 57) (i := 34) rfl rfl ?_
          exact ih18 (x4 + (-1)) _ (by omega) fx ⟨Gd.lenT hI (by omega), by omega, wr43.cg rfl (by omega)⟩
    exact L18 _ (x1 - 1) _ (Nat.lt_succ_self _) fx ⟨Gd.len (by omega) hI, by omega, WrB.rf⟩
  · skip
    refine K_iconst (pc := 11) (i := 6) rfl ?_
    exact K_retZ (pc := 12) (i := 7) rfl rfl (by omega) ⟨fx, (Or.inr ⟨rfl, by omega, hI, rfl⟩)⟩
set_option maxHeartbeats 4000000 in
set_option maxRecDepth 100000 in
theorem c_War_isKite (G : kG) {g : kGh} {h : kH} {x1 : Int} (s1 : kR x1) (hI : Gd g h) : Ctr G y_War_isKite X_War_isKite 1 [.ref (G.2.2.2 0), kI x1] h (kQi (fun z h' => h' = h ∧ ((z = 1 ∧ 0 ≤ x1 ∧ x1 < h 6 6 ∧ h 6 6 ≤ 8) ∨ (z = 0 ∧ ¬ (0 ≤ x1 ∧ x1 < h 6 6))))) := by
  refine Ctr.ofK (by decide) rfl T_War_isKite (Nat.le_of_ble_eq_true rfl) (lo := [(0, .ref (G.2.2.2 0)), (1, kI x1)]) rfl ?_
  refine K_iload_n (pc := 0) (i := 0) rfl rfl ?_
  first | refine K_if_lt 22 (pc := 1) (i := 1) rfl rfl (by omega) (fun b1 => ?_) (fun b1 => ?_) | refine K_if_lt_an 22 (pc := 1) (i := 1) rfl rfl (fun b1 => ?_) (fun b1 => ?_)
  · skip
    refine K_iconst (pc := 22) (i := 10) rfl ?_
    exact K_retZ (pc := 23) (i := 11) rfl rfl (by omega) ⟨rfl, by omega⟩
  · skip
    refine K_iload_n (pc := 4) (i := 2) rfl rfl ?_
    refine K_aload_n (pc := 5) (i := 3) rfl rfl ?_
    refine K_getR (pc := 6) (i := 4) (j := 1) (d := 3) rfl S_0 rfl (by decide) rfl fw_War_19 ?_
    refine K_getR (pc := 9) (i := 5) (j := 0) (d := 6) rfl (S_Sk sk3) rfl (by decide) rfl fw_War_88 ?_
    refine K_getI (pc := 12) (i := 6) (j := 6) rfl (S_Fl fl6) rfl (by decide) rfl fw_War_92 ?_
    refine K_nm (fun v12 e12 => ?_)
    have r12 := rd_kites hI fl6
    rw [← e12] at r12
    first | refine K_icmp_ge 22 (pc := 15) (i := 7) rfl rfl (by omega) (by omega) (fun b15 => ?_) (fun b15 => ?_) | refine K_icmp_ge_an 22 (pc := 15) (i := 7) rfl rfl (fun b15 => ?_) (fun b15 => ?_)
    · skip
      refine K_iconst (pc := 22) (i := 10) rfl ?_
      exact K_retZ (pc := 23) (i := 11) rfl rfl (by omega) ⟨rfl, by omega⟩
    · skip
      refine K_iconst (pc := 18) (i := 8) rfl ?_
      refine K_goto 23 (pc := 19) (i := 9) rfl rfl ?_
      exact K_retZ (pc := 23) (i := 11) rfl rfl (by omega) ⟨rfl, by omega⟩
set_option maxHeartbeats 4000000 in
set_option maxRecDepth 100000 in
theorem c_War_isSeenKite (G : kG) {g : kGh} {h : kH} {x1 : Int} (s1 : kR x1) (hI : Gd g h) : Ctr G y_War_isSeenKite X_War_isSeenKite 2 [.ref (G.2.2.2 0), kI x1] h (kQi (fun z h' => h' = h ∧ ((z = 1 ∧ 0 ≤ x1 ∧ x1 < h 6 6 ∧ x1 < 4) ∨ (z = 0 ∧ ¬ (0 ≤ x1 ∧ x1 < h 6 6 ∧ x1 < 4))))) := by
  refine Ctr.ofK (by decide) rfl T_War_isSeenKite (Nat.le_of_ble_eq_true rfl) (lo := [(0, .ref (G.2.2.2 0)), (1, kI x1)]) rfl ?_
  refine K_aload_n (pc := 0) (i := 0) rfl rfl ?_
  refine K_iload_n (pc := 1) (i := 1) rfl rfl ?_
  refine K_cVI (pc := 2) (i := 2) rfl (c_War_isKite G (x1 := x1) (hI := hI) (s1 := by omega)) S_0 rfl (lv_War_97 rfl) rfl rfl rfl rfl rfl (fun v2 h2 q2 => ?_)
  obtain ⟨eh, r2⟩ := q2
  rw [eh]; clear eh
  first | refine K_if_eq 17 (pc := 5) (i := 3) rfl rfl (by omega) (fun b5 => ?_) (fun b5 => ?_) | refine K_if_eq_an 17 (pc := 5) (i := 3) rfl rfl (fun b5 => ?_) (fun b5 => ?_)
  · skip
    refine K_iconst (pc := 17) (i := 9) rfl ?_
    exact K_retZ (pc := 18) (i := 10) rfl rfl (by omega) ⟨rfl, by omega⟩
  · skip
    refine K_iload_n (pc := 8) (i := 4) rfl rfl ?_
    refine K_iconst (pc := 9) (i := 5) rfl ?_
    first | refine K_icmp_ge 17 (pc := 10) (i := 6) rfl rfl (by omega) (by omega) (fun b10 => ?_) (fun b10 => ?_) | refine K_icmp_ge_an 17 (pc := 10) (i := 6) rfl rfl (fun b10 => ?_) (fun b10 => ?_)
    · skip
      refine K_iconst (pc := 17) (i := 9) rfl ?_
      exact K_retZ (pc := 18) (i := 10) rfl rfl (by omega) ⟨rfl, by omega⟩
    · skip
      refine K_iconst (pc := 13) (i := 7) rfl ?_
      refine K_goto 18 (pc := 14) (i := 8) rfl rfl ?_
      exact K_retZ (pc := 18) (i := 10) rfl rfl (by omega) ⟨rfl, by omega⟩
set_option maxHeartbeats 4000000 in
set_option maxRecDepth 100000 in
theorem c_War_refusalOfPair (G : kG) {g : kGh} {h : kH} {x1 : Int} {x2 : Int} (s1 : kR x1) (s2 : kR x2) (hI : Gd g h) : Ctr G y_War_refusalOfPair X_War_refusalOfPair 2 [.ref (G.2.2.2 0), kI x1, kI x2] h (kQi (fun z h' => h' = h ∧ kR z ∧ ((z = -1 ∧ ¬ ((0 ≤ x1 ∧ x1 < h 6 6) ∧ 0 ≤ x2 ∧ x2 < h 6 6)) ∨ (z = -2 ∧ ((0 ≤ x1 ∧ x1 < h 6 6) ∧ 0 ≤ x2 ∧ x2 < h 6 6) ∧ x1 = x2) ∨ (z = 0 ∧ ((0 ≤ x1 ∧ x1 < h 6 6) ∧ 0 ≤ x2 ∧ x2 < h 6 6) ∧ x1 ≠ x2 ∧ h 6 6 ≤ 8)))) := by
  refine Ctr.ofK (by decide) rfl T_War_refusalOfPair (Nat.le_of_ble_eq_true rfl) (lo := [(0, .ref (G.2.2.2 0)), (1, kI x1), (2, kI x2)]) rfl ?_
  refine K_aload_n (pc := 0) (i := 0) rfl rfl ?_
  refine K_iload_n (pc := 1) (i := 1) rfl rfl ?_
  refine K_cVI (pc := 2) (i := 2) rfl (c_War_isKite G (x1 := x1) (hI := hI) (s1 := by omega)) S_0 rfl (lv_War_97 rfl) rfl rfl rfl rfl rfl (fun v2 h2 q2 => ?_)
  obtain ⟨eh, r2⟩ := q2
  rw [eh]; clear eh
  first | refine K_if_eq 16 (pc := 5) (i := 3) rfl rfl (by omega) (fun b5 => ?_) (fun b5 => ?_) | refine K_if_eq_an 16 (pc := 5) (i := 3) rfl rfl (fun b5 => ?_) (fun b5 => ?_)
  · skip
    refine K_iconst (pc := 16) (i := 8) rfl ?_
    exact K_retI (pc := 17) (i := 9) rfl rfl ⟨rfl, by omega⟩
  · skip
    refine K_aload_n (pc := 8) (i := 4) rfl rfl ?_
    refine K_iload_n (pc := 9) (i := 5) rfl rfl ?_
    refine K_cVI (pc := 10) (i := 6) rfl (c_War_isKite G (x1 := x2) (hI := hI) (s1 := by omega)) S_0 rfl (lv_War_97 rfl) rfl rfl rfl rfl rfl (fun v10 h10 q10 => ?_)
    obtain ⟨eh, r10⟩ := q10
    rw [eh]; clear eh
    first | refine K_if_ne 18 (pc := 13) (i := 7) rfl rfl (by omega) (fun b13 => ?_) (fun b13 => ?_) | refine K_if_ne_an 18 (pc := 13) (i := 7) rfl rfl (fun b13 => ?_) (fun b13 => ?_)
    · skip
      refine K_iload_n (pc := 18) (i := 10) rfl rfl ?_
      refine K_iload_n (pc := 19) (i := 11) rfl rfl ?_
      first | refine K_icmp_ne 28 (pc := 20) (i := 12) rfl rfl (by omega) (by omega) (fun b20 => ?_) (fun b20 => ?_) | refine K_icmp_ne_an 28 (pc := 20) (i := 12) rfl rfl (fun b20 => ?_) (fun b20 => ?_)
      · skip
        refine K_iconst (pc := 28) (i := 15) rfl ?_
        exact K_retI (pc := 29) (i := 16) rfl rfl ⟨rfl, by omega⟩
      · skip
        refine K_bipush (pc := 23) (i := 13) rfl rfl ?_
        refine K_goto 29 (pc := 25) (i := 14) rfl rfl ?_
        exact K_retI (pc := 29) (i := 16) rfl rfl ⟨rfl, by omega⟩
    · skip
      refine K_iconst (pc := 16) (i := 8) rfl ?_
      exact K_retI (pc := 17) (i := 9) rfl rfl ⟨rfl, by omega⟩
set_option maxHeartbeats 4000000 in
set_option maxRecDepth 100000 in
theorem c_War_refusalOfPlan (G : kG) {g : kGh} {h : kH} {x1 : Int} (s1 : kR x1) (hI : Gd g h) : Ctr G y_War_refusalOfPlan X_War_refusalOfPlan 3 [.ref (G.2.2.2 0), kI x1] h (kQi (fun z h' => h' = h ∧ kR z ∧ ((z = -2 ∧ ¬ (0 ≤ x1 ∧ x1 ≤ 1)) ∨ (z = -3 ∧ (0 ≤ x1 ∧ x1 ≤ 1) ∧ 5 < cnt (h 7) x1 (h 6 6).toNat) ∨ (z = 0 ∧ (0 ≤ x1 ∧ x1 ≤ 1) ∧ cnt (h 7) x1 (h 6 6).toNat ≤ 5)))) := by
  refine Ctr.ofK (by decide) rfl T_War_refusalOfPlan (Nat.le_of_ble_eq_true rfl) (lo := [(0, .ref (G.2.2.2 0)), (1, kI x1)]) rfl ?_
  refine K_iload_n (pc := 0) (i := 0) rfl rfl ?_
  refine K_cSI (pc := 1) (i := 1) rfl (c_War_isTown G (x0 := x1) (s0 := by omega)) (ls_War_146 rfl) rfl rfl rfl rfl (fun v1 h1 q1 => ?_)
  obtain ⟨eh, r1⟩ := q1
  rw [eh]; clear eh
  first | refine K_if_ne 10 (pc := 4) (i := 2) rfl rfl (by omega) (fun b4 => ?_) (fun b4 => ?_) | refine K_if_ne_an 10 (pc := 4) (i := 2) rfl rfl (fun b4 => ?_) (fun b4 => ?_)
  · skip
    refine K_aload_n (pc := 10) (i := 5) rfl rfl ?_
    refine K_getR (pc := 11) (i := 6) (j := 1) (d := 3) rfl S_0 rfl (by decide) rfl fw_War_19 ?_
    refine K_getR (pc := 14) (i := 7) (j := 0) (d := 6) rfl (S_Sk sk3) rfl (by decide) rfl fw_War_88 ?_
    refine K_iload_n (pc := 17) (i := 8) rfl rfl ?_
    refine K_cVI (pc := 18) (i := 9) rfl (c_Fleet_ofTown G (f := 6) (hf := fl6) (x1 := x1) (hI := hI) (s1 := by omega)) (S_Fl fl6) rfl (lv_War_217 rfl) rfl rfl rfl rfl rfl (fun v18 h18 q18 => ?_)
    obtain ⟨eh, r18⟩ := q18
    rw [eh]; clear eh
    have t18 : v18 = cnt (h 7) x1 (h 6 6).toNat := r18.2
    refine K_iconst (pc := 21) (i := 10) rfl ?_
    first | refine K_icmp_le 30 (pc := 22) (i := 11) rfl rfl (by omega) (by omega) (fun b22 => ?_) (fun b22 => ?_) | refine K_icmp_le_an 30 (pc := 22) (i := 11) rfl rfl (fun b22 => ?_) (fun b22 => ?_)
    · skip
      refine K_iconst (pc := 30) (i := 14) rfl ?_
      exact K_retI (pc := 31) (i := 15) rfl rfl ⟨rfl, by omega⟩
    · skip
      refine K_bipush (pc := 25) (i := 12) rfl rfl ?_
      refine K_goto 31 (pc := 27) (i := 13) rfl rfl ?_
      exact K_retI (pc := 31) (i := 15) rfl rfl ⟨rfl, by omega⟩
  · skip
    refine K_bipush (pc := 7) (i := 3) rfl rfl ?_
    exact K_retI (pc := 9) (i := 4) rfl rfl ⟨rfl, by omega⟩
set_option maxHeartbeats 4000000 in
set_option maxRecDepth 100000 in
theorem c_War_wonInTrial (G : kG) {g : kGh} {h : kH} {x1 : Int} (s1 : 0 ≤ x1 ∧ x1 ≤ 1) (hI : Gd g h) : Ctr G y_War_wonInTrial X_War_wonInTrial 1 [.ref (G.2.2.2 0), kI x1] h (kQi (fun z h' => h' = h ∧ z = h 22 x1.toNat - h 12 x1.toNat)) := by
  refine Ctr.ofK (by decide) rfl T_War_wonInTrial (Nat.le_of_ble_eq_true rfl) (lo := [(0, .ref (G.2.2.2 0)), (1, kI x1)]) rfl ?_
  refine K_aload_n (pc := 0) (i := 0) rfl rfl ?_
  refine K_getR (pc := 1) (i := 1) (j := 2) (d := 13) rfl S_0 rfl (by decide) rfl fw_War_23 ?_
  refine K_getR (pc := 4) (i := 2) (j := 0) (d := 16) rfl (S_Sk sk13) rfl (by decide) rfl fw_War_88 ?_
  refine K_getR (pc := 7) (i := 3) (j := 5) (d := 22) rfl (S_Fl fl16) rfl (by decide) rfl fw_War_248 ?_
  refine K_iload_n (pc := 10) (i := 4) rfl rfl ?_
  refine K_iald (pc := 11) (i := 5) rfl (S_Fl6 fl16) (by omega) (by omega) (by decide) ?_
  refine K_nm (fun v11 e11 => ?_)
  refine K_aload_n (pc := 12) (i := 6) rfl rfl ?_
  refine K_getR (pc := 13) (i := 7) (j := 1) (d := 3) rfl S_0 rfl (by decide) rfl fw_War_19 ?_
  refine K_getR (pc := 16) (i := 8) (j := 0) (d := 6) rfl (S_Sk sk3) rfl (by decide) rfl fw_War_88 ?_
  refine K_getR (pc := 19) (i := 9) (j := 5) (d := 12) rfl (S_Fl fl6) rfl (by decide) rfl fw_War_248 ?_
  refine K_iload_n (pc := 22) (i := 10) rfl rfl ?_
  refine K_iald (pc := 23) (i := 11) rfl (S_Fl6 fl6) (by omega) (by omega) (by decide) ?_
  refine K_nm (fun v23 e23 => ?_)
  refine K_isub (pc := 24) (i := 12) rfl ?_
  exact K_retI (pc := 25) (i := 13) rfl rfl ⟨rfl, by rw [e11, e23]⟩
set_option maxHeartbeats 4000000 in
set_option maxRecDepth 100000 in
theorem c_War_greatestDivisor (G : kG)  {h : kH} {x0 : Int} {x1 : Int} (s0 : kR x0) (s1 : kR x1) : Ctr G y_War_greatestDivisor X_War_greatestDivisor 2 [kI x0, kI x1] h (kQi (fun z h' => h' = h ∧ kR z)) := by
  refine Ctr.ofK (by decide) rfl T_War_greatestDivisor (Nat.le_of_ble_eq_true rfl) (lo := [(0, kI x0), (1, kI x1)]) rfl ?_
  refine K_iload_n (pc := 0) (i := 0) rfl rfl ?_
  refine K_mabs (pc := 1) (i := 1) rfl mw_War_141 (by omega) (Nat.le_of_ble_eq_true rfl) ⟨Nat.le_of_ble_eq_true rfl, Nat.le_of_ble_eq_true rfl⟩ ⟨Nat.le_of_ble_eq_true rfl, Nat.le_of_ble_eq_true rfl⟩ ?_
  refine K_any (fun v1 r1 => ?_)
  refine K_ist_n (pc := 4) (i := 2) (lo' := [(0, _), (1, _), (2, _)]) rfl rfl rfl rfl ?_
  refine K_iload_n (pc := 5) (i := 3) rfl rfl ?_
  refine K_mabs (pc := 6) (i := 4) rfl mw_War_141 (by omega) (Nat.le_of_ble_eq_true rfl) ⟨Nat.le_of_ble_eq_true rfl, Nat.le_of_ble_eq_true rfl⟩ ⟨Nat.le_of_ble_eq_true rfl, Nat.le_of_ble_eq_true rfl⟩ ?_
  refine K_any (fun v6 r6 => ?_)
  refine K_ist_n (pc := 9) (i := 5) (lo' := [(0, _), (1, _), (2, _), (3, _)]) rfl rfl rfl rfl ?_
  refine K_iconst (pc := 10) (i := 6) rfl ?_
  refine K_ist (pc := 11) (i := 7) (lo' := [(0, _), (1, _), (2, _), (3, _), (4, _)]) rfl rfl rfl rfl ?_
  have L13 : ∀ (n : Nat) (x2 : Int) (x3 : Int) (x4 : Int), (64 - x4).toNat < n → ((0 ≤ x4 ∧ x4 ≤ 64) ∧ kR x2 ∧ kR x3) → K X_War_greatestDivisor G (kZm G 2 (kQi (fun z h' => h' = h ∧ kR z))) 13 [(0, kI x0), (1, kI x1), (2, kI x2), (3, kI x3), (4, kI x4)] [] h := by
    intro n
    induction n with
    | zero => intro x2 x3 x4 hm; exact absurd hm (Nat.not_lt_zero _)
    | succ n ih13 =>
      intro x2 x3 x4 hm13 hV13
      refine K_iload (pc := 13) (i := 8) rfl rfl ?_
      refine K_bipush (pc := 15) (i := 9) rfl rfl ?_
      first | refine K_icmp_ge 40 (pc := 17) (i := 10) rfl rfl (by omega) (by omega) (fun b17 => ?_) (fun b17 => ?_) | refine K_icmp_ge_an 40 (pc := 17) (i := 10) rfl rfl (fun b17 => ?_) (fun b17 => ?_)
      · skip
        refine K_iload_n (pc := 40) (i := 23) rfl rfl ?_
        exact K_retI (pc := 41) (i := 24) rfl rfl ⟨rfl, by omega⟩
      · skip
        refine K_iload_n (pc := 20) (i := 11) rfl rfl ?_
        first | refine K_if_eq 40 (pc := 21) (i := 12) rfl rfl (by omega) (fun b21 => ?_) (fun b21 => ?_) | refine K_if_eq_an 40 (pc := 21) (i := 12) rfl rfl (fun b21 => ?_) (fun b21 => ?_)
        · skip
          refine K_iload_n (pc := 40) (i := 23) rfl rfl ?_
          exact K_retI (pc := 41) (i := 24) rfl rfl ⟨rfl, by omega⟩
        · skip
          refine K_iload_n (pc := 24) (i := 13) rfl rfl ?_
          refine K_iload_n (pc := 25) (i := 14) rfl rfl ?_
          refine K_irem (pc := 26) (i := 15) rfl (by omega) (by omega) ?_
          refine K_any (fun v26 r26 => ?_)
          refine K_ist (pc := 27) (i := 16) (lo' := [(0, _), (1, _), (2, _), (3, _), (4, _), (5, _)]) rfl rfl rfl rfl ?_
          refine K_iload_n (pc := 29) (i := 17) rfl rfl ?_
          refine K_ist_n (pc := 30) (i := 18) (lo' := [(0, _), (1, _), (2, _), (3, _), (4, _), (5, _)]) rfl rfl rfl rfl ?_
          refine K_iload (pc := 31) (i := 19) rfl rfl ?_
          refine K_ist_n (pc := 33) (i := 20) (lo' := [(0, _), (1, _), (2, _), (3, _), (4, _), (5, _)]) rfl rfl rfl rfl ?_
          refine K_inc (pc := 34) (i := 21) (q := 4) (lo' := [(0, _), (1, _), (2, _), (3, _), (4, _), (5, _)]) rfl rfl rfl rfl rfl ?_
          refine K_goto 13 (pc := 37) (i := 22) rfl rfl ?_
          refine K_drop (lo' := [(0, kI x0), (1, kI x1), (2, kI x3), (3, kI v26), (4, kI (x4 + 1))]) [0, 1, 2, 3, 4] rfl ?_
          exact ih13 x3 v26 (x4 + 1) (by omega) (by omega)
  exact L13 _ v1 v6 0 (Nat.lt_succ_self _) (by omega)
set_option maxHeartbeats 4000000 in
set_option maxRecDepth 100000 in
theorem c_War_write (G : kG) {g : kGh} {h : kH} {x1 : Int} {l2 : Int} (s1 : kR x1) (hI : Gd g h) : Ctr G y_War_write X_War_write 13 [.ref (G.2.2.2 0), kI x1, kJ l2] h (kQi (fun z h' => Fx (fun c i => c = 1 ∨ c = 2) h h' ∧ (((1 ≤ x1 ∧ x1 ≤ 8 ∧ g.1 + x1 ≤ 74 ∧ z = g.1 + x1 ∧ Gd (g.1 + x1, g.2) h') ∨ ((x1 < 1 ∨ 8 < x1) ∧ z = -2 ∧ Gd g h') ∨ (1 ≤ x1 ∧ x1 ≤ 8 ∧ 74 < g.1 + x1 ∧ z = -4 ∧ Gd g h')) ∧ ((1 ≤ x1 ∧ x1 ≤ 8 ∧ g.1 + x1 ≤ 74 → WrB (h 2) (h' 2) g.1 x1 (-1) l2) ∧ (¬ (1 ≤ x1 ∧ x1 ≤ 8 ∧ g.1 + x1 ≤ 74) → h' 2 = h 2))))) := by
  refine Ctr.ofK (by decide) rfl T_War_write (Nat.le_of_ble_eq_true rfl) (lo := [(0, .ref (G.2.2.2 0)), (1, kI x1), (2, kJ l2)]) rfl ?_
  have fx : Fx (fun c i => c = 1 ∨ c = 2) h h := Fx.rf
  refine K_iload_n (pc := 0) (i := 0) rfl rfl ?_
  refine K_iconst (pc := 1) (i := 1) rfl ?_
  first | refine K_icmp_lt 11 (pc := 2) (i := 2) rfl rfl (by omega) (by omega) (fun b2 => ?_) (fun b2 => ?_) | refine K_icmp_lt_an 11 (pc := 2) (i := 2) rfl rfl (fun b2 => ?_) (fun b2 => ?_)
  · skip
    refine K_bipush (pc := 11) (i := 6) rfl rfl ?_
    exact K_retI (pc := 13) (i := 7) rfl rfl ⟨fx, ⟨Or.inr (Or.inl ⟨by omega, rfl, hI⟩), fun q => by omega, fun _ => rfl⟩⟩
  · skip
    refine K_iload_n (pc := 5) (i := 3) rfl rfl ?_
    refine K_bipush (pc := 6) (i := 4) rfl rfl ?_
    first | refine K_icmp_le 14 (pc := 8) (i := 5) rfl rfl (by omega) (by omega) (fun b8 => ?_) (fun b8 => ?_) | refine K_icmp_le_an 14 (pc := 8) (i := 5) rfl rfl (fun b8 => ?_) (fun b8 => ?_)
    · skip
      refine K_aload_n (pc := 14) (i := 8) rfl rfl ?_
      refine K_getR (pc := 15) (i := 9) (j := 0) (d := 1) rfl S_0 rfl (by decide) rfl fw_War_10 ?_
      refine K_iload_n (pc := 18) (i := 10) rfl rfl ?_
      refine K_lload_n (pc := 19) (i := 11) rfl rfl ?_
      refine K_cVI (pc := 20) (i := 12) rfl (c_Text_append G (x1 := x1) (l2 := l2) (hI := hI) (s1 := by omega)) S_1 rfl (lv_War_65 rfl) rfl rfl rfl rfl rfl (fun v20 h20 q20 => ?_)
      obtain ⟨fx20, q20⟩ := q20
      have r20 := q20
      have fx := fx.tr fx20 (fun c i q => (by first | (dsimp only at q ⊢; omega) | omega))
      have k20 : v20 = 0 ∨ v20 = 1 := by rcases r20 with h | h <;> omega
      first | refine K_if_eq 36 (pc := 23) (i := 13) rfl rfl (by omega) (fun b23 => ?_) (fun b23 => ?_) | refine K_if_eq_an 36 (pc := 23) (i := 13) rfl rfl (fun b23 => ?_) (fun b23 => ?_)
      · skip
        have hJ : 74 < g.1 + x1 ∧ Gd g h20 ∧ h20 2 = h 2 := by rcases r20 with h | h; exact absurd h.1 (by omega); exact h.2
        have hI := hJ.2.1
        refine K_bipush (pc := 36) (i := 18) rfl rfl ?_
        exact K_retI (pc := 38) (i := 19) rfl rfl ⟨fx, (by first | exact ⟨Or.inr (Or.inr ⟨by omega, by omega, hJ.1, rfl, hI⟩), fun q => absurd q.2.2 (by omega), fun _ => hJ.2.2⟩ | exact ⟨Or.inl ⟨by omega, by omega, hJ.1, e30.trans hI.2.1, hI⟩, fun _ => hJ.2.2, fun q => absurd (show 1 ≤ x1 ∧ x1 ≤ 8 ∧ g.1 + x1 ≤ 74 by omega) q⟩)⟩
      · skip
        have hJ : g.1 + x1 ≤ 74 ∧ Gd (g.1 + x1, g.2) h20 ∧ WrB (h 2) (h20 2) g.1 x1 (-1) l2 := by rcases r20 with h | h; exact h.2; exact absurd h.1 (by omega)
        have hI := hJ.2.1
        refine K_aload_n (pc := 26) (i := 14) rfl rfl ?_
        refine K_getR (pc := 27) (i := 15) (j := 0) (d := 1) rfl S_0 rfl (by decide) rfl fw_War_10 ?_
        refine K_getI (pc := 30) (i := 16) (j := 1) rfl S_1 rfl (by decide) rfl fw_War_69 ?_
        refine K_nm (fun v30 e30 => ?_)
        have r30 := rd_len hI
        rw [← e30] at r30
        refine K_goto 38 (pc := 33) (i := 17) rfl rfl ?_
        exact K_retI (pc := 38) (i := 19) rfl rfl ⟨fx, (by first | exact ⟨Or.inr (Or.inr ⟨by omega, by omega, hJ.1, rfl, hI⟩), fun q => absurd q.2.2 (by omega), fun _ => hJ.2.2⟩ | exact ⟨Or.inl ⟨by omega, by omega, hJ.1, e30.trans hI.2.1, hI⟩, fun _ => hJ.2.2, fun q => absurd (show 1 ≤ x1 ∧ x1 ≤ 8 ∧ g.1 + x1 ≤ 74 by omega) q⟩)⟩
    · skip
      refine K_bipush (pc := 11) (i := 6) rfl rfl ?_
      exact K_retI (pc := 13) (i := 7) rfl rfl ⟨fx, ⟨Or.inr (Or.inl ⟨by omega, rfl, hI⟩), fun q => by omega, fun _ => rfl⟩⟩
set_option maxHeartbeats 4000000 in
set_option maxRecDepth 100000 in
theorem c_War_wipe (G : kG) {g : kGh} {h : kH}  (hI : Gd g h) : Ctr G y_War_wipe X_War_wipe 13 [.ref (G.2.2.2 0)] h (kQi (fun z h' => Fx (fun c i => c = 1) h h' ∧ (z = g.1 ∧ Gd (0, g.2) h'))) := by
  refine Ctr.ofK (by decide) rfl T_War_wipe (Nat.le_of_ble_eq_true rfl) (lo := [(0, .ref (G.2.2.2 0))]) rfl ?_
  have fx : Fx (fun c i => c = 1) h h := Fx.rf
  have e00 := hI.2.1
  refine K_aload_n (pc := 0) (i := 0) rfl rfl ?_
  refine K_getR (pc := 1) (i := 1) (j := 0) (d := 1) rfl S_0 rfl (by decide) rfl fw_War_10 ?_
  refine K_getI (pc := 4) (i := 2) (j := 1) rfl S_1 rfl (by decide) rfl fw_War_69 ?_
  refine K_nm (fun v4 e4 => ?_)
  have r4 := rd_len hI
  rw [← e4] at r4
  refine K_ist_n (pc := 7) (i := 3) (lo' := [(0, _), (1, _)]) rfl rfl rfl rfl ?_
  refine K_aload_n (pc := 8) (i := 4) rfl rfl ?_
  refine K_getR (pc := 9) (i := 5) (j := 0) (d := 1) rfl S_0 rfl (by decide) rfl fw_War_10 ?_
  refine K_iconst (pc := 12) (i := 6) rfl ?_
  refine K_putI (pc := 13) (i := 7) (j := 1) rfl S_1 rfl (by decide) rfl rfl rfl fw_War_69 ?_
  have hI := st_len hI (v := 0) (by omega)
  have fx := Fx.st (c := 1) (i := 1) (v := 0) fx (by first | (dsimp only; omega) | omega | exact not_false)
  refine K_iload_n (pc := 16) (i := 8) rfl rfl ?_
  exact K_retI (pc := 17) (i := 9) rfl rfl ⟨fx, ⟨e4.trans e00, hI⟩⟩
set_option maxHeartbeats 4000000 in
set_option maxRecDepth 100000 in
theorem c_War_fault (G : kG) {g : kGh} {h : kH}  (hI : Gd g h) : Ctr G y_War_fault X_War_fault 13 [.ref (G.2.2.2 0)] h (kQi (fun z h' => Fx (fun c i => False) h h' ∧ (Gd g h' ∧ FaultIs (h 2) (h 1 1) z))) := by
  refine Ctr.ofK (by decide) rfl T_War_fault (Nat.le_of_ble_eq_true rfl) (lo := [(0, .ref (G.2.2.2 0))]) rfl ?_
  have fx : Fx (fun c i => False) h h := Fx.rf
  refine K_aload_n (pc := 0) (i := 0) rfl rfl ?_
  refine K_getR (pc := 1) (i := 1) (j := 0) (d := 1) rfl S_0 rfl (by decide) rfl fw_War_10 ?_
  refine K_cVI (pc := 4) (i := 2) rfl (c_Text_firstFault G (hI := hI)) S_1 rfl (lv_War_73 rfl) rfl rfl rfl rfl rfl (fun v4 h4 q4 => ?_)
  obtain ⟨eh, r4⟩ := q4
  rw [eh]; clear eh
  exact K_retI (pc := 7) (i := 3) rfl rfl ⟨fx, ⟨hI, r4.2⟩⟩
set_option maxHeartbeats 4000000 in
set_option maxRecDepth 100000 in
theorem c_War_seed (G : kG) {g : kGh} {h : kH} {l1 : Int} (hI : Gd g h) : Ctr G y_War_seed X_War_seed 13 [.ref (G.2.2.2 0), kJ l1] h (kQj (fun z h' => Fx (fun c i => c = 0) h h' ∧ (z = g.2.1 ∧ Gd (g.1, l1, g.2.2) h'))) := by
  refine Ctr.ofK (by decide) rfl T_War_seed (Nat.le_of_ble_eq_true rfl) (lo := [(0, .ref (G.2.2.2 0)), (1, kJ l1)]) rfl ?_
  have fx : Fx (fun c i => c = 0) h h := Fx.rf
  have hI0 := hI
  refine K_aload_n (pc := 0) (i := 0) rfl rfl ?_
  refine K_getJ (pc := 1) (i := 1) (j := 8) rfl S_0 rfl (by decide) rfl fw_War_60 ?_
  refine K_lst_n (pc := 4) (i := 2) (lo' := [(0, _), (1, _), (3, _)]) rfl rfl rfl rfl ?_
  refine K_aload_n (pc := 5) (i := 3) rfl rfl ?_
  refine K_lload_n (pc := 6) (i := 4) rfl rfl ?_
  refine K_putJ (pc := 7) (i := 5) (j := 8) rfl S_0 rfl (by decide) rfl rfl rfl fw_War_60 ?_
  have hI := st_seed hI (v := l1)
  have fx := Fx.st (c := 0) (i := 8) (v := l1) fx (by first | (dsimp only; omega) | omega | exact not_false)
  refine K_lload_n (pc := 10) (i := 6) rfl rfl ?_
  exact K_retJ (pc := 11) (i := 7) rfl rfl ⟨fx, ⟨hI0.2.2.1, hI⟩⟩
