section
theorem p3n : ∀ k, k < 6 → 1 ≤ 3 ^ k ∧ 3 ^ k ≤ 243 := by decide
set_option maxHeartbeats 4000000 in
set_option maxRecDepth 100000 in
theorem c_Plans_planCount (G : kG)  {h : kH} {x0 : Int} (s0 : 0 ≤ x0 ∧ x0 ≤ 8) : Ctr G y_Plans_planCount X_Plans_planCount 1 [kI x0] h (kQi (fun z h' => h' = h ∧ (1 ≤ z ∧ z ≤ 243) ∧ z = ((3 ^ (min x0 5).toNat : Nat) : Int))) := by
  refine Ctr.ofK (by decide) rfl T_Plans_planCount (Nat.le_of_ble_eq_true rfl) (lo := [(0, kI x0)]) rfl ?_
  refine K_iconst (pc := 0) (i := 0) rfl ?_
  refine K_ist_n (pc := 1) (i := 1) (lo' := [(0, _), (1, _)]) rfl rfl rfl rfl ?_
  refine K_iconst (pc := 2) (i := 2) rfl ?_
  refine K_ist_n (pc := 3) (i := 3) (lo' := [(0, _), (1, _), (2, _)]) rfl rfl rfl rfl ?_
  have L4 : ∀ (n : Nat) (x1 : Int) (x2 : Int), (5 - x2).toNat < n → ((0 ≤ x2 ∧ x2 ≤ 5 ∧ x2 ≤ x0) ∧ x1 = ((3 ^ x2.toNat : Nat) : Int)) → K X_Plans_planCount G (kZm G 1 (kQi (fun z h' => h' = h ∧ (1 ≤ z ∧ z ≤ 243) ∧ z = ((3 ^ (min x0 5).toNat : Nat) : Int)))) 4 [(0, kI x0), (1, kI x1), (2, kI x2)] [] h := by
    intro n
    induction n with
    | zero => intro x1 x2 hm; exact absurd hm (Nat.not_lt_zero _)
    | succ n ih4 =>
      intro x1 x2 hm4 hV4
      have pb := p3n x2.toNat (by omega)
      refine K_iload_n (pc := 4) (i := 4) rfl rfl ?_
      refine K_iload_n (pc := 5) (i := 5) rfl rfl ?_
      first | refine K_icmp_ge 24 (pc := 6) (i := 6) rfl rfl (by omega) (by omega) (fun b6 => ?_) (fun b6 => ?_) | refine K_icmp_ge_an 24 (pc := 6) (i := 6) rfl rfl (fun b6 => ?_) (fun b6 => ?_)
      · skip
        refine K_iload_n (pc := 24) (i := 16) rfl rfl ?_
        exact K_retI (pc := 25) (i := 17) rfl rfl ⟨rfl, by omega, by rw [show (min x0 5).toNat = x2.toNat by omega]; exact hV4.2⟩
      · skip
        refine K_iload_n (pc := 9) (i := 7) rfl rfl ?_
        refine K_iconst (pc := 10) (i := 8) rfl ?_
        first | refine K_icmp_ge 24 (pc := 11) (i := 9) rfl rfl (by omega) (by omega) (fun b11 => ?_) (fun b11 => ?_) | refine K_icmp_ge_an 24 (pc := 11) (i := 9) rfl rfl (fun b11 => ?_) (fun b11 => ?_)
        · skip
          refine K_iload_n (pc := 24) (i := 16) rfl rfl ?_
          exact K_retI (pc := 25) (i := 17) rfl rfl ⟨rfl, by omega, by rw [show (min x0 5).toNat = x2.toNat by omega]; exact hV4.2⟩
        · skip
          refine K_iload_n (pc := 14) (i := 10) rfl rfl ?_
          refine K_iconst (pc := 15) (i := 11) rfl ?_
          refine K_imul (pc := 16) (i := 12) rfl ?_
          refine K_ist_n (pc := 17) (i := 13) (lo' := [(0, _), (1, _), (2, _)]) rfl rfl rfl rfl ?_
          refine K_inc (pc := 18) (i := 14) (q := 2) (lo' := [(0, _), (1, _), (2, _)]) rfl rfl rfl rfl rfl ?_
          refine K_goto 4 (pc := 21) (i := 15) rfl rfl ?_
          exact ih4 (x1 * 3) (x2 + 1) (by omega) ⟨by omega, by rw [show (x2 + 1).toNat = x2.toNat + 1 by omega, Nat.pow_succ]; omega⟩
  exact L4 _ 1 0 (Nat.lt_succ_self _) ⟨by omega, rfl⟩
set_option maxHeartbeats 4000000 in
set_option maxRecDepth 100000 in
theorem c_Plans_takeStay (G : kG) {g : kGh} {h : kH}  (hI : Gd g h) : Ctr G y_Plans_takeStay X_Plans_takeStay 1 [.ref (G.2.2.2 160)] h (kQv (fun h' => Fx (fun c i => c = 165) h h' ∧ (Gd g h' ∧ ∀ i : Nat, i < 8 → h' 165 i = 1))) := by
  refine Ctr.ofK (by decide) rfl T_Plans_takeStay (Nat.le_of_ble_eq_true rfl) (lo := [(0, .ref (G.2.2.2 160))]) rfl ?_
  have fx : Fx (fun c i => c = 165) h h := Fx.rf
  refine K_iconst (pc := 0) (i := 0) rfl ?_
  refine K_ist_n (pc := 1) (i := 1) (lo' := [(0, _), (1, _)]) rfl rfl rfl rfl ?_
  have L2 : ∀ (n : Nat) (x1 : Int) (ha : kH), (8 - x1).toNat < n → (Gd g ha) → (Fx (fun c i => c = 165) h ha) → ((0 ≤ x1 ∧ x1 ≤ 8) ∧ ∀ i : Nat, (i : Int) < x1 → ha 165 i = 1) → K X_Plans_takeStay G (kZm G 1 (kQv (fun h' => Fx (fun c i => c = 165) h h' ∧ (Gd g h' ∧ ∀ i : Nat, i < 8 → h' 165 i = 1)))) 2 [(0, .ref (G.2.2.2 160)), (1, kI x1)] [] ha := by
    intro n
    induction n with
    | zero => intro x1 ha hm; exact absurd hm (Nat.not_lt_zero _)
    | succ n ih2 =>
      intro x1 ha hm2 hI fx hV2
      refine K_iload_n (pc := 2) (i := 2) rfl rfl ?_
      refine K_bipush (pc := 3) (i := 3) rfl rfl ?_
      first | refine K_icmp_ge 21 (pc := 5) (i := 4) rfl rfl (by omega) (by omega) (fun b5 => ?_) (fun b5 => ?_) | refine K_icmp_ge_an 21 (pc := 5) (i := 4) rfl rfl (fun b5 => ?_) (fun b5 => ?_)
      · skip
        exact K_retV (pc := 21) (i := 12) rfl rfl ⟨fx, ⟨hI, fun i hi => hV2.2 i (by omega)⟩⟩
      · skip
        refine K_aload_n (pc := 8) (i := 5) rfl rfl ?_
        refine K_getR (pc := 9) (i := 6) (j := 4) (d := 165) rfl S_160 rfl (by decide) rfl fw_Plans_24 ?_
        refine K_iload_n (pc := 12) (i := 7) rfl rfl ?_
        refine K_iconst (pc := 13) (i := 8) rfl ?_
        refine K_iast (pc := 14) (i := 9) rfl S_165 (by omega) (by omega) (by decide) ?_
        have hI := st_chg hI (i := (x1).toNat) (v := 1) (by omega)
        have fx := Fx.st (c := 165) (i := (x1).toNat) (v := 1) fx (by first | (dsimp only; omega) | omega | exact not_false)
        have t14 : ∀ i : Nat, (i : Int) < x1 + 1 → (kU ha 165 ((x1).toNat) 1) 165 i = 1 := fun i hi => by rw [kU_s]; by_cases p : i = x1.toNat; (rw [if_pos p]); (rw [if_neg p]; exact hV2.2 i (by omega))
        refine K_inc (pc := 15) (i := 10) (q := 1) (lo' := [(0, _), (1, _)]) rfl rfl rfl rfl rfl ?_
        refine K_goto 2 (pc := 18) (i := 11) rfl rfl ?_
        exact ih2 (x1 + 1) _ (by omega) hI fx ⟨by omega, t14⟩
  exact L2 _ 0 _ (Nat.lt_succ_self _) hI fx ⟨by omega, fun i q => absurd q (by omega)⟩
set_option maxHeartbeats 4000000 in
set_option maxRecDepth 100000 in
theorem c_Plans_takePlan (G : kG) {g : kGh} {h : kH} {x1 : Int} {x2 : Int} (s1 : 0 ≤ x1 ∧ x1 ≤ 2147483647) (s2 : 0 ≤ x2 ∧ x2 ≤ 8) (hI : Gd g h) : Ctr G y_Plans_takePlan X_Plans_takePlan 2 [.ref (G.2.2.2 160), kI x1, kI x2] h (kQv (fun h' => Fx (fun c i => c = 165) h h' ∧ (Gd g h' ∧ ∀ i : Nat, (i : Int) < min x2 5 → h' 165 i = dg3 (min x2 5).toNat x1.toNat i))) := by
  refine Ctr.ofK (by decide) rfl T_Plans_takePlan (Nat.le_of_ble_eq_true rfl) (lo := [(0, .ref (G.2.2.2 160)), (1, kI x1), (2, kI x2)]) rfl ?_
  have fx : Fx (fun c i => c = 165) h h := Fx.rf
  refine K_iload_n (pc := 0) (i := 0) rfl rfl ?_
  refine K_ist_n (pc := 1) (i := 1) (lo' := [(0, _), (1, _), (2, _), (3, _)]) rfl rfl rfl rfl ?_
  refine K_iload_n (pc := 2) (i := 2) rfl rfl ?_
  refine K_iconst (pc := 3) (i := 3) rfl ?_
  refine K_mmin (pc := 4) (i := 4) rfl mw_Plans_83 (by omega) (by omega) (Nat.le_of_ble_eq_true rfl) ⟨Nat.le_of_ble_eq_true rfl, Nat.le_of_ble_eq_true rfl⟩ ⟨Nat.le_of_ble_eq_true rfl, Nat.le_of_ble_eq_true rfl⟩ ?_
  refine K_nm (fun v4 e4 => ?_)
  refine K_iconst (pc := 7) (i := 5) rfl ?_
  refine K_isub (pc := 8) (i := 6) rfl ?_
  refine K_ist (pc := 9) (i := 7) (lo' := [(0, _), (1, _), (2, _), (3, _), (4, _)]) rfl rfl rfl rfl ?_
  have L11 : ∀ (n : Nat) (x3 : Int) (x4 : Int) (ha : kH), (x4 + 1).toNat < n → (Gd g ha) → (Fx (fun c i => c = 165) h ha) → ((-1 ≤ x4 ∧ x4 ≤ v4 - 1) ∧ (0 ≤ x3 ∧ x3 ≤ 2147483647) ∧ x3 = ((x1.toNat / 3 ^ (v4 - 1 - x4).toNat : Nat) : Int) ∧ ∀ i : Nat, x4 < (i : Int) → (i : Int) < v4 → ha 165 i = dg3 v4.toNat x1.toNat i) → K X_Plans_takePlan G (kZm G 2 (kQv (fun h' => Fx (fun c i => c = 165) h h' ∧ (Gd g h' ∧ ∀ i : Nat, (i : Int) < min x2 5 → h' 165 i = dg3 (min x2 5).toNat x1.toNat i)))) 11 [(0, .ref (G.2.2.2 160)), (1, kI x1), (2, kI x2), (3, kI x3), (4, kI x4)] [] ha := by
    intro n
    induction n with
    | zero => intro x3 x4 ha hm; exact absurd hm (Nat.not_lt_zero _)
    | succ n ih11 =>
      intro x3 x4 ha hm11 hI fx hV11
      refine K_iload (pc := 11) (i := 8) rfl rfl ?_
      first | refine K_if_lt 36 (pc := 13) (i := 9) rfl rfl (by omega) (fun b13 => ?_) (fun b13 => ?_) | refine K_if_lt_an 36 (pc := 13) (i := 9) rfl rfl (fun b13 => ?_) (fun b13 => ?_)
      · skip
        exact K_retV (pc := 36) (i := 23) rfl rfl ⟨fx, ⟨hI, fun i hi => by rw [← e4]; exact hV11.2.2.2 i (by omega) (by omega)⟩⟩
      · skip
        refine K_aload_n (pc := 16) (i := 10) rfl rfl ?_
        refine K_getR (pc := 17) (i := 11) (j := 4) (d := 165) rfl S_160 rfl (by decide) rfl fw_Plans_24 ?_
        refine K_iload (pc := 20) (i := 12) rfl rfl ?_
        refine K_iload_n (pc := 22) (i := 13) rfl rfl ?_
        refine K_iconst (pc := 23) (i := 14) rfl ?_
        refine K_irem (pc := 24) (i := 15) rfl (by omega) (by omega) ?_
        refine K_eq (kRem_eq (by omega) (by omega) (by omega) (by omega)) ?_
        refine K_iast (pc := 25) (i := 16) rfl S_165 (by omega) (by omega) (by decide) ?_
        have hI := st_chg hI (i := (x4).toNat) (v := x3 % 3) (by omega)
        have fx := Fx.st (c := 165) (i := (x4).toNat) (v := x3 % 3) fx (by first | (dsimp only; omega) | omega | exact not_false)
        have d25 : x3 % 3 = dg3 v4.toNat x1.toNat x4.toNat := by unfold dg3; rw [hV11.2.2.1, show (v4 - 1 - x4).toNat = v4.toNat - 1 - x4.toNat by omega]; omega
        have t25 : ∀ i : Nat, x4 + (-1) < (i : Int) → (i : Int) < v4 → (kU ha 165 ((x4).toNat) (x3 % 3)) 165 i = dg3 v4.toNat x1.toNat i := fun i p q => by rw [kU_s]; by_cases e : i = x4.toNat; (rw [if_pos e, d25, e]); (rw [if_neg e]; exact hV11.2.2.2 i (by omega) q)
        refine K_iload_n (pc := 26) (i := 17) rfl rfl ?_
        refine K_iconst (pc := 27) (i := 18) rfl ?_
        refine K_idiv (pc := 28) (i := 19) rfl (by omega) (by omega) ?_
        refine K_eq (kDiv_eq (by omega) (by omega) (by omega) (by omega)) ?_
        refine K_ist_n (pc := 29) (i := 20) (lo' := [(0, _), (1, _), (2, _), (3, _), (4, _)]) rfl rfl rfl rfl ?_
        refine K_inc (pc := 30) (i := 21) (q := 4) (lo' := [(0, _), (1, _), (2, _), (3, _), (4, _)]) rfl rfl rfl rfl rfl ?_
        refine K_goto 11 (pc := 33) (i := 22) rfl rfl ?_
        exact ih11 (x3 / 3) (x4 + (-1)) _ (by omega) hI fx ⟨by omega, by omega, by rw [show (v4 - 1 - (x4 + (-1))).toNat = (v4 - 1 - x4).toNat + 1 by omega, Nat.pow_succ, ← Nat.div_div_eq_div_mul, hV11.2.2.1]; omega, t25⟩
  exact L11 _ x1 (v4 - 1) _ (Nat.lt_succ_self _) hI fx ⟨by omega, by omega, by rw [show (v4 - 1 - (v4 - 1)).toNat = 0 by omega, Nat.pow_zero, Nat.div_one]; omega, fun i p q => absurd q (by omega)⟩
set_option maxHeartbeats 4000000 in
set_option maxRecDepth 100000 in
theorem c_Plans_choices (G : kG) {g : kGh} {h : kH} {f : Nat} (hf : f ∈ FL) {x2 : Int} (s2 : 0 ≤ x2 ∧ x2 ≤ 1) (hI : Gd g h) : Ctr G y_Plans_choices X_Plans_choices 1 [.ref (G.2.2.2 160), .ref (G.2.2.2 f), kI x2] h (kQi (fun z h' => h' = h ∧ chI (h (f + 1)) x2 (h 165) z (h f 6))) := by
  refine Ctr.ofK (by decide) rfl T_Plans_choices (Nat.le_of_ble_eq_true rfl) (lo := [(0, .ref (G.2.2.2 160)), (1, .ref (G.2.2.2 f)), (2, kI x2)]) rfl ?_
  have n00 := rd_kites hI hf
  refine K_iconst (pc := 0) (i := 0) rfl ?_
  refine K_ist_n (pc := 1) (i := 1) (lo' := [(0, _), (1, _), (2, _), (3, _)]) rfl rfl rfl rfl ?_
  refine K_iconst (pc := 2) (i := 2) rfl ?_
  refine K_ist (pc := 3) (i := 3) (lo' := [(0, _), (1, _), (2, _), (3, _), (4, _)]) rfl rfl rfl rfl ?_
  refine K_iconst (pc := 5) (i := 4) rfl ?_
  refine K_ist (pc := 6) (i := 5) (lo' := [(0, _), (1, _), (2, _), (3, _), (4, _), (5, _)]) rfl rfl rfl rfl ?_
  have L8 : ∀ (n : Nat) (x3 : Int) (x4 : Int) (x5 : Int), (8 - x5).toNat < n → ((0 ≤ x4 ∧ x4 ≤ x5 ∧ x5 ≤ 8) ∧ x5 ≤ h f 6 ∧ x4 = cnt (h (f + 1)) x2 x5.toNat ∧ chI (h (f + 1)) x2 (h 165) x3 x5) → K X_Plans_choices G (kZm G 1 (kQi (fun z h' => h' = h ∧ chI (h (f + 1)) x2 (h 165) z (h f 6)))) 8 [(0, .ref (G.2.2.2 160)), (1, .ref (G.2.2.2 f)), (2, kI x2), (3, kI x3), (4, kI x4), (5, kI x5)] [] h := by
    intro n
    induction n with
    | zero => intro x3 x4 x5 hm; exact absurd hm (Nat.not_lt_zero _)
    | succ n ih8 =>
      intro x3 x4 x5 hm8 hV8
      refine K_iload (pc := 8) (i := 6) rfl rfl ?_
      refine K_aload_n (pc := 10) (i := 7) rfl rfl ?_
      refine K_getI (pc := 11) (i := 8) (j := 6) rfl (S_Fl hf) rfl (by decide) rfl fw_Plans_77 ?_
      refine K_nm (fun v11 e11 => ?_)
      have r11 := rd_kites hI hf
      rw [← e11] at r11
      first | refine K_icmp_ge 54 (pc := 14) (i := 9) rfl rfl (by omega) (by omega) (fun b14 => ?_) (fun b14 => ?_) | refine K_icmp_ge_an 54 (pc := 14) (i := 9) rfl rfl (fun b14 => ?_) (fun b14 => ?_)
      · skip
        refine K_iload_n (pc := 54) (i := 32) rfl rfl ?_
        exact K_retI (pc := 55) (i := 33) rfl rfl ⟨rfl, by rw [show h f 6 = x5 by omega]; exact hV8.2.2.2⟩
      · skip
        refine K_aload_n (pc := 17) (i := 10) rfl rfl ?_
        refine K_getR (pc := 18) (i := 11) (j := 0) (d := f + 1) rfl (S_Fl hf) rfl (by decide) rfl fw_Plans_108 ?_
        refine K_iload (pc := 21) (i := 12) rfl rfl ?_
        refine K_iald (pc := 23) (i := 13) rfl (S_Fl1 hf) (by omega) (by omega) (by decide) ?_
        refine K_nm (fun v23 e23 => ?_)
        have r23 := rd_town hI hf (x5).toNat
        rw [← e23] at r23
        refine K_iload_n (pc := 24) (i := 14) rfl rfl ?_
        first | refine K_icmp_ne 48 (pc := 25) (i := 15) rfl rfl (by omega) (by omega) (fun b25 => ?_) (fun b25 => ?_) | refine K_icmp_ne_an 48 (pc := 25) (i := 15) rfl rfl (fun b25 => ?_) (fun b25 => ?_)
        · skip
          refine K_inc (pc := 48) (i := 30) (q := 5) (lo' := [(0, _), (1, _), (2, _), (3, _), (4, _), (5, _)]) rfl rfl rfl rfl rfl ?_
          refine K_goto 8 (pc := 51) (i := 31) rfl rfl ?_
          exact ih8 x3 x4 (x5 + 1) (by omega) (by first | exact ⟨by omega, by omega, by rw [show (x5 + 1).toNat = x5.toNat + 1 by omega, cnt, ← e23, if_pos (by omega), hV8.2.2.1], by rw [e43, e42]; exact hV8.2.2.2.yes (by omega) (by rw [← e23]; omega) (by rw [y40]) (by rw [← y40]; omega)⟩ | exact ⟨by omega, by omega, by rw [show (x5 + 1).toNat = x5.toNat + 1 by omega, cnt, ← e23, if_neg (by omega), hV8.2.2.1]; omega, hV8.2.2.2.no (by omega) (by rw [← e23]; omega)⟩)
        · skip
          refine K_iload_n (pc := 28) (i := 16) rfl rfl ?_
          refine K_iconst (pc := 29) (i := 17) rfl ?_
          refine K_iconst (pc := 30) (i := 18) rfl ?_
          refine K_iload (pc := 31) (i := 19) rfl rfl ?_
          refine K_imul (pc := 33) (i := 20) rfl ?_
          refine K_aload_n (pc := 34) (i := 21) rfl rfl ?_
          refine K_getR (pc := 35) (i := 22) (j := 4) (d := 165) rfl S_160 rfl (by decide) rfl fw_Plans_24 ?_
          refine K_iload (pc := 38) (i := 23) rfl rfl ?_
          refine K_iald (pc := 40) (i := 24) rfl S_165 (by omega) (by omega) (by decide) ?_
          refine K_nm (fun v40 e40 => ?_)
          have r40 := rd_chg hI (x4).toNat
          rw [← e40] at r40
          have y40 : v40 = h 165 (cnt (h (f + 1)) x2 x5.toNat).toNat := by rw [e40, hV8.2.2.1]
          refine K_iadd (pc := 41) (i := 25) rfl ?_
          refine K_ishl (pc := 42) (i := 26) rfl ?_
          refine K_nm (fun v42 e42 => ?_)
          have r42 := kShl_R 1 ((3 * x5) + v40)
          rw [← e42] at r42
          refine K_ior (pc := 43) (i := 27) rfl ?_
          refine K_nm (fun v43 e43 => ?_)
          have r43 := kOr_R x3 v42
          rw [← e43] at r43
          refine K_ist_n (pc := 44) (i := 28) (lo' := [(0, _), (1, _), (2, _), (3, _), (4, _), (5, _)]) rfl rfl rfl rfl ?_
          refine K_inc (pc := 45) (i := 29) (q := 4) (lo' := [(0, _), (1, _), (2, _), (3, _), (4, _), (5, _)]) rfl rfl rfl rfl rfl ?_
          refine K_inc (pc := 48) (i := 30) (q := 5) (lo' := [(0, _), (1, _), (2, _), (3, _), (4, _), (5, _)]) rfl rfl rfl rfl rfl ?_
          refine K_goto 8 (pc := 51) (i := 31) rfl rfl ?_
          exact ih8 v43 (x4 + 1) (x5 + 1) (by omega) (by first | exact ⟨by omega, by omega, by rw [show (x5 + 1).toNat = x5.toNat + 1 by omega, cnt, ← e23, if_pos (by omega), hV8.2.2.1], by rw [e43, e42]; exact hV8.2.2.2.yes (by omega) (by rw [← e23]; omega) (by rw [y40]) (by rw [← y40]; omega)⟩ | exact ⟨by omega, by omega, by rw [show (x5 + 1).toNat = x5.toNat + 1 by omega, cnt, ← e23, if_neg (by omega), hV8.2.2.1]; omega, hV8.2.2.2.no (by omega) (by rw [← e23]; omega)⟩)
  exact L8 _ 0 0 0 (Nat.lt_succ_self _) ⟨by omega, by omega, rfl, chI.z⟩
set_option maxHeartbeats 4000000 in
set_option maxRecDepth 100000 in
theorem c_Plans_cutBy (G : kG) {g : kGh} {h : kH} {x1 : Int} (hI : Gd g h) : Ctr G y_Plans_cutBy X_Plans_cutBy 1 [.ref (G.2.2.2 160), kI x1] h (kQi (fun z h' => h' = h ∧ cbB (h 164) x1 z 24)) := by
  refine Ctr.ofK (by decide) rfl T_Plans_cutBy (Nat.le_of_ble_eq_true rfl) (lo := [(0, .ref (G.2.2.2 160)), (1, kI x1)]) rfl ?_
  refine K_iconst (pc := 0) (i := 0) rfl ?_
  refine K_ist_n (pc := 1) (i := 1) (lo' := [(0, _), (1, _), (2, _)]) rfl rfl rfl rfl ?_
  refine K_iconst (pc := 2) (i := 2) rfl ?_
  refine K_ist_n (pc := 3) (i := 3) (lo' := [(0, _), (1, _), (2, _), (3, _)]) rfl rfl rfl rfl ?_
  have L4 : ∀ (n : Nat) (x2 : Int) (x3 : Int), (24 - x3).toNat < n → ((0 ≤ x3 ∧ x3 ≤ 24) ∧ cbB (h 164) x1 x2 x3) → K X_Plans_cutBy G (kZm G 1 (kQi (fun z h' => h' = h ∧ cbB (h 164) x1 z 24))) 4 [(0, .ref (G.2.2.2 160)), (1, kI x1), (2, kI x2), (3, kI x3)] [] h := by
    intro n
    induction n with
    | zero => intro x2 x3 hm; exact absurd hm (Nat.not_lt_zero _)
    | succ n ih4 =>
      intro x2 x3 hm4 hV4
      refine K_iload_n (pc := 4) (i := 4) rfl rfl ?_
      refine K_bipush (pc := 5) (i := 5) rfl rfl ?_
      first | refine K_icmp_ge 33 (pc := 7) (i := 6) rfl rfl (by omega) (by omega) (fun b7 => ?_) (fun b7 => ?_) | refine K_icmp_ge_an 33 (pc := 7) (i := 6) rfl rfl (fun b7 => ?_) (fun b7 => ?_)
      · skip
        refine K_iload_n (pc := 33) (i := 22) rfl rfl ?_
        exact K_retI (pc := 34) (i := 23) rfl rfl ⟨rfl, by rw [show (24 : Int) = x3 by omega]; exact hV4.2⟩
      · skip
        refine K_iload_n (pc := 10) (i := 7) rfl rfl ?_
        refine K_iload_n (pc := 11) (i := 8) rfl rfl ?_
        refine K_ishr (pc := 12) (i := 9) rfl ?_
        refine K_nm (fun v12 e12 => ?_)
        have r12 := kShr_R x1 x3
        rw [← e12] at r12
        refine K_iconst (pc := 13) (i := 10) rfl ?_
        refine K_iand (pc := 14) (i := 11) rfl ?_
        refine K_nm (fun v14 e14 => ?_)
        have r14 := kAnd_1 v12
        rw [← e14] at r14
        have t14 : v14 = if tb x1 x3 then 1 else 0 := by rw [e14, e12]; exact kbit (by omega)
        first | refine K_if_eq 27 (pc := 15) (i := 12) rfl rfl (by omega) (fun b15 => ?_) (fun b15 => ?_) | refine K_if_eq_an 27 (pc := 15) (i := 12) rfl rfl (fun b15 => ?_) (fun b15 => ?_)
        · skip
          refine K_inc (pc := 27) (i := 20) (q := 3) (lo' := [(0, _), (1, _), (2, _), (3, _)]) rfl rfl rfl rfl rfl ?_
          refine K_goto 4 (pc := 30) (i := 21) rfl rfl ?_
          exact ih4 x2 (x3 + 1) (by omega) (by first | exact ⟨by omega, hV4.2.no (by omega) (tbf t14 (by omega))⟩ | exact ⟨by omega, by rw [e25, e24]; exact hV4.2.yes (by omega) (tbx t14 (by omega))⟩)
        · skip
          refine K_iload_n (pc := 18) (i := 13) rfl rfl ?_
          refine K_aload_n (pc := 19) (i := 14) rfl rfl ?_
          refine K_getR (pc := 20) (i := 15) (j := 3) (d := 164) rfl S_160 rfl (by decide) rfl fw_Plans_21 ?_
          refine K_iload_n (pc := 23) (i := 16) rfl rfl ?_
          refine K_iald (pc := 24) (i := 17) rfl S_164 (by omega) (by omega) (by decide) ?_
          refine K_nm (fun v24 e24 => ?_)
          refine K_ior (pc := 25) (i := 18) rfl ?_
          refine K_nm (fun v25 e25 => ?_)
          have r25 := kOr_R x2 v24
          rw [← e25] at r25
          refine K_ist_n (pc := 26) (i := 19) (lo' := [(0, _), (1, _), (2, _), (3, _)]) rfl rfl rfl rfl ?_
          refine K_inc (pc := 27) (i := 20) (q := 3) (lo' := [(0, _), (1, _), (2, _), (3, _)]) rfl rfl rfl rfl rfl ?_
          refine K_goto 4 (pc := 30) (i := 21) rfl rfl ?_
          exact ih4 v25 (x3 + 1) (by omega) (by first | exact ⟨by omega, hV4.2.no (by omega) (tbf t14 (by omega))⟩ | exact ⟨by omega, by rw [e25, e24]; exact hV4.2.yes (by omega) (tbx t14 (by omega))⟩)
  exact L4 _ 0 0 (Nat.lt_succ_self _) ⟨by omega, cbB.z⟩
set_option maxHeartbeats 4000000 in
set_option maxRecDepth 100000 in
theorem c_Plans_bestChange (G : kG) {g : kGh} {h : kH} {x1 : Int} (s1 : kR x1) (hI : Gd g h) : Ctr G y_Plans_bestChange X_Plans_bestChange 1 [.ref (G.2.2.2 160), kI x1] h (kQi (fun z h' => h' = h ∧ kR z)) := by
  refine Ctr.ofK (by decide) rfl T_Plans_bestChange (Nat.le_of_ble_eq_true rfl) (lo := [(0, .ref (G.2.2.2 160)), (1, kI x1)]) rfl ?_
  refine K_iload_n (pc := 0) (i := 0) rfl rfl ?_
  first | refine K_if_lt 19 (pc := 1) (i := 1) rfl rfl (by omega) (fun b1 => ?_) (fun b1 => ?_) | refine K_if_lt_an 19 (pc := 1) (i := 1) rfl rfl (fun b1 => ?_) (fun b1 => ?_)
  · skip
    refine K_bipush (pc := 19) (i := 10) rfl rfl ?_
    exact K_retI (pc := 21) (i := 11) rfl rfl ⟨rfl, by omega⟩
  · skip
    refine K_iload_n (pc := 4) (i := 2) rfl rfl ?_
    refine K_bipush (pc := 5) (i := 3) rfl rfl ?_
    first | refine K_icmp_ge 19 (pc := 7) (i := 4) rfl rfl (by omega) (by omega) (fun b7 => ?_) (fun b7 => ?_) | refine K_icmp_ge_an 19 (pc := 7) (i := 4) rfl rfl (fun b7 => ?_) (fun b7 => ?_)
    · skip
      refine K_bipush (pc := 19) (i := 10) rfl rfl ?_
      exact K_retI (pc := 21) (i := 11) rfl rfl ⟨rfl, by omega⟩
    · skip
      refine K_aload_n (pc := 10) (i := 5) rfl rfl ?_
      refine K_getR (pc := 11) (i := 6) (j := 5) (d := 166) rfl S_160 rfl (by decide) rfl fw_Plans_27 ?_
      refine K_iload_n (pc := 14) (i := 7) rfl rfl ?_
      refine K_iald (pc := 15) (i := 8) rfl S_166 (by omega) (by omega) (by decide) ?_
      refine K_any (fun v15 r15 => ?_)
      refine K_goto 21 (pc := 16) (i := 9) rfl rfl ?_
      exact K_retI (pc := 21) (i := 11) rfl rfl ⟨rfl, by omega⟩
end
section
def mfC (h : kH) (f : Nat) (a b : Int) : Prop := h (f + 1) (a / 3).toNat ≠ h (f + 1) (b / 3).toNat ∧ crC (h (f + 2) (a / 3).toNat) (h 162 a.toNat) (h 161 a.toNat) (h (f + 2) (b / 3).toNat) (h 162 b.toNat) (h 161 b.toNat)
set_option maxHeartbeats 4000000 in
set_option maxRecDepth 100000 in
theorem c_Plans_mayFight (G : kG) {g : kGh} {h : kH} {f : Nat} (hf : f ∈ FL) {x2 : Int} {x3 : Int} (s2 : 0 ≤ x2 ∧ x2 ≤ 23) (s3 : 0 ≤ x3 ∧ x3 ≤ 23) (hI : Gd g h) : Ctr G y_Plans_mayFight X_Plans_mayFight 3 [.ref (G.2.2.2 160), .ref (G.2.2.2 f), kI x2, kI x3] h (kQi (fun z h' => h' = h ∧ ((z = 1 ∧ mfC h f x2 x3) ∨ (z = 0 ∧ ¬ mfC h f x2 x3)))) := by
  refine Ctr.ofK (by decide) rfl T_Plans_mayFight (Nat.le_of_ble_eq_true rfl) (lo := [(0, .ref (G.2.2.2 160)), (1, .ref (G.2.2.2 f)), (2, kI x2), (3, kI x3)]) rfl ?_
  refine K_iload_n (pc := 0) (i := 0) rfl rfl ?_
  refine K_iconst (pc := 1) (i := 1) rfl ?_
  refine K_idiv (pc := 2) (i := 2) rfl (by omega) (by omega) ?_
  refine K_eq (kDiv_eq (by omega) (by omega) (by omega) (by omega)) ?_
  refine K_ist (pc := 3) (i := 3) (lo' := [(0, _), (1, _), (2, _), (3, _), (4, _)]) rfl rfl rfl rfl ?_
  refine K_iload_n (pc := 5) (i := 4) rfl rfl ?_
  refine K_iconst (pc := 6) (i := 5) rfl ?_
  refine K_idiv (pc := 7) (i := 6) rfl (by omega) (by omega) ?_
  refine K_eq (kDiv_eq (by omega) (by omega) (by omega) (by omega)) ?_
  refine K_ist (pc := 8) (i := 7) (lo' := [(0, _), (1, _), (2, _), (3, _), (4, _), (5, _)]) rfl rfl rfl rfl ?_
  refine K_aload_n (pc := 10) (i := 8) rfl rfl ?_
  refine K_getR (pc := 11) (i := 9) (j := 0) (d := f + 1) rfl (S_Fl hf) rfl (by decide) rfl fw_Plans_108 ?_
  refine K_iload (pc := 14) (i := 10) rfl rfl ?_
  refine K_iald (pc := 16) (i := 11) rfl (S_Fl1 hf) (by omega) (by omega) (by decide) ?_
  refine K_nm (fun v16 e16 => ?_)
  have r16 := rd_town hI hf (x2 / 3).toNat
  rw [← e16] at r16
  refine K_aload_n (pc := 17) (i := 12) rfl rfl ?_
  refine K_getR (pc := 18) (i := 13) (j := 0) (d := f + 1) rfl (S_Fl hf) rfl (by decide) rfl fw_Plans_108 ?_
  refine K_iload (pc := 21) (i := 14) rfl rfl ?_
  refine K_iald (pc := 23) (i := 15) rfl (S_Fl1 hf) (by omega) (by omega) (by decide) ?_
  refine K_nm (fun v23 e23 => ?_)
  have r23 := rd_town hI hf (x3 / 3).toNat
  rw [← e23] at r23
  first | refine K_icmp_eq 75 (pc := 24) (i := 16) rfl rfl (by omega) (by omega) (fun b24 => ?_) (fun b24 => ?_) | refine K_icmp_eq_an 75 (pc := 24) (i := 16) rfl rfl (fun b24 => ?_) (fun b24 => ?_)
  · skip
    refine K_iconst (pc := 75) (i := 45) rfl ?_
    exact K_retZ (pc := 76) (i := 46) rfl rfl (by omega) (by first | exact ⟨rfl, Or.inr ⟨rfl, fun q => q.1 (by rw [← e16, ← e23]; omega)⟩⟩ | exact ⟨rfl, Or.inl ⟨rfl, by rw [← e16, ← e23]; omega, by rw [← e33, ← e39, ← e45, ← e52, ← e58, ← e64]; exact r65.elim (fun q => q.2) (fun q => absurd q.1 (by omega))⟩⟩ | exact ⟨rfl, Or.inr ⟨rfl, fun q => r65.elim (fun e => absurd e.1 (by omega)) (fun e => e.2 (by have t := q.2; rw [← e33, ← e39, ← e45, ← e52, ← e58, ← e64] at t; exact t))⟩⟩)
  · skip
    refine K_aload_n (pc := 27) (i := 17) rfl rfl ?_
    refine K_getR (pc := 28) (i := 18) (j := 1) (d := f + 2) rfl (S_Fl hf) rfl (by decide) rfl fw_Plans_111 ?_
    refine K_iload (pc := 31) (i := 19) rfl rfl ?_
    refine K_iald (pc := 33) (i := 20) rfl (S_Fl2 hf) (by omega) (by omega) (by decide) ?_
    refine K_nm (fun v33 e33 => ?_)
    have r33 := rd_stake hI hf (x2 / 3).toNat
    rw [← e33] at r33
    refine K_aload_n (pc := 34) (i := 21) rfl rfl ?_
    refine K_getR (pc := 35) (i := 22) (j := 1) (d := 162) rfl S_160 rfl (by decide) rfl fw_Plans_15 ?_
    refine K_iload_n (pc := 38) (i := 23) rfl rfl ?_
    refine K_iald (pc := 39) (i := 24) rfl S_162 (by omega) (by omega) (by decide) ?_
    refine K_nm (fun v39 e39 => ?_)
    have r39 := rd_plp hI (x2).toNat
    rw [← e39] at r39
    refine K_aload_n (pc := 40) (i := 25) rfl rfl ?_
    refine K_getR (pc := 41) (i := 26) (j := 0) (d := 161) rfl S_160 rfl (by decide) rfl fw_Plans_11 ?_
    refine K_iload_n (pc := 44) (i := 27) rfl rfl ?_
    refine K_iald (pc := 45) (i := 28) rfl S_161 (by omega) (by omega) (by decide) ?_
    refine K_nm (fun v45 e45 => ?_)
    have r45 := rd_plh hI (x2).toNat
    rw [← e45] at r45
    refine K_aload_n (pc := 46) (i := 29) rfl rfl ?_
    refine K_getR (pc := 47) (i := 30) (j := 1) (d := f + 2) rfl (S_Fl hf) rfl (by decide) rfl fw_Plans_111 ?_
    refine K_iload (pc := 50) (i := 31) rfl rfl ?_
    refine K_iald (pc := 52) (i := 32) rfl (S_Fl2 hf) (by omega) (by omega) (by decide) ?_
    refine K_nm (fun v52 e52 => ?_)
    have r52 := rd_stake hI hf (x3 / 3).toNat
    rw [← e52] at r52
    refine K_aload_n (pc := 53) (i := 33) rfl rfl ?_
    refine K_getR (pc := 54) (i := 34) (j := 1) (d := 162) rfl S_160 rfl (by decide) rfl fw_Plans_15 ?_
    refine K_iload_n (pc := 57) (i := 35) rfl rfl ?_
    refine K_iald (pc := 58) (i := 36) rfl S_162 (by omega) (by omega) (by decide) ?_
    refine K_nm (fun v58 e58 => ?_)
    have r58 := rd_plp hI (x3).toNat
    rw [← e58] at r58
    refine K_aload_n (pc := 59) (i := 37) rfl rfl ?_
    refine K_getR (pc := 60) (i := 38) (j := 0) (d := 161) rfl S_160 rfl (by decide) rfl fw_Plans_11 ?_
    refine K_iload_n (pc := 63) (i := 39) rfl rfl ?_
    refine K_iald (pc := 64) (i := 40) rfl S_161 (by omega) (by omega) (by decide) ?_
    refine K_nm (fun v64 e64 => ?_)
    have r64 := rd_plh hI (x3).toNat
    rw [← e64] at r64
    refine K_cSI (pc := 65) (i := 41) rfl (c_Fleet_linesMeet G (x0 := v33) (x1 := v39) (x2 := v45) (x3 := v52) (x4 := v58) (x5 := v64) (s0 := by omega) (s1 := by omega) (s2 := by omega) (s3 := by omega) (s4 := by omega) (s5 := by omega)) (ls_Plans_114 rfl) rfl rfl rfl rfl (fun v65 h65 q65 => ?_)
    obtain ⟨eh, r65⟩ := q65
    rw [eh]; clear eh
    first | refine K_if_eq 75 (pc := 68) (i := 42) rfl rfl (by omega) (fun b68 => ?_) (fun b68 => ?_) | refine K_if_eq_an 75 (pc := 68) (i := 42) rfl rfl (fun b68 => ?_) (fun b68 => ?_)
    · skip
      refine K_iconst (pc := 75) (i := 45) rfl ?_
      exact K_retZ (pc := 76) (i := 46) rfl rfl (by omega) (by first | exact ⟨rfl, Or.inr ⟨rfl, fun q => q.1 (by rw [← e16, ← e23]; omega)⟩⟩ | exact ⟨rfl, Or.inl ⟨rfl, by rw [← e16, ← e23]; omega, by rw [← e33, ← e39, ← e45, ← e52, ← e58, ← e64]; exact r65.elim (fun q => q.2) (fun q => absurd q.1 (by omega))⟩⟩ | exact ⟨rfl, Or.inr ⟨rfl, fun q => r65.elim (fun e => absurd e.1 (by omega)) (fun e => e.2 (by have t := q.2; rw [← e33, ← e39, ← e45, ← e52, ← e58, ← e64] at t; exact t))⟩⟩)
    · skip
      refine K_iconst (pc := 71) (i := 43) rfl ?_
      refine K_goto 76 (pc := 72) (i := 44) rfl rfl ?_
      exact K_retZ (pc := 76) (i := 46) rfl rfl (by omega) (by first | exact ⟨rfl, Or.inr ⟨rfl, fun q => q.1 (by rw [← e16, ← e23]; omega)⟩⟩ | exact ⟨rfl, Or.inl ⟨rfl, by rw [← e16, ← e23]; omega, by rw [← e33, ← e39, ← e45, ← e52, ← e58, ← e64]; exact r65.elim (fun q => q.2) (fun q => absurd q.1 (by omega))⟩⟩ | exact ⟨rfl, Or.inr ⟨rfl, fun q => r65.elim (fun e => absurd e.1 (by omega)) (fun e => e.2 (by have t := q.2; rw [← e33, ← e39, ← e45, ← e52, ← e58, ← e64] at t; exact t))⟩⟩)
/-- the choices' heights, places and edges stand, as far as x -/
def PPa (h ha : kH) (x : Int) : Prop := ∀ c : Nat, (c : Int) < x → ha 161 c = cH h 3 (c / 3) ((c % 3 : Nat) : Int) ∧ ha 162 c = cP h 3 (c / 3) ((c % 3 : Nat) : Int) ∧ ha 163 c = cE h 3 (c / 3) ((c % 3 : Nat) : Int)
theorem PPa.of {h ha hb : kH} {x : Int} (a : PPa h ha x) (e1 : hb 161 = ha 161) (e2 : hb 162 = ha 162) (e3 : hb 163 = ha 163) : PPa h hb x := fun c hc => by rw [e1, e2, e3]; exact a c hc
theorem PPa.st {h ha he : kH} {x : Int} (a : PPa h ha x) (h0 : 0 ≤ x) (e1 : ∀ j, he 161 j = if j = x.toNat then cH h 3 (x.toNat / 3) ((x.toNat % 3 : Nat) : Int) else ha 161 j) (e2 : ∀ j, he 162 j = if j = x.toNat then cP h 3 (x.toNat / 3) ((x.toNat % 3 : Nat) : Int) else ha 162 j) (e3 : ∀ j, he 163 j = if j = x.toNat then cE h 3 (x.toNat / 3) ((x.toNat % 3 : Nat) : Int) else ha 163 j) : PPa h he (x + 1) := fun c hc => by
  rw [e1, e2, e3]
  by_cases e : c = x.toNat
  · rw [if_pos e, if_pos e, if_pos e, e]; exact ⟨rfl, rfl, rfl⟩
  · rw [if_neg e, if_neg e, if_neg e]; exact a c (by omega)
/-- whom the choice a cuts, as far as the choice b -/
def CBd (h : kH) (n m : Int) (a : Nat) (b : Int) : Prop := kR m ∧ ∀ j : Int, 0 ≤ j → j ≤ 31 → (tb m j = true ↔ (j < 3 * n ∧ j < b) ∧ cCut h 3 (a / 3) ((a % 3 : Nat) : Int) (j / 3).toNat (j % 3))
theorem CBd.z {h : kH} {n : Int} {a : Nat} : CBd h n 0 a 0 := ⟨⟨by omega, by omega⟩, fun j h0 h1 => by
  rw [tbc_0 h0 h1]
  exact ⟨fun e => absurd e Bool.false_ne_true, fun e => absurd e.1 (by omega)⟩⟩
theorem CBd.no {h : kH} {n m b : Int} {a : Nat} (c : CBd h n m a b) (hb : ¬ cCut h 3 (a / 3) ((a % 3 : Nat) : Int) (b / 3).toNat (b % 3)) : CBd h n m a (b + 1) := ⟨c.1, fun j h0 h1 => by
  rw [c.2 j h0 h1]
  constructor
  · rintro ⟨p, r⟩; exact ⟨by omega, r⟩
  · rintro ⟨p, r⟩
    refine ⟨⟨p.1, ?_⟩, r⟩
    by_cases e : j = b
    · subst e; exact absurd r hb
    · omega⟩
theorem CBd.yes {h : kH} {n m b : Int} {a : Nat} (c : CBd h n m a b) (h0 : 0 ≤ b ∧ b ≤ 31) (hn : b < 3 * n) (hb : cCut h 3 (a / 3) ((a % 3 : Nat) : Int) (b / 3).toNat (b % 3)) : CBd h n (kOr m (kShl 1 b)) a (b + 1) := ⟨kOr_R _ _, fun j j0 j1 => by
  rw [bt_or, Bool.or_eq_true, c.2 j j0 j1, tbc_shl h0 j0 j1]
  constructor
  · rintro (⟨p, r⟩ | e)
    · exact ⟨by omega, r⟩
    · subst e; exact ⟨by omega, hb⟩
  · rintro ⟨p, r⟩
    by_cases e : j = b
    · exact Or.inr e
    · exact Or.inl ⟨by omega, r⟩⟩
theorem CBd.up {h : kH} {n m b : Int} {a : Nat} (c : CBd h n m a b) (hb : 3 * n ≤ b) : CBd h n m a (3 * n) := ⟨c.1, fun j h0 h1 => by
  rw [c.2 j h0 h1]
  constructor
  · rintro ⟨p, r⟩; exact ⟨by omega, r⟩
  · rintro ⟨p, r⟩; exact ⟨by omega, r⟩⟩
theorem cE_r {g : kGh} {h : kH} (hI : Gd g h) (k : Nat) (c : Int) : 0 ≤ cE h 3 k c ∧ cE h 3 k c ≤ 36 := by
  have a := rd_glass hI fl6 k
  have b := rd_wind hI sk3 (cH h 3 k c).toNat
  have r := kAbs_r (a := h (3 + 1) (cH h 3 k c).toNat) (by unfold kR; omega)
  have u := mul_bd (A := 9) (B := 4) (a := h (6 + 5) k) (b := kAbs (h (3 + 1) (cH h 3 k c).toNat) + 1) (by omega) (by omega)
  have w := Int.mul_nonneg (a := h (6 + 5) k) (b := kAbs (h (3 + 1) (cH h 3 k c).toNat) + 1) (by omega) (by omega)
  have e : cE h 3 k c = h (6 + 5) k * (kAbs (h (3 + 1) (cH h 3 k c).toNat) + 1) := rfl
  omega
def PRP (h h' : kH) : Prop := ∀ c : Nat, (c : Int) < 3 * h 6 6 → CBd h (h 6 6) (h' 164 c) c (3 * h 6 6)
set_option maxHeartbeats 4000000 in
set_option maxRecDepth 100000 in
theorem c_Plans_prepare (G : kG) {g : kGh} {h : kH}  (hI : Gd g h) : Ctr G y_Plans_prepare X_Plans_prepare 4 [.ref (G.2.2.2 160), .ref (G.2.2.2 3)] h (kQv (fun h' => Fx (fun c i => 161 ≤ c ∧ c ≤ 164) h h' ∧ (Gd g h' ∧ PRP h h'))) := by
  refine Ctr.ofK (by decide) rfl T_Plans_prepare (Nat.le_of_ble_eq_true rfl) (lo := [(0, .ref (G.2.2.2 160)), (1, .ref (G.2.2.2 3))]) rfl ?_
  have fx : Fx (fun c i => 161 ≤ c ∧ c ≤ 164) h h := Fx.rf
  have n00 := rd_kites hI fl6
  have ce0 := cE_r hI
  refine K_aload_n (pc := 0) (i := 0) rfl rfl ?_
  refine K_getR (pc := 1) (i := 1) (j := 0) (d := 6) rfl (S_Sk sk3) rfl (by decide) rfl fw_Plans_44 ?_
  refine K_getI (pc := 4) (i := 2) (j := 6) rfl (S_Fl fl6) rfl (by decide) rfl fw_Plans_77 ?_
  refine K_nm (fun v4 e4 => ?_)
  have r4 := rd_kites hI fl6
  rw [← e4] at r4
  have t4 : v4 = h 6 6 := e4
  refine K_ist_n (pc := 7) (i := 3) (lo' := [(0, _), (1, _), (2, _)]) rfl rfl rfl rfl ?_
  refine K_iconst (pc := 8) (i := 4) rfl ?_
  refine K_ist_n (pc := 9) (i := 5) (lo' := [(0, _), (1, _), (2, _), (3, _)]) rfl rfl rfl rfl ?_
  have L10 : ∀ (n : Nat) (x3 : Int) (ha : kH), (24 - x3).toNat < n → (Gd g ha) → (Fx (fun c i => 161 ≤ c ∧ c ≤ 164) h ha) → ((0 ≤ x3 ∧ x3 ≤ 24) ∧ x3 ≤ 3 * h 6 6 ∧ PPa h ha x3 ∧ ∀ c : Nat, (c : Int) < x3 → ha 164 c = 0) → K X_Plans_prepare G (kZm G 4 (kQv (fun h' => Fx (fun c i => 161 ≤ c ∧ c ≤ 164) h h' ∧ (Gd g h' ∧ PRP h h')))) 10 [(0, .ref (G.2.2.2 160)), (1, .ref (G.2.2.2 3)), (2, kI v4), (3, kI x3)] [] ha := by
    intro n
    induction n with
    | zero => intro x3 ha hm; exact absurd hm (Nat.not_lt_zero _)
    | succ n ih10 =>
      intro x3 ha hm10 hI fx hV10
      refine K_iload_n (pc := 10) (i := 6) rfl rfl ?_
      refine K_iload_n (pc := 11) (i := 7) rfl rfl ?_
      refine K_iconst (pc := 12) (i := 8) rfl ?_
      refine K_imul (pc := 13) (i := 9) rfl ?_
      first | refine K_icmp_ge 118 (pc := 14) (i := 10) rfl rfl (by omega) (by omega) (fun b14 => ?_) (fun b14 => ?_) | refine K_icmp_ge_an 118 (pc := 14) (i := 10) rfl rfl (fun b14 => ?_) (fun b14 => ?_)
      · skip
        have pa118 : PPa h ha (3 * h 6 6) := by have q := hV10.2.2.1; rwa [show x3 = 3 * h 6 6 by omega] at q
        have z118 : ∀ c : Nat, (c : Int) < 3 * h 6 6 → ha 164 c = 0 := fun c q => hV10.2.2.2 c (by omega)
        refine K_iconst (pc := 118) (i := 69) rfl ?_
        refine K_ist_n (pc := 119) (i := 70) (lo' := [(0, _), (1, _), (2, _), (3, _)]) rfl rfl rfl rfl ?_
        have L120 : ∀ (n : Nat) (x3 : Int) (ha2 : kH), (24 - x3).toNat < n → (Gd g ha2) → (Fx (fun c i => 161 ≤ c ∧ c ≤ 164) h ha2) → ((0 ≤ x3 ∧ x3 ≤ 24) ∧ PPa h ha2 (3 * h 6 6) ∧ (∀ c : Nat, (c : Int) < x3 → CBd h (h 6 6) (ha2 164 c) c (3 * h 6 6)) ∧ ∀ c : Nat, x3 ≤ (c : Int) → (c : Int) < 3 * h 6 6 → ha2 164 c = 0) → K X_Plans_prepare G (kZm G 4 (kQv (fun h' => Fx (fun c i => 161 ≤ c ∧ c ≤ 164) h h' ∧ (Gd g h' ∧ PRP h h')))) 120 [(0, .ref (G.2.2.2 160)), (1, .ref (G.2.2.2 3)), (2, kI v4), (3, kI x3)] [] ha2 := by
          intro n
          induction n with
          | zero => intro x3 ha2 hm; exact absurd hm (Nat.not_lt_zero _)
          | succ n ih120 =>
            intro x3 ha2 hm120 hI fx hV120
            refine K_iload_n (pc := 120) (i := 71) rfl rfl ?_
            refine K_iload_n (pc := 121) (i := 72) rfl rfl ?_
            refine K_iconst (pc := 122) (i := 73) rfl ?_
            refine K_imul (pc := 123) (i := 74) rfl ?_
            first | refine K_icmp_ge 193 (pc := 124) (i := 75) rfl rfl (by omega) (by omega) (fun b124 => ?_) (fun b124 => ?_) | refine K_icmp_ge_an 193 (pc := 124) (i := 75) rfl rfl (fun b124 => ?_) (fun b124 => ?_)
            · skip
              exact K_retV (pc := 193) (i := 113) rfl rfl ⟨fx, ⟨hI, fun c q => hV120.2.2.1 c (by omega)⟩⟩
            · skip
              refine K_iconst (pc := 127) (i := 76) rfl ?_
              refine K_ist (pc := 128) (i := 77) (lo' := [(0, _), (1, _), (2, _), (3, _), (4, _)]) rfl rfl rfl rfl ?_
              have L130 : ∀ (n : Nat) (x4 : Int) (hd : kH), (24 - x4).toNat < n → (Gd g hd) → (Fx (fun c i => 161 ≤ c ∧ c ≤ 164) h hd) → ((0 ≤ x4 ∧ x4 ≤ 24) ∧ PPa h hd (3 * h 6 6) ∧ CBd h (h 6 6) (hd 164 x3.toNat) x3.toNat x4 ∧ ∀ c : Nat, c ≠ x3.toNat → hd 164 c = ha2 164 c) → K X_Plans_prepare G (kZm G 4 (kQv (fun h' => Fx (fun c i => 161 ≤ c ∧ c ≤ 164) h h' ∧ (Gd g h' ∧ PRP h h')))) 130 [(0, .ref (G.2.2.2 160)), (1, .ref (G.2.2.2 3)), (2, kI v4), (3, kI x3), (4, kI x4)] [] hd := by
                intro n
                induction n with
                | zero => intro x4 hd hm; exact absurd hm (Nat.not_lt_zero _)
                | succ n ih130 =>
                  intro x4 hd hm130 hI fx hV130
                  refine K_iload (pc := 130) (i := 78) rfl rfl ?_
                  refine K_iload_n (pc := 132) (i := 79) rfl rfl ?_
                  refine K_iconst (pc := 133) (i := 80) rfl ?_
                  refine K_imul (pc := 134) (i := 81) rfl ?_
                  first | refine K_icmp_ge 187 (pc := 135) (i := 82) rfl rfl (by omega) (by omega) (fun b135 => ?_) (fun b135 => ?_) | refine K_icmp_ge_an 187 (pc := 135) (i := 82) rfl rfl (fun b135 => ?_) (fun b135 => ?_)
                  · skip
                    refine K_inc (pc := 187) (i := 111) (q := 3) (lo' := [(0, _), (1, _), (2, _), (3, _), (4, _)]) rfl rfl rfl rfl rfl ?_
                    refine K_goto 120 (pc := 190) (i := 112) rfl rfl ?_
                    refine K_drop (lo' := [(0, .ref (G.2.2.2 160)), (1, .ref (G.2.2.2 3)), (2, kI v4), (3, kI (x3 + 1))]) [0, 1, 2, 3] rfl ?_
                    exact ih120 (x3 + 1) _ (by omega) hI fx ⟨by omega, hV130.2.1, fun c q => if e : c = x3.toNat then (by rw [e]; exact hV130.2.2.1.up (by omega)) else (by rw [hV130.2.2.2 c e]; exact hV120.2.2.1 c (by omega)), fun c p q => by rw [hV130.2.2.2 c (by omega)]; exact hV120.2.2.2 c (by omega) q⟩
                  · skip
                    refine K_aload_n (pc := 138) (i := 83) rfl rfl ?_
                    refine K_getR (pc := 139) (i := 84) (j := 2) (d := 163) rfl S_160 rfl (by decide) rfl fw_Plans_18 ?_
                    refine K_iload_n (pc := 142) (i := 85) rfl rfl ?_
                    refine K_iald (pc := 143) (i := 86) rfl S_163 (by omega) (by omega) (by decide) ?_
                    refine K_nm (fun v143 e143 => ?_)
                    have y143 : v143 = cE h 3 (x3.toNat / 3) ((x3.toNat % 3 : Nat) : Int) := by rw [e143]; exact (hV130.2.1 x3.toNat (by omega)).2.2
                    have r143 := ce0 (x3.toNat / 3) ((x3.toNat % 3 : Nat) : Int)
                    rw [← y143] at r143
                    refine K_aload_n (pc := 144) (i := 87) rfl rfl ?_
                    refine K_getR (pc := 145) (i := 88) (j := 2) (d := 163) rfl S_160 rfl (by decide) rfl fw_Plans_18 ?_
                    refine K_iload (pc := 148) (i := 89) rfl rfl ?_
                    refine K_iald (pc := 150) (i := 90) rfl S_163 (by omega) (by omega) (by decide) ?_
                    refine K_nm (fun v150 e150 => ?_)
                    have y150 : v150 = cE h 3 (x4.toNat / 3) ((x4.toNat % 3 : Nat) : Int) := by rw [e150]; exact (hV130.2.1 x4.toNat (by omega)).2.2
                    have r150 := ce0 (x4.toNat / 3) ((x4.toNat % 3 : Nat) : Int)
                    rw [← y150] at r150
                    first | refine K_icmp_le 181 (pc := 151) (i := 91) rfl rfl (by omega) (by omega) (fun b151 => ?_) (fun b151 => ?_) | refine K_icmp_le_an 181 (pc := 151) (i := 91) rfl rfl (fun b151 => ?_) (fun b151 => ?_)
                    · skip
                      refine K_inc (pc := 181) (i := 109) (q := 4) (lo' := [(0, _), (1, _), (2, _), (3, _), (4, _)]) rfl rfl rfl rfl rfl ?_
                      refine K_goto 130 (pc := 184) (i := 110) rfl rfl ?_
                      exact ih130 (x4 + 1) _ (by omega) hI fx (by first | exact ⟨by omega, hV130.2.1.of (kU_c _ _ _ _ (by decide)) (kU_c _ _ _ _ (by decide)) (kU_c _ _ _ _ (by decide)), y180, o180⟩ | exact ⟨by omega, hV130.2.1, hV130.2.2.1.no (fun q => absurd q.1 (by rw [show (x4 / 3).toNat = x4.toNat / 3 by omega, show x4 % 3 = ((x4.toNat % 3 : Nat) : Int) by omega, ← y143, ← y150]; omega)), hV130.2.2.2⟩ | exact ⟨by omega, hV130.2.1, hV130.2.2.1.no (fun q => r162.elim (fun e => absurd e.1 (by omega)) (fun e => e.2 (by have t := q.2; rw [show (x4 / 3).toNat = x4.toNat / 3 by omega, show x4 % 3 = ((x4.toNat % 3 : Nat) : Int) by omega] at t; exact t))), hV130.2.2.2⟩)
                    · skip
                      refine K_aload_n (pc := 154) (i := 92) rfl rfl ?_
                      refine K_aload_n (pc := 155) (i := 93) rfl rfl ?_
                      refine K_getR (pc := 156) (i := 94) (j := 0) (d := 6) rfl (S_Sk sk3) rfl (by decide) rfl fw_Plans_44 ?_
                      refine K_iload_n (pc := 159) (i := 95) rfl rfl ?_
                      refine K_iload (pc := 160) (i := 96) rfl rfl ?_
                      refine K_cVI (pc := 162) (i := 97) rfl (c_Plans_mayFight G (f := 6) (hf := fl6) (x2 := x3) (x3 := x4) (hI := hI) (s2 := by omega) (s3 := by omega)) S_160 rfl (lv_Plans_104 rfl) rfl rfl rfl rfl rfl (fun v162 h162 q162 => ?_)
                      obtain ⟨eh, r162⟩ := q162
                      rw [eh]; clear eh
                      have shd : ∀ c, c < 160 → hd c = h c := fun c p => fx.cell c (fun i => (by first | (dsimp only; omega) | omega | exact not_false))
                      have q162 : mfC hd 6 x3 x4 ↔ h 7 (x3.toNat / 3) ≠ h 7 (x4.toNat / 3) ∧ crC (h 8 (x3.toNat / 3)) (cP h 3 (x3.toNat / 3) ((x3.toNat % 3 : Nat) : Int)) (cH h 3 (x3.toNat / 3) ((x3.toNat % 3 : Nat) : Int)) (h 8 (x4.toNat / 3)) (cP h 3 (x4.toNat / 3) ((x4.toNat % 3 : Nat) : Int)) (cH h 3 (x4.toNat / 3) ((x4.toNat % 3 : Nat) : Int)) := by unfold mfC; rw [(hV130.2.1 x3.toNat (by omega)).1, (hV130.2.1 x3.toNat (by omega)).2.1, (hV130.2.1 x4.toNat (by omega)).1, (hV130.2.1 x4.toNat (by omega)).2.1, shd (6 + 1) (by omega), shd (6 + 2) (by omega), show (x3 / 3).toNat = x3.toNat / 3 by omega, show (x4 / 3).toNat = x4.toNat / 3 by omega]
                      rw [q162] at r162
                      have k162 : v162 = 0 ∨ v162 = 1 := r162.elim (fun q => Or.inr q.1) (fun q => Or.inl q.1)
                      first | refine K_if_eq 181 (pc := 165) (i := 98) rfl rfl (by omega) (fun b165 => ?_) (fun b165 => ?_) | refine K_if_eq_an 181 (pc := 165) (i := 98) rfl rfl (fun b165 => ?_) (fun b165 => ?_)
                      · skip
                        refine K_inc (pc := 181) (i := 109) (q := 4) (lo' := [(0, _), (1, _), (2, _), (3, _), (4, _)]) rfl rfl rfl rfl rfl ?_
                        refine K_goto 130 (pc := 184) (i := 110) rfl rfl ?_
                        exact ih130 (x4 + 1) _ (by omega) hI fx (by first | exact ⟨by omega, hV130.2.1.of (kU_c _ _ _ _ (by decide)) (kU_c _ _ _ _ (by decide)) (kU_c _ _ _ _ (by decide)), y180, o180⟩ | exact ⟨by omega, hV130.2.1, hV130.2.2.1.no (fun q => absurd q.1 (by rw [show (x4 / 3).toNat = x4.toNat / 3 by omega, show x4 % 3 = ((x4.toNat % 3 : Nat) : Int) by omega, ← y143, ← y150]; omega)), hV130.2.2.2⟩ | exact ⟨by omega, hV130.2.1, hV130.2.2.1.no (fun q => r162.elim (fun e => absurd e.1 (by omega)) (fun e => e.2 (by have t := q.2; rw [show (x4 / 3).toNat = x4.toNat / 3 by omega, show x4 % 3 = ((x4.toNat % 3 : Nat) : Int) by omega] at t; exact t))), hV130.2.2.2⟩)
                      · skip
                        refine K_aload_n (pc := 168) (i := 99) rfl rfl ?_
                        refine K_getR (pc := 169) (i := 100) (j := 3) (d := 164) rfl S_160 rfl (by decide) rfl fw_Plans_21 ?_
                        refine K_iload_n (pc := 172) (i := 101) rfl rfl ?_
                        refine K_dup2 (pc := 173) (i := 102) rfl rfl rfl ?_
                        refine K_iald (pc := 174) (i := 103) rfl S_164 (by omega) (by omega) (by decide) ?_
                        refine K_nm (fun v174 e174 => ?_)
                        refine K_iconst (pc := 175) (i := 104) rfl ?_
                        refine K_iload (pc := 176) (i := 105) rfl rfl ?_
                        refine K_ishl (pc := 178) (i := 106) rfl ?_
                        refine K_nm (fun v178 e178 => ?_)
                        have r178 := kShl_R 1 x4
                        rw [← e178] at r178
                        refine K_ior (pc := 179) (i := 107) rfl ?_
                        refine K_nm (fun v179 e179 => ?_)
                        have r179 := kOr_R v174 v178
                        rw [← e179] at r179
                        refine K_iast (pc := 180) (i := 108) rfl S_164 (by omega) (by omega) (by decide) ?_
                        have hI := st_free (c := 164) hI (by decide +kernel) (by decide) (i := (x3).toNat) (v := v179)
                        have fx := Fx.st (c := 164) (i := (x3).toNat) (v := v179) fx (by first | (dsimp only; omega) | omega | exact not_false)
                        have y180 : CBd h (h 6 6) ((kU hd 164 ((x3).toNat) v179) 164 x3.toNat) x3.toNat (x4 + 1) := by rw [kU_s, if_pos rfl, e179, e178, e174]; exact hV130.2.2.1.yes (by omega) (by omega) (by rw [show (x4 / 3).toNat = x4.toNat / 3 by omega, show x4 % 3 = ((x4.toNat % 3 : Nat) : Int) by omega]; exact ⟨by rw [← y143, ← y150]; omega, r162.elim (fun q => q.2) (fun q => absurd q.1 (by omega))⟩)
                        have o180 : ∀ c : Nat, c ≠ x3.toNat → (kU hd 164 ((x3).toNat) v179) 164 c = ha2 164 c := fun c q => by rw [kU_s, if_neg q]; exact hV130.2.2.2 c q
                        refine K_inc (pc := 181) (i := 109) (q := 4) (lo' := [(0, _), (1, _), (2, _), (3, _), (4, _)]) rfl rfl rfl rfl rfl ?_
                        refine K_goto 130 (pc := 184) (i := 110) rfl rfl ?_
                        exact ih130 (x4 + 1) _ (by omega) hI fx (by first | exact ⟨by omega, hV130.2.1.of (kU_c _ _ _ _ (by decide)) (kU_c _ _ _ _ (by decide)) (kU_c _ _ _ _ (by decide)), y180, o180⟩ | exact ⟨by omega, hV130.2.1, hV130.2.2.1.no (fun q => absurd q.1 (by rw [show (x4 / 3).toNat = x4.toNat / 3 by omega, show x4 % 3 = ((x4.toNat % 3 : Nat) : Int) by omega, ← y143, ← y150]; omega)), hV130.2.2.2⟩ | exact ⟨by omega, hV130.2.1, hV130.2.2.1.no (fun q => r162.elim (fun e => absurd e.1 (by omega)) (fun e => e.2 (by have t := q.2; rw [show (x4 / 3).toNat = x4.toNat / 3 by omega, show x4 % 3 = ((x4.toNat % 3 : Nat) : Int) by omega] at t; exact t))), hV130.2.2.2⟩)
              exact L130 _ 0 _ (Nat.lt_succ_self _) hI fx ⟨by omega, hV120.2.1, by rw [hV120.2.2.2 x3.toNat (by omega) (by omega)]; exact CBd.z, fun _ _ => rfl⟩
        exact L120 _ 0 _ (Nat.lt_succ_self _) hI fx ⟨by omega, pa118, fun c q => absurd q (by omega), fun c _ q => z118 c q⟩
      · skip
        refine K_iload_n (pc := 17) (i := 11) rfl rfl ?_
        refine K_iconst (pc := 18) (i := 12) rfl ?_
        refine K_idiv (pc := 19) (i := 13) rfl (by omega) (by omega) ?_
        refine K_eq (kDiv_eq (by omega) (by omega) (by omega) (by omega)) ?_
        refine K_ist (pc := 20) (i := 14) (lo' := [(0, _), (1, _), (2, _), (3, _), (4, _)]) rfl rfl rfl rfl ?_
        refine K_iload_n (pc := 22) (i := 15) rfl rfl ?_
        refine K_iconst (pc := 23) (i := 16) rfl ?_
        refine K_irem (pc := 24) (i := 17) rfl (by omega) (by omega) ?_
        refine K_eq (kRem_eq (by omega) (by omega) (by omega) (by omega)) ?_
        refine K_iconst (pc := 25) (i := 18) rfl ?_
        refine K_isub (pc := 26) (i := 19) rfl ?_
        refine K_ist (pc := 27) (i := 20) (lo' := [(0, _), (1, _), (2, _), (3, _), (4, _), (5, _)]) rfl rfl rfl rfl ?_
        refine K_iconst (pc := 29) (i := 21) rfl ?_
        refine K_bipush (pc := 30) (i := 22) rfl rfl ?_
        refine K_aload_n (pc := 32) (i := 23) rfl rfl ?_
        refine K_getR (pc := 33) (i := 24) (j := 0) (d := 6) rfl (S_Sk sk3) rfl (by decide) rfl fw_Plans_44 ?_
        refine K_getR (pc := 36) (i := 25) (j := 3) (d := 10) rfl (S_Fl fl6) rfl (by decide) rfl fw_Plans_80 ?_
        refine K_iload (pc := 39) (i := 26) rfl rfl ?_
        refine K_iald (pc := 41) (i := 27) rfl (S_Fl4 fl6) (by omega) (by omega) (by decide) ?_
        refine K_nm (fun v41 e41 => ?_)
        have r41 := rd_height hI fl6 (x3 / 3).toNat
        rw [← e41] at r41
        have sha : ∀ c, c < 160 → ha c = h c := fun c p => fx.cell c (fun i => (by first | (dsimp only; omega) | omega | exact not_false))
        have y41 : v41 = h 10 (x3 / 3).toNat := by rw [e41, sha 10 (by omega)]
        refine K_iload (pc := 42) (i := 28) rfl rfl ?_
        refine K_iadd (pc := 44) (i := 29) rfl ?_
        refine K_mmin (pc := 45) (i := 30) rfl mw_Plans_83 (by omega) (by omega) (Nat.le_of_ble_eq_true rfl) ⟨Nat.le_of_ble_eq_true rfl, Nat.le_of_ble_eq_true rfl⟩ ⟨Nat.le_of_ble_eq_true rfl, Nat.le_of_ble_eq_true rfl⟩ ?_
        refine K_nm (fun v45 e45 => ?_)
        refine K_mmax (pc := 48) (i := 31) rfl mw_Plans_89 (by omega) (by omega) (Nat.le_of_ble_eq_true rfl) ⟨Nat.le_of_ble_eq_true rfl, Nat.le_of_ble_eq_true rfl⟩ ⟨Nat.le_of_ble_eq_true rfl, Nat.le_of_ble_eq_true rfl⟩ ?_
        refine K_nm (fun v48 e48 => ?_)
        have y48 : v48 = cH h 3 (x3.toNat / 3) ((x3.toNat % 3 : Nat) : Int) := by unfold cH hcF; rw [e48, e45, y41, show x3.toNat / 3 = (x3 / 3).toNat by omega]; show _ = max 1 (min 9 (h 10 (x3 / 3).toNat + _ - 1)); omega
        refine K_ist (pc := 51) (i := 32) (lo' := [(0, _), (1, _), (2, _), (3, _), (4, _), (5, _), (6, _)]) rfl rfl rfl rfl ?_
        refine K_aload_n (pc := 53) (i := 33) rfl rfl ?_
        refine K_getR (pc := 54) (i := 34) (j := 0) (d := 161) rfl S_160 rfl (by decide) rfl fw_Plans_11 ?_
        refine K_iload_n (pc := 57) (i := 35) rfl rfl ?_
        refine K_iload (pc := 58) (i := 36) rfl rfl ?_
        refine K_iast (pc := 60) (i := 37) rfl S_161 (by omega) (by omega) (by decide) ?_
        have hI := st_plh hI (i := (x3).toNat) (v := v48) (by omega)
        have fx := Fx.st (c := 161) (i := (x3).toNat) (v := v48) fx (by first | (dsimp only; omega) | omega | exact not_false)
        refine K_aload_n (pc := 61) (i := 38) rfl rfl ?_
        refine K_getR (pc := 62) (i := 39) (j := 1) (d := 162) rfl S_160 rfl (by decide) rfl fw_Plans_15 ?_
        refine K_iload_n (pc := 65) (i := 40) rfl rfl ?_
        refine K_aload_n (pc := 66) (i := 41) rfl rfl ?_
        refine K_aload_n (pc := 67) (i := 42) rfl rfl ?_
        refine K_getR (pc := 68) (i := 43) (j := 0) (d := 6) rfl (S_Sk sk3) rfl (by decide) rfl fw_Plans_44 ?_
        refine K_getR (pc := 71) (i := 44) (j := 2) (d := 9) rfl (S_Fl fl6) rfl (by decide) rfl fw_Plans_92 ?_
        refine K_iload (pc := 74) (i := 45) rfl rfl ?_
        refine K_iald (pc := 76) (i := 46) rfl (S_Fl3 fl6) (by omega) (by omega) (by decide) ?_
        refine K_nm (fun v76 e76 => ?_)
        have r76 := rd_x hI fl6 (x3 / 3).toNat
        rw [← e76] at r76
        have y76 : v76 = h 9 (x3 / 3).toNat := by rw [e76, kU_c _ _ _ _ (by decide), sha 9 (by omega)]
        refine K_iload (pc := 77) (i := 47) rfl rfl ?_
        refine K_cVI (pc := 79) (i := 48) rfl (c_Sky_blownX G (s := 3) (hs := sk3) (x1 := v76) (x2 := v48) (hI := hI) (s1 := by omega) (s2 := by omega)) (S_Sk sk3) rfl (lv_Plans_95 rfl) rfl rfl rfl rfl rfl (fun v79 h79 q79 => ?_)
        obtain ⟨eh, r79⟩ := q79
        rw [eh]; clear eh
        have y79 : v79 = cP h 3 (x3.toNat / 3) ((x3.toNat % 3 : Nat) : Int) := by unfold cP; rw [← y48, r79.2, y76, show x3.toNat / 3 = (x3 / 3).toNat by omega, kU_c _ _ _ _ (by decide), sha (3 + 1) (by omega)]
        refine K_iast (pc := 82) (i := 49) rfl S_162 (by omega) (by omega) (by decide) ?_
        have hI := st_plp hI (i := (x3).toNat) (v := v79) (by omega)
        have fx := Fx.st (c := 162) (i := (x3).toNat) (v := v79) fx (by first | (dsimp only; omega) | omega | exact not_false)
        refine K_aload_n (pc := 83) (i := 50) rfl rfl ?_
        refine K_getR (pc := 84) (i := 51) (j := 2) (d := 163) rfl S_160 rfl (by decide) rfl fw_Plans_18 ?_
        refine K_iload_n (pc := 87) (i := 52) rfl rfl ?_
        refine K_aload_n (pc := 88) (i := 53) rfl rfl ?_
        refine K_aload_n (pc := 89) (i := 54) rfl rfl ?_
        refine K_getR (pc := 90) (i := 55) (j := 0) (d := 6) rfl (S_Sk sk3) rfl (by decide) rfl fw_Plans_44 ?_
        refine K_getR (pc := 93) (i := 56) (j := 4) (d := 11) rfl (S_Fl fl6) rfl (by decide) rfl fw_Plans_98 ?_
        refine K_iload (pc := 96) (i := 57) rfl rfl ?_
        refine K_iald (pc := 98) (i := 58) rfl (S_Fl5 fl6) (by omega) (by omega) (by decide) ?_
        refine K_nm (fun v98 e98 => ?_)
        have r98 := rd_glass hI fl6 (x3 / 3).toNat
        rw [← e98] at r98
        have y98 : v98 = h 11 (x3 / 3).toNat := by rw [e98, kU_c _ _ _ _ (by decide), kU_c _ _ _ _ (by decide), sha 11 (by omega)]
        refine K_iload (pc := 99) (i := 59) rfl rfl ?_
        refine K_cVI (pc := 101) (i := 60) rfl (c_Sky_edgeAt G (s := 3) (hs := sk3) (x1 := v98) (x2 := v48) (hI := hI) (s1 := by omega) (s2 := by omega)) (S_Sk sk3) rfl (lv_Plans_101 rfl) rfl rfl rfl rfl rfl (fun v101 h101 q101 => ?_)
        obtain ⟨eh, r101⟩ := q101
        rw [eh]; clear eh
        have y101 : v101 = cE h 3 (x3.toNat / 3) ((x3.toNat % 3 : Nat) : Int) := by unfold cE; rw [← y48, r101.2, y98, show x3.toNat / 3 = (x3 / 3).toNat by omega, kU_c _ _ _ _ (by decide), kU_c _ _ _ _ (by decide), sha (3 + 1) (by omega)]
        refine K_iast (pc := 104) (i := 61) rfl S_163 (by omega) (by omega) (by decide) ?_
        have hI := st_free (c := 163) hI (by decide +kernel) (by decide) (i := (x3).toNat) (v := v101)
        have fx := Fx.st (c := 163) (i := (x3).toNat) (v := v101) fx (by first | (dsimp only; omega) | omega | exact not_false)
        refine K_aload_n (pc := 105) (i := 62) rfl rfl ?_
        refine K_getR (pc := 106) (i := 63) (j := 3) (d := 164) rfl S_160 rfl (by decide) rfl fw_Plans_21 ?_
        refine K_iload_n (pc := 109) (i := 64) rfl rfl ?_
        refine K_iconst (pc := 110) (i := 65) rfl ?_
        refine K_iast (pc := 111) (i := 66) rfl S_164 (by omega) (by omega) (by decide) ?_
        have hI := st_free (c := 164) hI (by decide +kernel) (by decide) (i := (x3).toNat) (v := 0)
        have fx := Fx.st (c := 164) (i := (x3).toNat) (v := 0) fx (by first | (dsimp only; omega) | omega | exact not_false)
        have pa111 : PPa h (kU (kU (kU (kU ha 161 ((x3).toNat) v48) 162 ((x3).toNat) v79) 163 ((x3).toNat) v101) 164 ((x3).toNat) 0) (x3 + 1) := PPa.st hV10.2.2.1 (by omega) (fun j => by rw [kU_c _ _ _ _ (by decide), kU_c _ _ _ _ (by decide), kU_c _ _ _ _ (by decide), kU_s, y48]) (fun j => by rw [kU_c _ _ _ _ (by decide), kU_c _ _ _ _ (by decide), kU_s, y79, kU_c _ _ _ _ (by decide)]) (fun j => by rw [kU_c _ _ _ _ (by decide), kU_s, y101, kU_c _ _ _ _ (by decide), kU_c _ _ _ _ (by decide)])
        have z111 : ∀ c : Nat, (c : Int) < x3 + 1 → (kU (kU (kU (kU ha 161 ((x3).toNat) v48) 162 ((x3).toNat) v79) 163 ((x3).toNat) v101) 164 ((x3).toNat) 0) 164 c = 0 := fun c q => by rw [kU_s]; by_cases e : c = x3.toNat; (rw [if_pos e]); (rw [if_neg e, kU_c _ _ _ _ (by decide), kU_c _ _ _ _ (by decide), kU_c _ _ _ _ (by decide)]; exact hV10.2.2.2 c (by omega))
        refine K_inc (pc := 112) (i := 67) (q := 3) (lo' := [(0, _), (1, _), (2, _), (3, _), (4, _), (5, _), (6, _)]) rfl rfl rfl rfl rfl ?_
        refine K_goto 10 (pc := 115) (i := 68) rfl rfl ?_
        refine K_drop (lo' := [(0, .ref (G.2.2.2 160)), (1, .ref (G.2.2.2 3)), (2, kI v4), (3, kI (x3 + 1))]) [0, 1, 2, 3] rfl ?_
        exact ih10 (x3 + 1) _ (by omega) hI fx ⟨by omega, by omega, pa111, z111⟩
  exact L10 _ 0 _ (Nat.lt_succ_self _) hI fx ⟨by omega, by omega, fun c q => absurd q (by omega), fun c q => absurd q (by omega)⟩
end
section
/-- what the other town may do: choices and whom they cut -/
def ANS (h ha : kH) (f : Nat) (t mv x : Int) : Prop := ∀ q : Nat, (q : Int) < x → chI (h (f + 1)) t (cgM mv (cnt (h (f + 1)) t (h f 6).toNat).toNat q) (ha 167 q) (h f 6) ∧ cbB (h 164) (ha 167 q) (ha 168 q) 24
theorem ANS.st {h ha he : kH} {f : Nat} {t mv x a c : Int} (r : ANS h ha f t mv x) (h0 : 0 ≤ x) (e7 : ∀ j, he 167 j = if j = x.toNat then a else ha 167 j) (e8 : ∀ j, he 168 j = if j = x.toNat then c else ha 168 j) (ca : chI (h (f + 1)) t (cgM mv (cnt (h (f + 1)) t (h f 6).toNat).toNat x.toNat) a (h f 6)) (cb : cbB (h 164) a c 24) : ANS h he f t mv (x + 1) := fun q hq => by
  rw [e7, e8]
  by_cases e : q = x.toNat
  · rw [if_pos e, if_pos e, e]; exact ⟨ca, cb⟩
  · rw [if_neg e, if_neg e]; exact r q (by omega)
set_option maxHeartbeats 4000000 in
set_option maxRecDepth 100000 in
theorem c_Plans_prepareAnswers (G : kG) {g : kGh} {h : kH} {f : Nat} (hf : f ∈ FL) (hr : f + 7 ≤ 160) {x2 : Int} {x3 : Int} (s2 : 0 ≤ x2 ∧ x2 ≤ 1) (s3 : x3 = 0 ∨ x3 = 1) (hN : x3 ≠ 0 → cnt (h (f + 1)) x2 (h f 6).toNat ≤ 5) (hI : Gd g h) : Ctr G y_Plans_prepareAnswers X_Plans_prepareAnswers 3 [.ref (G.2.2.2 160), .ref (G.2.2.2 f), kI x2, kI x3] h (kQv (fun h' => Fx (fun c i => (c = 160 ∧ i = 8) ∨ c = 165 ∨ c = 167 ∨ c = 168) h h' ∧ (Gd g h' ∧ h' 160 8 = (if x3 ≠ 0 then ((3 ^ (cnt (h (f + 1)) x2 (h f 6).toNat).toNat : Nat) : Int) else 1) ∧ ANS h h' f x2 x3 (h' 160 8)))) := by
  refine Ctr.ofK (by decide) rfl T_Plans_prepareAnswers (Nat.le_of_ble_eq_true rfl) (lo := [(0, .ref (G.2.2.2 160)), (1, .ref (G.2.2.2 f)), (2, kI x2), (3, kI x3)]) rfl ?_
  have fx : Fx (fun c i => (c = 160 ∧ i = 8) ∨ c = 165 ∨ c = 167 ∨ c = 168) h h := Fx.rf
  have n00 := rd_kites hI hf
  have c00 := cnt_le (h (f + 1)) x2 (h f 6).toNat
  refine K_aload_n (pc := 0) (i := 0) rfl rfl ?_
  refine K_iload_n (pc := 1) (i := 1) rfl rfl ?_
  refine K_cVI (pc := 2) (i := 2) rfl (c_Fleet_ofTown G (f := f) (hf := hf) (x1 := x2) (hI := hI) (s1 := by omega)) (S_Fl hf) rfl (lv_Plans_54 rfl) rfl rfl rfl rfl rfl (fun v2 h2 q2 => ?_)
  obtain ⟨eh, r2⟩ := q2
  rw [eh]; clear eh
  have y2 : v2 = cnt (h (f + 1)) x2 (h f 6).toNat := r2.2
  refine K_ist (pc := 5) (i := 3) (lo' := [(0, _), (1, _), (2, _), (3, _), (4, _)]) rfl rfl rfl rfl ?_
  refine K_aload_n (pc := 7) (i := 4) rfl rfl ?_
  refine K_iload_n (pc := 8) (i := 5) rfl rfl ?_
  first | refine K_if_eq 20 (pc := 9) (i := 6) rfl rfl (by omega) (fun b9 => ?_) (fun b9 => ?_) | refine K_if_eq_an 20 (pc := 9) (i := 6) rfl rfl (fun b9 => ?_) (fun b9 => ?_)
  · skip
    refine K_iconst (pc := 20) (i := 10) rfl ?_
    refine K_putI (pc := 21) (i := 11) (j := 8) rfl S_160 rfl (by decide) rfl rfl rfl fw_Plans_36 ?_
    have hI := st_anscount hI (v := 1) (by omega)
    have fx := Fx.st (c := 160) (i := 8) (v := 1) fx (by first | (dsimp only; omega) | omega | exact not_false)
    have a21 : (kU h 160 8 1) 160 8 = (if x3 ≠ 0 then ((3 ^ (cnt (h (f + 1)) x2 (h f 6).toNat).toNat : Nat) : Int) else 1) := by rw [kU_at, if_pos ⟨rfl, rfl⟩]; first | (rw [if_pos (by omega), r14.2, show (min v2 5).toNat = (cnt (h (f + 1)) x2 (h f 6).toNat).toNat by (have := hN (by omega)); omega]; done) | (rw [if_neg (by omega)]; done)
    refine K_iconst (pc := 24) (i := 12) rfl ?_
    refine K_ist (pc := 25) (i := 13) (lo' := [(0, _), (1, _), (2, _), (3, _), (4, _), (5, _)]) rfl rfl rfl rfl ?_
    have L27 : ∀ (n : Nat) (x5 : Int) (ha : kH), (243 - x5).toNat < n → (Gd g ha) → (Fx (fun c i => (c = 160 ∧ i = 8) ∨ c = 165 ∨ c = 167 ∨ c = 168) h ha) → ((0 ≤ x5 ∧ x5 ≤ 243) ∧ ha 160 8 = (if x3 ≠ 0 then ((3 ^ (cnt (h (f + 1)) x2 (h f 6).toNat).toNat : Nat) : Int) else 1) ∧ ANS h ha f x2 x3 x5) → K X_Plans_prepareAnswers G (kZm G 3 (kQv (fun h' => Fx (fun c i => (c = 160 ∧ i = 8) ∨ c = 165 ∨ c = 167 ∨ c = 168) h h' ∧ (Gd g h' ∧ h' 160 8 = (if x3 ≠ 0 then ((3 ^ (cnt (h (f + 1)) x2 (h f 6).toNat).toNat : Nat) : Int) else 1) ∧ ANS h h' f x2 x3 (h' 160 8))))) 27 [(0, .ref (G.2.2.2 160)), (1, .ref (G.2.2.2 f)), (2, kI x2), (3, kI x3), (4, kI v2), (5, kI x5)] [] ha := by
      intro n
      induction n with
      | zero => intro x5 ha hm; exact absurd hm (Nat.not_lt_zero _)
      | succ n ih27 =>
        intro x5 ha hm27 hI fx hV27
        refine K_iload (pc := 27) (i := 14) rfl rfl ?_
        refine K_aload_n (pc := 29) (i := 15) rfl rfl ?_
        refine K_getI (pc := 30) (i := 16) (j := 8) rfl S_160 rfl (by decide) rfl fw_Plans_36 ?_
        refine K_nm (fun v30 e30 => ?_)
        have r30 := rd_anscount hI
        rw [← e30] at r30
        have y30 : v30 = ha 160 8 := e30
        first | refine K_icmp_ge 92 (pc := 33) (i := 17) rfl rfl (by omega) (by omega) (fun b33 => ?_) (fun b33 => ?_) | refine K_icmp_ge_an 92 (pc := 33) (i := 17) rfl rfl (fun b33 => ?_) (fun b33 => ?_)
        · skip
          exact K_retV (pc := 92) (i := 47) rfl rfl ⟨fx, ⟨hI, hV27.2.1, fun q hq => hV27.2.2 q (by omega)⟩⟩
        · skip
          refine K_iload_n (pc := 36) (i := 18) rfl rfl ?_
          first | refine K_if_eq 51 (pc := 37) (i := 19) rfl rfl (by omega) (fun b37 => ?_) (fun b37 => ?_) | refine K_if_eq_an 51 (pc := 37) (i := 19) rfl rfl (fun b37 => ?_) (fun b37 => ?_)
          · skip
            refine K_aload_n (pc := 51) (i := 25) rfl rfl ?_
            refine K_cVV (pc := 52) (i := 26) rfl (c_Plans_takeStay G (hI := hI)) S_160 rfl (lv_Plans_118 rfl) rfl rfl rfl rfl rfl (fun h52 q52 => ?_)
            obtain ⟨fx52, q52⟩ := q52
            obtain ⟨hI, ty52⟩ := q52
            have fx := fx.tr fx52 (fun c i q => (by first | (dsimp only at q ⊢; omega) | omega))
            have sf52 : ∀ c, c < 160 → h52 c = h c := fun c p => fx.cell c (fun i => (by first | (dsimp only; omega) | omega | exact not_false))
            have q52 : ∀ k : Nat, (k : Int) < h f 6 → h (f + 1) k = x2 → h52 165 (cnt (h (f + 1)) x2 k).toNat = cgM x3 (cnt (h (f + 1)) x2 (h f 6).toNat).toNat x5.toNat (cnt (h (f + 1)) x2 k).toNat := fun k p q => by have l := cnt_lt q (show k < (h f 6).toNat by omega); have l0 := cnt_le (h (f + 1)) x2 k; unfold cgM; rw [if_neg (by omega)]; exact ty52 _ (by omega)
            refine K_aload_n (pc := 55) (i := 27) rfl rfl ?_
            refine K_getR (pc := 56) (i := 28) (j := 6) (d := 167) rfl S_160 rfl (by decide) rfl fw_Plans_30 ?_
            refine K_iload (pc := 59) (i := 29) rfl rfl ?_
            refine K_aload_n (pc := 61) (i := 30) rfl rfl ?_
            refine K_aload_n (pc := 62) (i := 31) rfl rfl ?_
            refine K_iload_n (pc := 63) (i := 32) rfl rfl ?_
            refine K_cVI (pc := 64) (i := 33) rfl (c_Plans_choices G (f := f) (hf := hf) (x2 := x2) (hI := hI) (s2 := by omega)) S_160 rfl (lv_Plans_121 rfl) rfl rfl rfl rfl rfl (fun v64 h64 q64 => ?_)
            obtain ⟨eh, r64⟩ := q64
            rw [eh]; clear eh
            have ch64 : chI (h (f + 1)) x2 (cgM x3 (cnt (h (f + 1)) x2 (h f 6).toNat).toNat x5.toNat) v64 (h f 6) := by first | (have q := r64; rw [sf45 (f + 1) (by omega), sf45 f (by omega)] at q; exact q.cg q45) | (have q := r64; rw [sf52 (f + 1) (by omega), sf52 f (by omega)] at q; exact q.cg q52)
            refine K_iast (pc := 67) (i := 34) rfl S_167 (by omega) (by omega) (by decide) ?_
            have hI := st_free (c := 167) hI (by decide +kernel) (by decide) (i := (x5).toNat) (v := v64)
            have fx := Fx.st (c := 167) (i := (x5).toNat) (v := v64) fx (by first | (dsimp only; omega) | omega | exact not_false)
            refine K_aload_n (pc := 68) (i := 35) rfl rfl ?_
            refine K_getR (pc := 69) (i := 36) (j := 7) (d := 168) rfl S_160 rfl (by decide) rfl fw_Plans_33 ?_
            refine K_iload (pc := 72) (i := 37) rfl rfl ?_
            refine K_aload_n (pc := 74) (i := 38) rfl rfl ?_
            refine K_aload_n (pc := 75) (i := 39) rfl rfl ?_
            refine K_getR (pc := 76) (i := 40) (j := 6) (d := 167) rfl S_160 rfl (by decide) rfl fw_Plans_30 ?_
            refine K_iload (pc := 79) (i := 41) rfl rfl ?_
            refine K_iald (pc := 81) (i := 42) rfl S_167 (by omega) (by omega) (by decide) ?_
            refine K_nm (fun v81 e81 => ?_)
            have y81 : v81 = v64 := by rw [e81, kU_s, if_pos rfl]
            refine K_cVI (pc := 82) (i := 43) rfl (c_Plans_cutBy G (x1 := v81) (hI := hI)) S_160 rfl (lv_Plans_124 rfl) rfl rfl rfl rfl rfl (fun v82 h82 q82 => ?_)
            obtain ⟨eh, r82⟩ := q82
            rw [eh]; clear eh
            have cb82 : cbB (h 164) v64 v82 24 := by have q := r82; rw [y81] at q; rw [show (kU h52 167 ((x5).toNat) v64) 164 = h 164 from fx.cell 164 (fun i => (by first | (dsimp only; omega) | omega | exact not_false))] at q; exact q
            refine K_iast (pc := 85) (i := 44) rfl S_168 (by omega) (by omega) (by decide) ?_
            have hI := st_free (c := 168) hI (by decide +kernel) (by decide) (i := (x5).toNat) (v := v82)
            have fx := Fx.st (c := 168) (i := (x5).toNat) (v := v82) fx (by first | (dsimp only; omega) | omega | exact not_false)
            have an85 : ANS h (kU (kU h52 167 ((x5).toNat) v64) 168 ((x5).toNat) v82) f x2 x3 (x5 + 1) := hV27.2.2.st (a := v64) (c := v82) (by omega) (fun j => by rw [kU_c _ _ _ _ (by decide), kU_s]; first | rw [fx45.cell 167 (fun i => (by first | (dsimp only; omega) | omega))] | rw [fx52.cell 167 (fun i => (by first | (dsimp only; omega) | omega))]) (fun j => by rw [kU_s, kU_c _ _ _ _ (by decide)]; first | rw [fx45.cell 168 (fun i => (by first | (dsimp only; omega) | omega))] | rw [fx52.cell 168 (fun i => (by first | (dsimp only; omega) | omega))]) ch64 cb82
            have ac85 : (kU (kU h52 167 ((x5).toNat) v64) 168 ((x5).toNat) v82) 160 8 = (if x3 ≠ 0 then ((3 ^ (cnt (h (f + 1)) x2 (h f 6).toNat).toNat : Nat) : Int) else 1) := by rw [kU_c _ _ _ _ (by decide), kU_c _ _ _ _ (by decide)]; first | (rw [fx45.cell 160 (fun i => (by first | (dsimp only; omega) | omega))]; exact hV27.2.1) | (rw [fx52.cell 160 (fun i => (by first | (dsimp only; omega) | omega))]; exact hV27.2.1)
            refine K_inc (pc := 86) (i := 45) (q := 5) (lo' := [(0, _), (1, _), (2, _), (3, _), (4, _), (5, _)]) rfl rfl rfl rfl rfl ?_
            refine K_goto 27 (pc := 89) (i := 46) rfl rfl ?_
            exact ih27 (x5 + 1) _ (by omega) hI fx ⟨by omega, ac85, an85⟩
          · skip
            refine K_aload_n (pc := 40) (i := 20) rfl rfl ?_
            refine K_iload (pc := 41) (i := 21) rfl rfl ?_
            refine K_iload (pc := 43) (i := 22) rfl rfl ?_
            refine K_cVV (pc := 45) (i := 23) rfl (c_Plans_takePlan G (x1 := x5) (x2 := v2) (hI := hI) (s1 := by omega) (s2 := by omega)) S_160 rfl (lv_Plans_63 rfl) rfl rfl rfl rfl rfl (fun h45 q45 => ?_)
            obtain ⟨fx45, q45⟩ := q45
            obtain ⟨hI, tp45⟩ := q45
            have fx := fx.tr fx45 (fun c i q => (by first | (dsimp only at q ⊢; omega) | omega))
            have sf45 : ∀ c, c < 160 → h45 c = h c := fun c p => fx.cell c (fun i => (by first | (dsimp only; omega) | omega | exact not_false))
            have q45 : ∀ k : Nat, (k : Int) < h f 6 → h (f + 1) k = x2 → h45 165 (cnt (h (f + 1)) x2 k).toNat = cgM x3 (cnt (h (f + 1)) x2 (h f 6).toNat).toNat x5.toNat (cnt (h (f + 1)) x2 k).toNat := fun k p q => by have l := cnt_lt q (show k < (h f 6).toNat by omega); have l0 := cnt_le (h (f + 1)) x2 k; unfold cgM; rw [if_pos (by omega), tp45 _ (by have := hN (by omega); omega), show (min v2 5).toNat = (cnt (h (f + 1)) x2 (h f 6).toNat).toNat by (have := hN (by omega)); omega]
            refine K_goto 55 (pc := 48) (i := 24) rfl rfl ?_
            refine K_aload_n (pc := 55) (i := 27) rfl rfl ?_
            refine K_getR (pc := 56) (i := 28) (j := 6) (d := 167) rfl S_160 rfl (by decide) rfl fw_Plans_30 ?_
            refine K_iload (pc := 59) (i := 29) rfl rfl ?_
            refine K_aload_n (pc := 61) (i := 30) rfl rfl ?_
            refine K_aload_n (pc := 62) (i := 31) rfl rfl ?_
            refine K_iload_n (pc := 63) (i := 32) rfl rfl ?_
            refine K_cVI (pc := 64) (i := 33) rfl (c_Plans_choices G (f := f) (hf := hf) (x2 := x2) (hI := hI) (s2 := by omega)) S_160 rfl (lv_Plans_121 rfl) rfl rfl rfl rfl rfl (fun v64 h64 q64 => ?_)
            obtain ⟨eh, r64⟩ := q64
            rw [eh]; clear eh
            have ch64 : chI (h (f + 1)) x2 (cgM x3 (cnt (h (f + 1)) x2 (h f 6).toNat).toNat x5.toNat) v64 (h f 6) := by first | (have q := r64; rw [sf45 (f + 1) (by omega), sf45 f (by omega)] at q; exact q.cg q45) | (have q := r64; rw [sf52 (f + 1) (by omega), sf52 f (by omega)] at q; exact q.cg q52)
            refine K_iast (pc := 67) (i := 34) rfl S_167 (by omega) (by omega) (by decide) ?_
            have hI := st_free (c := 167) hI (by decide +kernel) (by decide) (i := (x5).toNat) (v := v64)
            have fx := Fx.st (c := 167) (i := (x5).toNat) (v := v64) fx (by first | (dsimp only; omega) | omega | exact not_false)
            refine K_aload_n (pc := 68) (i := 35) rfl rfl ?_
            refine K_getR (pc := 69) (i := 36) (j := 7) (d := 168) rfl S_160 rfl (by decide) rfl fw_Plans_33 ?_
            refine K_iload (pc := 72) (i := 37) rfl rfl ?_
            refine K_aload_n (pc := 74) (i := 38) rfl rfl ?_
            refine K_aload_n (pc := 75) (i := 39) rfl rfl ?_
            refine K_getR (pc := 76) (i := 40) (j := 6) (d := 167) rfl S_160 rfl (by decide) rfl fw_Plans_30 ?_
            refine K_iload (pc := 79) (i := 41) rfl rfl ?_
            refine K_iald (pc := 81) (i := 42) rfl S_167 (by omega) (by omega) (by decide) ?_
            refine K_nm (fun v81 e81 => ?_)
            have y81 : v81 = v64 := by rw [e81, kU_s, if_pos rfl]
            refine K_cVI (pc := 82) (i := 43) rfl (c_Plans_cutBy G (x1 := v81) (hI := hI)) S_160 rfl (lv_Plans_124 rfl) rfl rfl rfl rfl rfl (fun v82 h82 q82 => ?_)
            obtain ⟨eh, r82⟩ := q82
            rw [eh]; clear eh
            have cb82 : cbB (h 164) v64 v82 24 := by have q := r82; rw [y81] at q; rw [show (kU h45 167 ((x5).toNat) v64) 164 = h 164 from fx.cell 164 (fun i => (by first | (dsimp only; omega) | omega | exact not_false))] at q; exact q
            refine K_iast (pc := 85) (i := 44) rfl S_168 (by omega) (by omega) (by decide) ?_
            have hI := st_free (c := 168) hI (by decide +kernel) (by decide) (i := (x5).toNat) (v := v82)
            have fx := Fx.st (c := 168) (i := (x5).toNat) (v := v82) fx (by first | (dsimp only; omega) | omega | exact not_false)
            have an85 : ANS h (kU (kU h45 167 ((x5).toNat) v64) 168 ((x5).toNat) v82) f x2 x3 (x5 + 1) := hV27.2.2.st (a := v64) (c := v82) (by omega) (fun j => by rw [kU_c _ _ _ _ (by decide), kU_s]; first | rw [fx45.cell 167 (fun i => (by first | (dsimp only; omega) | omega))] | rw [fx52.cell 167 (fun i => (by first | (dsimp only; omega) | omega))]) (fun j => by rw [kU_s, kU_c _ _ _ _ (by decide)]; first | rw [fx45.cell 168 (fun i => (by first | (dsimp only; omega) | omega))] | rw [fx52.cell 168 (fun i => (by first | (dsimp only; omega) | omega))]) ch64 cb82
            have ac85 : (kU (kU h45 167 ((x5).toNat) v64) 168 ((x5).toNat) v82) 160 8 = (if x3 ≠ 0 then ((3 ^ (cnt (h (f + 1)) x2 (h f 6).toNat).toNat : Nat) : Int) else 1) := by rw [kU_c _ _ _ _ (by decide), kU_c _ _ _ _ (by decide)]; first | (rw [fx45.cell 160 (fun i => (by first | (dsimp only; omega) | omega))]; exact hV27.2.1) | (rw [fx52.cell 160 (fun i => (by first | (dsimp only; omega) | omega))]; exact hV27.2.1)
            refine K_inc (pc := 86) (i := 45) (q := 5) (lo' := [(0, _), (1, _), (2, _), (3, _), (4, _), (5, _)]) rfl rfl rfl rfl rfl ?_
            refine K_goto 27 (pc := 89) (i := 46) rfl rfl ?_
            exact ih27 (x5 + 1) _ (by omega) hI fx ⟨by omega, ac85, an85⟩
    exact L27 _ 0 _ (Nat.lt_succ_self _) hI fx ⟨by omega, a21, fun q hq => absurd hq (by omega)⟩
  · skip
    refine K_iload (pc := 12) (i := 7) rfl rfl ?_
    refine K_cSI (pc := 14) (i := 8) rfl (c_Plans_planCount G (x0 := v2) (s0 := by omega)) (ls_Plans_60 rfl) rfl rfl rfl rfl (fun v14 h14 q14 => ?_)
    obtain ⟨eh, r14⟩ := q14
    rw [eh]; clear eh
    refine K_goto 21 (pc := 17) (i := 9) rfl rfl ?_
    refine K_putI (pc := 21) (i := 11) (j := 8) rfl S_160 rfl (by decide) rfl rfl rfl fw_Plans_36 ?_
    have hI := st_anscount hI (v := v14) (by omega)
    have fx := Fx.st (c := 160) (i := 8) (v := v14) fx (by first | (dsimp only; omega) | omega | exact not_false)
    have a21 : (kU h 160 8 v14) 160 8 = (if x3 ≠ 0 then ((3 ^ (cnt (h (f + 1)) x2 (h f 6).toNat).toNat : Nat) : Int) else 1) := by rw [kU_at, if_pos ⟨rfl, rfl⟩]; first | (rw [if_pos (by omega), r14.2, show (min v2 5).toNat = (cnt (h (f + 1)) x2 (h f 6).toNat).toNat by (have := hN (by omega)); omega]; done) | (rw [if_neg (by omega)]; done)
    refine K_iconst (pc := 24) (i := 12) rfl ?_
    refine K_ist (pc := 25) (i := 13) (lo' := [(0, _), (1, _), (2, _), (3, _), (4, _), (5, _)]) rfl rfl rfl rfl ?_
    have L27 : ∀ (n : Nat) (x5 : Int) (ha : kH), (243 - x5).toNat < n → (Gd g ha) → (Fx (fun c i => (c = 160 ∧ i = 8) ∨ c = 165 ∨ c = 167 ∨ c = 168) h ha) → ((0 ≤ x5 ∧ x5 ≤ 243) ∧ ha 160 8 = (if x3 ≠ 0 then ((3 ^ (cnt (h (f + 1)) x2 (h f 6).toNat).toNat : Nat) : Int) else 1) ∧ ANS h ha f x2 x3 x5) → K X_Plans_prepareAnswers G (kZm G 3 (kQv (fun h' => Fx (fun c i => (c = 160 ∧ i = 8) ∨ c = 165 ∨ c = 167 ∨ c = 168) h h' ∧ (Gd g h' ∧ h' 160 8 = (if x3 ≠ 0 then ((3 ^ (cnt (h (f + 1)) x2 (h f 6).toNat).toNat : Nat) : Int) else 1) ∧ ANS h h' f x2 x3 (h' 160 8))))) 27 [(0, .ref (G.2.2.2 160)), (1, .ref (G.2.2.2 f)), (2, kI x2), (3, kI x3), (4, kI v2), (5, kI x5)] [] ha := by
      intro n
      induction n with
      | zero => intro x5 ha hm; exact absurd hm (Nat.not_lt_zero _)
      | succ n ih27 =>
        intro x5 ha hm27 hI fx hV27
        refine K_iload (pc := 27) (i := 14) rfl rfl ?_
        refine K_aload_n (pc := 29) (i := 15) rfl rfl ?_
        refine K_getI (pc := 30) (i := 16) (j := 8) rfl S_160 rfl (by decide) rfl fw_Plans_36 ?_
        refine K_nm (fun v30 e30 => ?_)
        have r30 := rd_anscount hI
        rw [← e30] at r30
        have y30 : v30 = ha 160 8 := e30
        first | refine K_icmp_ge 92 (pc := 33) (i := 17) rfl rfl (by omega) (by omega) (fun b33 => ?_) (fun b33 => ?_) | refine K_icmp_ge_an 92 (pc := 33) (i := 17) rfl rfl (fun b33 => ?_) (fun b33 => ?_)
        · skip
          exact K_retV (pc := 92) (i := 47) rfl rfl ⟨fx, ⟨hI, hV27.2.1, fun q hq => hV27.2.2 q (by omega)⟩⟩
        · skip
          refine K_iload_n (pc := 36) (i := 18) rfl rfl ?_
          first | refine K_if_eq 51 (pc := 37) (i := 19) rfl rfl (by omega) (fun b37 => ?_) (fun b37 => ?_) | refine K_if_eq_an 51 (pc := 37) (i := 19) rfl rfl (fun b37 => ?_) (fun b37 => ?_)
          · skip
            refine K_aload_n (pc := 51) (i := 25) rfl rfl ?_
            refine K_cVV (pc := 52) (i := 26) rfl (c_Plans_takeStay G (hI := hI)) S_160 rfl (lv_Plans_118 rfl) rfl rfl rfl rfl rfl (fun h52 q52 => ?_)
            obtain ⟨fx52, q52⟩ := q52
            obtain ⟨hI, ty52⟩ := q52
            have fx := fx.tr fx52 (fun c i q => (by first | (dsimp only at q ⊢; omega) | omega))
            have sf52 : ∀ c, c < 160 → h52 c = h c := fun c p => fx.cell c (fun i => (by first | (dsimp only; omega) | omega | exact not_false))
            have q52 : ∀ k : Nat, (k : Int) < h f 6 → h (f + 1) k = x2 → h52 165 (cnt (h (f + 1)) x2 k).toNat = cgM x3 (cnt (h (f + 1)) x2 (h f 6).toNat).toNat x5.toNat (cnt (h (f + 1)) x2 k).toNat := fun k p q => by have l := cnt_lt q (show k < (h f 6).toNat by omega); have l0 := cnt_le (h (f + 1)) x2 k; unfold cgM; rw [if_neg (by omega)]; exact ty52 _ (by omega)
            refine K_aload_n (pc := 55) (i := 27) rfl rfl ?_
            refine K_getR (pc := 56) (i := 28) (j := 6) (d := 167) rfl S_160 rfl (by decide) rfl fw_Plans_30 ?_
            refine K_iload (pc := 59) (i := 29) rfl rfl ?_
            refine K_aload_n (pc := 61) (i := 30) rfl rfl ?_
            refine K_aload_n (pc := 62) (i := 31) rfl rfl ?_
            refine K_iload_n (pc := 63) (i := 32) rfl rfl ?_
            refine K_cVI (pc := 64) (i := 33) rfl (c_Plans_choices G (f := f) (hf := hf) (x2 := x2) (hI := hI) (s2 := by omega)) S_160 rfl (lv_Plans_121 rfl) rfl rfl rfl rfl rfl (fun v64 h64 q64 => ?_)
            obtain ⟨eh, r64⟩ := q64
            rw [eh]; clear eh
            have ch64 : chI (h (f + 1)) x2 (cgM x3 (cnt (h (f + 1)) x2 (h f 6).toNat).toNat x5.toNat) v64 (h f 6) := by first | (have q := r64; rw [sf45 (f + 1) (by omega), sf45 f (by omega)] at q; exact q.cg q45) | (have q := r64; rw [sf52 (f + 1) (by omega), sf52 f (by omega)] at q; exact q.cg q52)
            refine K_iast (pc := 67) (i := 34) rfl S_167 (by omega) (by omega) (by decide) ?_
            have hI := st_free (c := 167) hI (by decide +kernel) (by decide) (i := (x5).toNat) (v := v64)
            have fx := Fx.st (c := 167) (i := (x5).toNat) (v := v64) fx (by first | (dsimp only; omega) | omega | exact not_false)
            refine K_aload_n (pc := 68) (i := 35) rfl rfl ?_
            refine K_getR (pc := 69) (i := 36) (j := 7) (d := 168) rfl S_160 rfl (by decide) rfl fw_Plans_33 ?_
            refine K_iload (pc := 72) (i := 37) rfl rfl ?_
            refine K_aload_n (pc := 74) (i := 38) rfl rfl ?_
            refine K_aload_n (pc := 75) (i := 39) rfl rfl ?_
            refine K_getR (pc := 76) (i := 40) (j := 6) (d := 167) rfl S_160 rfl (by decide) rfl fw_Plans_30 ?_
            refine K_iload (pc := 79) (i := 41) rfl rfl ?_
            refine K_iald (pc := 81) (i := 42) rfl S_167 (by omega) (by omega) (by decide) ?_
            refine K_nm (fun v81 e81 => ?_)
            have y81 : v81 = v64 := by rw [e81, kU_s, if_pos rfl]
            refine K_cVI (pc := 82) (i := 43) rfl (c_Plans_cutBy G (x1 := v81) (hI := hI)) S_160 rfl (lv_Plans_124 rfl) rfl rfl rfl rfl rfl (fun v82 h82 q82 => ?_)
            obtain ⟨eh, r82⟩ := q82
            rw [eh]; clear eh
            have cb82 : cbB (h 164) v64 v82 24 := by have q := r82; rw [y81] at q; rw [show (kU h52 167 ((x5).toNat) v64) 164 = h 164 from fx.cell 164 (fun i => (by first | (dsimp only; omega) | omega | exact not_false))] at q; exact q
            refine K_iast (pc := 85) (i := 44) rfl S_168 (by omega) (by omega) (by decide) ?_
            have hI := st_free (c := 168) hI (by decide +kernel) (by decide) (i := (x5).toNat) (v := v82)
            have fx := Fx.st (c := 168) (i := (x5).toNat) (v := v82) fx (by first | (dsimp only; omega) | omega | exact not_false)
            have an85 : ANS h (kU (kU h52 167 ((x5).toNat) v64) 168 ((x5).toNat) v82) f x2 x3 (x5 + 1) := hV27.2.2.st (a := v64) (c := v82) (by omega) (fun j => by rw [kU_c _ _ _ _ (by decide), kU_s]; first | rw [fx45.cell 167 (fun i => (by first | (dsimp only; omega) | omega))] | rw [fx52.cell 167 (fun i => (by first | (dsimp only; omega) | omega))]) (fun j => by rw [kU_s, kU_c _ _ _ _ (by decide)]; first | rw [fx45.cell 168 (fun i => (by first | (dsimp only; omega) | omega))] | rw [fx52.cell 168 (fun i => (by first | (dsimp only; omega) | omega))]) ch64 cb82
            have ac85 : (kU (kU h52 167 ((x5).toNat) v64) 168 ((x5).toNat) v82) 160 8 = (if x3 ≠ 0 then ((3 ^ (cnt (h (f + 1)) x2 (h f 6).toNat).toNat : Nat) : Int) else 1) := by rw [kU_c _ _ _ _ (by decide), kU_c _ _ _ _ (by decide)]; first | (rw [fx45.cell 160 (fun i => (by first | (dsimp only; omega) | omega))]; exact hV27.2.1) | (rw [fx52.cell 160 (fun i => (by first | (dsimp only; omega) | omega))]; exact hV27.2.1)
            refine K_inc (pc := 86) (i := 45) (q := 5) (lo' := [(0, _), (1, _), (2, _), (3, _), (4, _), (5, _)]) rfl rfl rfl rfl rfl ?_
            refine K_goto 27 (pc := 89) (i := 46) rfl rfl ?_
            exact ih27 (x5 + 1) _ (by omega) hI fx ⟨by omega, ac85, an85⟩
          · skip
            refine K_aload_n (pc := 40) (i := 20) rfl rfl ?_
            refine K_iload (pc := 41) (i := 21) rfl rfl ?_
            refine K_iload (pc := 43) (i := 22) rfl rfl ?_
            refine K_cVV (pc := 45) (i := 23) rfl (c_Plans_takePlan G (x1 := x5) (x2 := v2) (hI := hI) (s1 := by omega) (s2 := by omega)) S_160 rfl (lv_Plans_63 rfl) rfl rfl rfl rfl rfl (fun h45 q45 => ?_)
            obtain ⟨fx45, q45⟩ := q45
            obtain ⟨hI, tp45⟩ := q45
            have fx := fx.tr fx45 (fun c i q => (by first | (dsimp only at q ⊢; omega) | omega))
            have sf45 : ∀ c, c < 160 → h45 c = h c := fun c p => fx.cell c (fun i => (by first | (dsimp only; omega) | omega | exact not_false))
            have q45 : ∀ k : Nat, (k : Int) < h f 6 → h (f + 1) k = x2 → h45 165 (cnt (h (f + 1)) x2 k).toNat = cgM x3 (cnt (h (f + 1)) x2 (h f 6).toNat).toNat x5.toNat (cnt (h (f + 1)) x2 k).toNat := fun k p q => by have l := cnt_lt q (show k < (h f 6).toNat by omega); have l0 := cnt_le (h (f + 1)) x2 k; unfold cgM; rw [if_pos (by omega), tp45 _ (by have := hN (by omega); omega), show (min v2 5).toNat = (cnt (h (f + 1)) x2 (h f 6).toNat).toNat by (have := hN (by omega)); omega]
            refine K_goto 55 (pc := 48) (i := 24) rfl rfl ?_
            refine K_aload_n (pc := 55) (i := 27) rfl rfl ?_
            refine K_getR (pc := 56) (i := 28) (j := 6) (d := 167) rfl S_160 rfl (by decide) rfl fw_Plans_30 ?_
            refine K_iload (pc := 59) (i := 29) rfl rfl ?_
            refine K_aload_n (pc := 61) (i := 30) rfl rfl ?_
            refine K_aload_n (pc := 62) (i := 31) rfl rfl ?_
            refine K_iload_n (pc := 63) (i := 32) rfl rfl ?_
            refine K_cVI (pc := 64) (i := 33) rfl (c_Plans_choices G (f := f) (hf := hf) (x2 := x2) (hI := hI) (s2 := by omega)) S_160 rfl (lv_Plans_121 rfl) rfl rfl rfl rfl rfl (fun v64 h64 q64 => ?_)
            obtain ⟨eh, r64⟩ := q64
            rw [eh]; clear eh
            have ch64 : chI (h (f + 1)) x2 (cgM x3 (cnt (h (f + 1)) x2 (h f 6).toNat).toNat x5.toNat) v64 (h f 6) := by first | (have q := r64; rw [sf45 (f + 1) (by omega), sf45 f (by omega)] at q; exact q.cg q45) | (have q := r64; rw [sf52 (f + 1) (by omega), sf52 f (by omega)] at q; exact q.cg q52)
            refine K_iast (pc := 67) (i := 34) rfl S_167 (by omega) (by omega) (by decide) ?_
            have hI := st_free (c := 167) hI (by decide +kernel) (by decide) (i := (x5).toNat) (v := v64)
            have fx := Fx.st (c := 167) (i := (x5).toNat) (v := v64) fx (by first | (dsimp only; omega) | omega | exact not_false)
            refine K_aload_n (pc := 68) (i := 35) rfl rfl ?_
            refine K_getR (pc := 69) (i := 36) (j := 7) (d := 168) rfl S_160 rfl (by decide) rfl fw_Plans_33 ?_
            refine K_iload (pc := 72) (i := 37) rfl rfl ?_
            refine K_aload_n (pc := 74) (i := 38) rfl rfl ?_
            refine K_aload_n (pc := 75) (i := 39) rfl rfl ?_
            refine K_getR (pc := 76) (i := 40) (j := 6) (d := 167) rfl S_160 rfl (by decide) rfl fw_Plans_30 ?_
            refine K_iload (pc := 79) (i := 41) rfl rfl ?_
            refine K_iald (pc := 81) (i := 42) rfl S_167 (by omega) (by omega) (by decide) ?_
            refine K_nm (fun v81 e81 => ?_)
            have y81 : v81 = v64 := by rw [e81, kU_s, if_pos rfl]
            refine K_cVI (pc := 82) (i := 43) rfl (c_Plans_cutBy G (x1 := v81) (hI := hI)) S_160 rfl (lv_Plans_124 rfl) rfl rfl rfl rfl rfl (fun v82 h82 q82 => ?_)
            obtain ⟨eh, r82⟩ := q82
            rw [eh]; clear eh
            have cb82 : cbB (h 164) v64 v82 24 := by have q := r82; rw [y81] at q; rw [show (kU h45 167 ((x5).toNat) v64) 164 = h 164 from fx.cell 164 (fun i => (by first | (dsimp only; omega) | omega | exact not_false))] at q; exact q
            refine K_iast (pc := 85) (i := 44) rfl S_168 (by omega) (by omega) (by decide) ?_
            have hI := st_free (c := 168) hI (by decide +kernel) (by decide) (i := (x5).toNat) (v := v82)
            have fx := Fx.st (c := 168) (i := (x5).toNat) (v := v82) fx (by first | (dsimp only; omega) | omega | exact not_false)
            have an85 : ANS h (kU (kU h45 167 ((x5).toNat) v64) 168 ((x5).toNat) v82) f x2 x3 (x5 + 1) := hV27.2.2.st (a := v64) (c := v82) (by omega) (fun j => by rw [kU_c _ _ _ _ (by decide), kU_s]; first | rw [fx45.cell 167 (fun i => (by first | (dsimp only; omega) | omega))] | rw [fx52.cell 167 (fun i => (by first | (dsimp only; omega) | omega))]) (fun j => by rw [kU_s, kU_c _ _ _ _ (by decide)]; first | rw [fx45.cell 168 (fun i => (by first | (dsimp only; omega) | omega))] | rw [fx52.cell 168 (fun i => (by first | (dsimp only; omega) | omega))]) ch64 cb82
            have ac85 : (kU (kU h45 167 ((x5).toNat) v64) 168 ((x5).toNat) v82) 160 8 = (if x3 ≠ 0 then ((3 ^ (cnt (h (f + 1)) x2 (h f 6).toNat).toNat : Nat) : Int) else 1) := by rw [kU_c _ _ _ _ (by decide), kU_c _ _ _ _ (by decide)]; first | (rw [fx45.cell 160 (fun i => (by first | (dsimp only; omega) | omega))]; exact hV27.2.1) | (rw [fx52.cell 160 (fun i => (by first | (dsimp only; omega) | omega))]; exact hV27.2.1)
            refine K_inc (pc := 86) (i := 45) (q := 5) (lo' := [(0, _), (1, _), (2, _), (3, _), (4, _), (5, _)]) rfl rfl rfl rfl rfl ?_
            refine K_goto 27 (pc := 89) (i := 46) rfl rfl ?_
            exact ih27 (x5 + 1) _ (by omega) hI fx ⟨by omega, ac85, an85⟩
    exact L27 _ 0 _ (Nat.lt_succ_self _) hI fx ⟨by omega, a21, fun q hq => absurd hq (by omega)⟩
set_option maxHeartbeats 4000000 in
set_option maxRecDepth 100000 in
theorem c_Plans_worstLead (G : kG) {g : kGh} {h : kH} {f : Nat} (hf : f ∈ FL) {x2 : Int} (s2 : 0 ≤ x2 ∧ x2 ≤ 1) (hA : ∀ q : Nat, (q : Int) < h 160 8 → ∀ j : Int, 24 ≤ j → j ≤ 31 → tb (h 167 q) j = false) (hI : Gd g h) : Ctr G y_Plans_worstLead X_Plans_worstLead 2 [.ref (G.2.2.2 160), .ref (G.2.2.2 f), kI x2] h (kQi (fun z h' => h' = h ∧ (-24 ≤ z ∧ z ≤ 100) ∧ ∃ O OC : Int, chI (h (f + 1)) x2 (h 165) O (h f 6) ∧ cbB (h 164) O OC 24 ∧ MNF (fun q v => v = pcI (kAnd (h 167 q) OC) - pcI (kAnd O (h 168 q))) 100 (h 160 8).toNat z)) := by
  refine Ctr.ofK (by decide) rfl T_Plans_worstLead (Nat.le_of_ble_eq_true rfl) (lo := [(0, .ref (G.2.2.2 160)), (1, .ref (G.2.2.2 f)), (2, kI x2)]) rfl ?_
  have n00 := rd_kites hI hf
  refine K_aload_n (pc := 0) (i := 0) rfl rfl ?_
  refine K_aload_n (pc := 1) (i := 1) rfl rfl ?_
  refine K_iload_n (pc := 2) (i := 2) rfl rfl ?_
  refine K_cVI (pc := 3) (i := 3) rfl (c_Plans_choices G (f := f) (hf := hf) (x2 := x2) (hI := hI) (s2 := by omega)) S_160 rfl (lv_Plans_121 rfl) rfl rfl rfl rfl rfl (fun v3 h3 q3 => ?_)
  obtain ⟨eh, r3⟩ := q3
  rw [eh]; clear eh
  have hi3 : ∀ j : Int, 24 ≤ j → j ≤ 31 → tb v3 j = false := fun j p q => r3.hi n00.2 (fun k _ _ => rd_chg hI _) j p q
  refine K_ist_n (pc := 6) (i := 4) (lo' := [(0, _), (1, _), (2, _), (3, _)]) rfl rfl rfl rfl ?_
  refine K_aload_n (pc := 7) (i := 5) rfl rfl ?_
  refine K_iload_n (pc := 8) (i := 6) rfl rfl ?_
  refine K_cVI (pc := 9) (i := 7) rfl (c_Plans_cutBy G (x1 := v3) (hI := hI)) S_160 rfl (lv_Plans_124 rfl) rfl rfl rfl rfl rfl (fun v9 h9 q9 => ?_)
  obtain ⟨eh, r9⟩ := q9
  rw [eh]; clear eh
  refine K_ist (pc := 12) (i := 8) (lo' := [(0, _), (1, _), (2, _), (3, _), (4, _)]) rfl rfl rfl rfl ?_
  refine K_bipush (pc := 14) (i := 9) rfl rfl ?_
  refine K_ist (pc := 16) (i := 10) (lo' := [(0, _), (1, _), (2, _), (3, _), (4, _), (5, _)]) rfl rfl rfl rfl ?_
  refine K_iconst (pc := 18) (i := 11) rfl ?_
  refine K_ist (pc := 19) (i := 12) (lo' := [(0, _), (1, _), (2, _), (3, _), (4, _), (5, _), (6, _)]) rfl rfl rfl rfl ?_
  have L21 : ∀ (n : Nat) (x5 : Int) (x6 : Int), (243 - x6).toNat < n → ((0 ≤ x6 ∧ x6 ≤ 243) ∧ x6 ≤ h 160 8 ∧ (-24 ≤ x5 ∧ x5 ≤ 100) ∧ MNF (fun q v => v = pcI (kAnd (h 167 q) v9) - pcI (kAnd v3 (h 168 q))) 100 x6.toNat x5) → K X_Plans_worstLead G (kZm G 2 (kQi (fun z h' => h' = h ∧ (-24 ≤ z ∧ z ≤ 100) ∧ ∃ O OC : Int, chI (h (f + 1)) x2 (h 165) O (h f 6) ∧ cbB (h 164) O OC 24 ∧ MNF (fun q v => v = pcI (kAnd (h 167 q) OC) - pcI (kAnd O (h 168 q))) 100 (h 160 8).toNat z))) 21 [(0, .ref (G.2.2.2 160)), (1, .ref (G.2.2.2 f)), (2, kI x2), (3, kI v3), (4, kI v9), (5, kI x5), (6, kI x6)] [] h := by
    intro n
    induction n with
    | zero => intro x5 x6 hm; exact absurd hm (Nat.not_lt_zero _)
    | succ n ih21 =>
      intro x5 x6 hm21 hV21
      refine K_iload (pc := 21) (i := 13) rfl rfl ?_
      refine K_aload_n (pc := 23) (i := 14) rfl rfl ?_
      refine K_getI (pc := 24) (i := 15) (j := 8) rfl S_160 rfl (by decide) rfl fw_Plans_36 ?_
      refine K_nm (fun v24 e24 => ?_)
      have r24 := rd_anscount hI
      rw [← e24] at r24
      first | refine K_icmp_ge 77 (pc := 27) (i := 16) rfl rfl (by omega) (by omega) (fun b27 => ?_) (fun b27 => ?_) | refine K_icmp_ge_an 77 (pc := 27) (i := 16) rfl rfl (fun b27 => ?_) (fun b27 => ?_)
      · skip
        refine K_iload (pc := 77) (i := 41) rfl rfl ?_
        exact K_retI (pc := 79) (i := 42) rfl rfl ⟨rfl, by omega, v3, v9, r3, r9, by rw [show (h 160 8).toNat = x6.toNat by omega]; exact hV21.2.2.2⟩
      · skip
        refine K_aload_n (pc := 30) (i := 17) rfl rfl ?_
        refine K_getR (pc := 31) (i := 18) (j := 6) (d := 167) rfl S_160 rfl (by decide) rfl fw_Plans_30 ?_
        refine K_iload (pc := 34) (i := 19) rfl rfl ?_
        refine K_iald (pc := 36) (i := 20) rfl S_167 (by omega) (by omega) (by decide) ?_
        refine K_nm (fun v36 e36 => ?_)
        refine K_iload (pc := 37) (i := 21) rfl rfl ?_
        refine K_iand (pc := 39) (i := 22) rfl ?_
        refine K_nm (fun v39 e39 => ?_)
        have r39 := kAnd_R v36 v9
        rw [← e39] at r39
        refine K_cSI (pc := 40) (i := 23) rfl (c_Integer_bitCount G (x0 := v39)) (ls_Plans_127 rfl) rfl rfl rfl rfl (fun v40 h40 q40 => ?_)
        obtain ⟨eh, r40⟩ := q40
        rw [eh]; clear eh
        have l39 := lt24 (m := v39) r39 (fun j p q => by rw [e39, bt_and, e36, hA x6.toNat (by omega) j p q, Bool.false_and])
        have t40 : v40 = pcI v39 := r40.2 l39.1 l39.2
        have b40 := pcI_bd l39.1 l39.2
        refine K_ist (pc := 43) (i := 24) (lo' := [(0, _), (1, _), (2, _), (3, _), (4, _), (5, _), (6, _), (7, _)]) rfl rfl rfl rfl ?_
        refine K_iload_n (pc := 45) (i := 25) rfl rfl ?_
        refine K_aload_n (pc := 46) (i := 26) rfl rfl ?_
        refine K_getR (pc := 47) (i := 27) (j := 7) (d := 168) rfl S_160 rfl (by decide) rfl fw_Plans_33 ?_
        refine K_iload (pc := 50) (i := 28) rfl rfl ?_
        refine K_iald (pc := 52) (i := 29) rfl S_168 (by omega) (by omega) (by decide) ?_
        refine K_nm (fun v52 e52 => ?_)
        refine K_iand (pc := 53) (i := 30) rfl ?_
        refine K_nm (fun v53 e53 => ?_)
        have r53 := kAnd_R v3 v52
        rw [← e53] at r53
        refine K_cSI (pc := 54) (i := 31) rfl (c_Integer_bitCount G (x0 := v53)) (ls_Plans_127 rfl) rfl rfl rfl rfl (fun v54 h54 q54 => ?_)
        obtain ⟨eh, r54⟩ := q54
        rw [eh]; clear eh
        have l53 := lt24 (m := v53) r53 (fun j p q => by rw [e53, bt_and, hi3 j p q, Bool.false_and])
        have t54 : v54 = pcI v53 := r54.2 l53.1 l53.2
        have b54 := pcI_bd l53.1 l53.2
        refine K_ist (pc := 57) (i := 32) (lo' := [(0, _), (1, _), (2, _), (3, _), (4, _), (5, _), (6, _), (7, _), (8, _)]) rfl rfl rfl rfl ?_
        refine K_iload (pc := 59) (i := 33) rfl rfl ?_
        refine K_iload (pc := 61) (i := 34) rfl rfl ?_
        refine K_iload (pc := 63) (i := 35) rfl rfl ?_
        refine K_isub (pc := 65) (i := 36) rfl ?_
        refine K_mmin (pc := 66) (i := 37) rfl mw_Plans_83 (by omega) (by omega) (Nat.le_of_ble_eq_true rfl) ⟨Nat.le_of_ble_eq_true rfl, Nat.le_of_ble_eq_true rfl⟩ ⟨Nat.le_of_ble_eq_true rfl, Nat.le_of_ble_eq_true rfl⟩ ?_
        refine K_nm (fun v66 e66 => ?_)
        refine K_ist (pc := 69) (i := 38) (lo' := [(0, _), (1, _), (2, _), (3, _), (4, _), (5, _), (6, _), (7, _), (8, _)]) rfl rfl rfl rfl ?_
        refine K_inc (pc := 71) (i := 39) (q := 6) (lo' := [(0, _), (1, _), (2, _), (3, _), (4, _), (5, _), (6, _), (7, _), (8, _)]) rfl rfl rfl rfl rfl ?_
        refine K_goto 21 (pc := 74) (i := 40) rfl rfl ?_
        refine K_drop (lo' := [(0, .ref (G.2.2.2 160)), (1, .ref (G.2.2.2 f)), (2, kI x2), (3, kI v3), (4, kI v9), (5, kI v66), (6, kI (x6 + 1))]) [0, 1, 2, 3, 4, 5, 6] rfl ?_
        exact ih21 v66 (x6 + 1) (by omega) ⟨by omega, by omega, by omega, by rw [show (x6 + 1).toNat = x6.toNat + 1 by omega]; exact ⟨x5, v40 - v54, hV21.2.2.2, by rw [t40, t54, e39, e53, e36, e52], e66⟩⟩
  exact L21 _ 100 0 (Nat.lt_succ_self _) ⟨by omega, by have := rd_anscount hI; omega, by omega, rfl⟩
end
section
theorem PRP.cus {h h' : kH} (a : PRP h h') : CUs h (h 6 6) (h' 164) := fun c hc j h0 h1 => by
  rw [(a c hc).2 j h0 h1]
  constructor
  · rintro ⟨p, q⟩; exact ⟨p.1, q⟩
  · rintro ⟨p, q⟩; exact ⟨⟨p, p⟩, q⟩
theorem chP_o {tn : Nat → Int} {n t mv : Int} {p q k : Nat} (hk : tn k = t) : chP tn n t mv p q k = dg3 (cnt tn t n.toNat).toNat p (cnt tn t k).toNat := by unfold chP; rw [if_pos hk]
theorem chP_a {tn : Nat → Int} {n t mv : Int} {p q k : Nat} (hk : tn k ≠ t) : chP tn n t mv p q k = cgM mv (cnt tn (1 - t) n.toNat).toNat q (cnt tn (1 - t) k).toNat := by unfold chP; rw [if_neg hk]
/-- a plan's worst lead, by its bits -/
theorem WLc.mk {h h2 hb : kH} {t mv : Int} {p : Nat} {z O OC : Int} (hn : 0 ≤ h 6 6 ∧ h 6 6 ≤ 8) (tt : ∀ k, h 7 k = 0 ∨ h 7 k = 1) (ht : t = 0 ∨ t = 1) (pp : PRP h h2) (e164 : hb 164 = h2 164) (ac : hb 160 8 = (if mv ≠ 0 then ((3 ^ (cnt (h 7) (1 - t) (h 6 6).toNat).toNat : Nat) : Int) else 1)) (an : ∀ q : Nat, (q : Int) < hb 160 8 → chI (h 7) (1 - t) (cgM mv (cnt (h 7) (1 - t) (h 6 6).toNat).toNat q) (hb 167 q) (h 6 6) ∧ cbB (h2 164) (hb 167 q) (hb 168 q) 24)
    (co : chI (h 7) t (hb 165) O (h 6 6)) (hg : ∀ i : Nat, (i : Int) < cnt (h 7) t (h 6 6).toNat → hb 165 i = dg3 (cnt (h 7) t (h 6 6).toNat).toNat p i) (oc : cbB (hb 164) O OC 24) (m : MNF (fun q v => v = pcI (kAnd (hb 167 q) OC) - pcI (kAnd O (hb 168 q))) 100 (hb 160 8).toNat z) : WLc h t mv p z := by
  unfold WLc
  have ecn : (hb 160 8).toNat = (if mv ≠ 0 then 3 ^ (cnt (h 7) (1 - t) (h 6 6).toNat).toNat else 1) := by
    rw [ac]
    split
    · exact Int.toNat_natCast _
    · rfl
  rw [ecn] at m
  rw [e164] at oc
  refine MNF.cg (fun q v hq hv => ?_) m
  rw [hv]
  have a := an q (by rw [← ecn] at hq; omega)
  refine lead hn pp.cus tt ht (cgo := hb 165) (cga := cgM mv (cnt (h 7) (1 - t) (h 6 6).toNat).toNat q) co oc a.1 a.2 (fun k hk kt => ?_) (fun k hk kt => ?_)
  · have l := cnt_lt kt (show k < (h 6 6).toNat by omega)
    have l0 := cnt_le (h 7) t k
    rw [chP_o kt, hg _ (by omega)]
    exact ⟨dg3_r _ _ _, rfl⟩
  · rw [chP_a (by omega)]
    exact ⟨cgM_r _ _ _ _, rfl⟩
set_option maxHeartbeats 4000000 in
set_option maxRecDepth 100000 in
theorem c_Plans_best (G : kG) {g : kGh} {h : kH} {x2 : Int} {x3 : Int} (s2 : 0 ≤ x2 ∧ x2 ≤ 1) (s3 : x3 = 0 ∨ x3 = 1) (hN : cnt (h 7) x2 (h 6 6).toNat ≤ 5) (hO : x3 ≠ 0 → cnt (h 7) (1 - x2) (h 6 6).toNat ≤ 5) (hI : Gd g h) : Ctr G y_Plans_best X_Plans_best 5 [.ref (G.2.2.2 160), .ref (G.2.2.2 3), kI x2, kI x3] h (kQi (fun z h' => Fx (fun c i => 160 ≤ c ∧ c ≤ 168) h h' ∧ (Gd g h' ∧ (-100 ≤ z ∧ z ≤ 100) ∧ MXF (fun p v => WLc h x2 x3 p v) (-100) (3 ^ (cnt (h 7) x2 (h 6 6).toNat).toNat) z))) := by
  refine Ctr.ofK (by decide) rfl T_Plans_best (Nat.le_of_ble_eq_true rfl) (lo := [(0, .ref (G.2.2.2 160)), (1, .ref (G.2.2.2 3)), (2, kI x2), (3, kI x3)]) rfl ?_
  have fx : Fx (fun c i => 160 ≤ c ∧ c ≤ 168) h h := Fx.rf
  have n00 := rd_kites hI fl6
  have hI0 := hI
  have tt : ∀ k, h 7 k = 0 ∨ h 7 k = 1 := fun k => by have q := rd_town hI fl6 k; change 0 ≤ h 7 k ∧ h 7 k ≤ 1 at q; omega
  have c00 := cnt_le (h 7) x2 (h 6 6).toNat
  refine K_aload_n (pc := 0) (i := 0) rfl rfl ?_
  refine K_aload_n (pc := 1) (i := 1) rfl rfl ?_
  refine K_cVV (pc := 2) (i := 2) rfl (c_Plans_prepare G (hI := hI)) S_160 rfl (lv_Plans_40 rfl) rfl rfl rfl rfl rfl (fun h2 q2 => ?_)
  obtain ⟨fx2, q2⟩ := q2
  obtain ⟨hI, pp2⟩ := q2
  have fx := fx.tr fx2 (fun c i q => (by first | (dsimp only at q ⊢; omega) | omega))
  have sf2 : ∀ c, c < 160 → h2 c = h c := fun c p => fx2.cell c (fun i => (by first | (dsimp only; omega) | omega | exact not_false))
  refine K_aload_n (pc := 5) (i := 3) rfl rfl ?_
  refine K_aload_n (pc := 6) (i := 4) rfl rfl ?_
  refine K_getR (pc := 7) (i := 5) (j := 0) (d := 6) rfl (S_Sk sk3) rfl (by decide) rfl fw_Plans_44 ?_
  refine K_iconst (pc := 10) (i := 6) rfl ?_
  refine K_iload_n (pc := 11) (i := 7) rfl rfl ?_
  refine K_isub (pc := 12) (i := 8) rfl ?_
  refine K_iload_n (pc := 13) (i := 9) rfl rfl ?_
  refine K_cVV (pc := 14) (i := 10) rfl (c_Plans_prepareAnswers G (f := 6) (hf := fl6) (x2 := 1 - x2) (x3 := x3) (hN := fun q => by have e := hO q; rw [← sf2 7 (by omega), ← sf2 6 (by omega)] at e; exact e) (hI := hI) (hr := by omega) (s2 := by omega) (s3 := by omega)) S_160 rfl (lv_Plans_50 rfl) rfl rfl rfl rfl rfl (fun h14 q14 => ?_)
  obtain ⟨fx14, q14⟩ := q14
  obtain ⟨hI, ac14, an14⟩ := q14
  have fx := fx.tr fx14 (fun c i q => (by first | (dsimp only at q ⊢; omega) | omega))
  have ac14 : h14 160 8 = (if x3 ≠ 0 then ((3 ^ (cnt (h 7) (1 - x2) (h 6 6).toNat).toNat : Nat) : Int) else 1) := by have q := ac14; change h14 160 8 = (if x3 ≠ 0 then ((3 ^ (cnt (h2 7) (1 - x2) (h2 6 6).toNat).toNat : Nat) : Int) else 1) at q; rw [sf2 7 (by omega), sf2 6 (by omega)] at q; exact q
  have an14 : ∀ q : Nat, (q : Int) < h14 160 8 → chI (h 7) (1 - x2) (cgM x3 (cnt (h 7) (1 - x2) (h 6 6).toNat).toNat q) (h14 167 q) (h 6 6) ∧ cbB (h2 164) (h14 167 q) (h14 168 q) 24 := fun q hq => by have t := an14 q hq; change chI (h2 7) (1 - x2) (cgM x3 (cnt (h2 7) (1 - x2) (h2 6 6).toNat).toNat q) (h14 167 q) (h2 6 6) ∧ _ at t; rw [sf2 7 (by omega), sf2 6 (by omega)] at t; exact t
  have e164 : h14 164 = h2 164 := fx14.cell 164 (fun i => (by first | (dsimp only; omega) | omega | exact not_false))
  refine K_aload_n (pc := 17) (i := 11) rfl rfl ?_
  refine K_getR (pc := 18) (i := 12) (j := 0) (d := 6) rfl (S_Sk sk3) rfl (by decide) rfl fw_Plans_44 ?_
  refine K_iload_n (pc := 21) (i := 13) rfl rfl ?_
  refine K_cVI (pc := 22) (i := 14) rfl (c_Fleet_ofTown G (f := 6) (hf := fl6) (x1 := x2) (hI := hI) (s1 := by omega)) (S_Fl fl6) rfl (lv_Plans_54 rfl) rfl rfl rfl rfl rfl (fun v22 h22 q22 => ?_)
  obtain ⟨eh, r22⟩ := q22
  rw [eh]; clear eh
  have y22 : v22 = cnt (h 7) x2 (h 6 6).toNat := by have q := r22.2; change v22 = cnt (h14 7) x2 (h14 6 6).toNat at q; rw [show h14 7 = h 7 from fx.cell 7 (fun i => (by first | (dsimp only; omega) | omega | exact not_false)), show h14 6 = h 6 from fx.cell 6 (fun i => (by first | (dsimp only; omega) | omega | exact not_false))] at q; exact q
  refine K_ist (pc := 25) (i := 15) (lo' := [(0, _), (1, _), (2, _), (3, _), (4, _)]) rfl rfl rfl rfl ?_
  refine K_iload (pc := 27) (i := 16) rfl rfl ?_
  refine K_cSI (pc := 29) (i := 17) rfl (c_Plans_planCount G (x0 := v22) (s0 := by omega)) (ls_Plans_60 rfl) rfl rfl rfl rfl (fun v29 h29 q29 => ?_)
  obtain ⟨eh, r29⟩ := q29
  rw [eh]; clear eh
  have y29 : v29 = ((3 ^ (cnt (h 7) x2 (h 6 6).toNat).toNat : Nat) : Int) := by rw [r29.2, show (min v22 5).toNat = (cnt (h 7) x2 (h 6 6).toNat).toNat by omega]
  refine K_ist (pc := 32) (i := 18) (lo' := [(0, _), (1, _), (2, _), (3, _), (4, _), (5, _)]) rfl rfl rfl rfl ?_
  refine K_bipush (pc := 34) (i := 19) rfl rfl ?_
  refine K_ist (pc := 36) (i := 20) (lo' := [(0, _), (1, _), (2, _), (3, _), (4, _), (5, _), (6, _)]) rfl rfl rfl rfl ?_
  refine K_iconst (pc := 38) (i := 21) rfl ?_
  refine K_ist (pc := 39) (i := 22) (lo' := [(0, _), (1, _), (2, _), (3, _), (4, _), (5, _), (6, _), (7, _)]) rfl rfl rfl rfl ?_
  have L41 : ∀ (n : Nat) (x6 : Int) (x7 : Int) (ha : kH), (243 - x7).toNat < n → (Gd g ha) → (Fx (fun c i => 160 ≤ c ∧ c ≤ 168) h ha) → ((0 ≤ x7 ∧ x7 ≤ 243) ∧ (-100 ≤ x6 ∧ x6 ≤ 100) ∧ (∀ c, 160 ≤ c → c ≠ 165 → c ≠ 166 → ha c = h14 c) ∧ x7 ≤ v29 ∧ MXF (fun p v => WLc h x2 x3 p v) (-100) x7.toNat x6) → K X_Plans_best G (kZm G 5 (kQi (fun z h' => Fx (fun c i => 160 ≤ c ∧ c ≤ 168) h h' ∧ (Gd g h' ∧ (-100 ≤ z ∧ z ≤ 100) ∧ MXF (fun p v => WLc h x2 x3 p v) (-100) (3 ^ (cnt (h 7) x2 (h 6 6).toNat).toNat) z)))) 41 [(0, .ref (G.2.2.2 160)), (1, .ref (G.2.2.2 3)), (2, kI x2), (3, kI x3), (4, kI v22), (5, kI v29), (6, kI x6), (7, kI x7)] [] ha := by
    intro n
    induction n with
    | zero => intro x6 x7 ha hm; exact absurd hm (Nat.not_lt_zero _)
    | succ n ih41 =>
      intro x6 x7 ha hm41 hI fx hV41
      refine K_iload (pc := 41) (i := 23) rfl rfl ?_
      refine K_iload (pc := 43) (i := 24) rfl rfl ?_
      first | refine K_icmp_ge 99 (pc := 45) (i := 25) rfl rfl (by omega) (by omega) (fun b45 => ?_) (fun b45 => ?_) | refine K_icmp_ge_an 99 (pc := 45) (i := 25) rfl rfl (fun b45 => ?_) (fun b45 => ?_)
      · skip
        refine K_iload (pc := 99) (i := 51) rfl rfl ?_
        exact K_retI (pc := 101) (i := 52) rfl rfl ⟨fx, ⟨hI, by omega, by have q := hV41.2.2.2.2; rw [show x7.toNat = 3 ^ (cnt (h 7) x2 (h 6 6).toNat).toNat by omega] at q; exact q⟩⟩
      · skip
        refine K_aload_n (pc := 48) (i := 26) rfl rfl ?_
        refine K_iload (pc := 49) (i := 27) rfl rfl ?_
        refine K_iload (pc := 51) (i := 28) rfl rfl ?_
        refine K_cVV (pc := 53) (i := 29) rfl (c_Plans_takePlan G (x1 := x7) (x2 := v22) (hI := hI) (s1 := by omega) (s2 := by omega)) S_160 rfl (lv_Plans_63 rfl) rfl rfl rfl rfl rfl (fun h53 q53 => ?_)
        obtain ⟨fx53, q53⟩ := q53
        obtain ⟨hI, tp53⟩ := q53
        have fx := fx.tr fx53 (fun c i q => (by first | (dsimp only at q ⊢; omega) | omega))
        have k53 : ∀ c, 160 ≤ c → c ≠ 165 → h53 c = ha c := fun c p q => fx53.cell c (fun i => (by first | (dsimp only; omega) | omega | exact not_false))
        have hA62 : ∀ q : Nat, (q : Int) < h53 160 8 → ∀ j : Int, 24 ≤ j → j ≤ 31 → tb (h53 167 q) j = false := fun q hq j p r => by rw [k53 160 (by omega) (by omega), hV41.2.2.1 160 (by omega) (by omega) (by omega)] at hq; rw [k53 167 (by omega) (by omega), hV41.2.2.1 167 (by omega) (by omega) (by omega)]; exact (an14 q hq).1.hi n00.2 (fun k _ _ => cgM_r _ _ _ _) j p r
        have sg53 : h53 7 = h 7 ∧ h53 6 = h 6 := ⟨fx.cell 7 (fun i => (by first | (dsimp only; omega) | omega | exact not_false)), fx.cell 6 (fun i => (by first | (dsimp only; omega) | omega | exact not_false))⟩
        refine K_aload_n (pc := 56) (i := 30) rfl rfl ?_
        refine K_aload_n (pc := 57) (i := 31) rfl rfl ?_
        refine K_getR (pc := 58) (i := 32) (j := 0) (d := 6) rfl (S_Sk sk3) rfl (by decide) rfl fw_Plans_44 ?_
        refine K_iload_n (pc := 61) (i := 33) rfl rfl ?_
        refine K_cVI (pc := 62) (i := 34) rfl (c_Plans_worstLead G (f := 6) (hf := fl6) (x2 := x2) (hA := hA62) (hI := hI) (s2 := by omega)) S_160 rfl (lv_Plans_67 rfl) rfl rfl rfl rfl rfl (fun v62 h62 q62 => ?_)
        obtain ⟨eh, r62⟩ := q62
        rw [eh]; clear eh
        obtain ⟨b62, O, OC, o62, oc62, m62⟩ := r62
        have wl62 : WLc h x2 x3 x7.toNat v62 := WLc.mk (h2 := h2) (hb := h53) n00 tt (by omega) pp2 (by rw [k53 164 (by omega) (by omega), hV41.2.2.1 164 (by omega) (by omega) (by omega), e164]) (by rw [k53 160 (by omega) (by omega), hV41.2.2.1 160 (by omega) (by omega) (by omega)]; exact ac14) (fun q hq => by rw [k53 160 (by omega) (by omega), hV41.2.2.1 160 (by omega) (by omega) (by omega)] at hq; rw [k53 167 (by omega) (by omega), k53 168 (by omega) (by omega), hV41.2.2.1 167 (by omega) (by omega) (by omega), hV41.2.2.1 168 (by omega) (by omega) (by omega)]; exact an14 q hq) (by have q := o62; change chI (h53 7) x2 (h53 165) O (h53 6 6) at q; rw [sg53.1, sg53.2] at q; exact q) (fun i hi => by have q := tp53 i (by omega); rw [show (min v22 5).toNat = (cnt (h 7) x2 (h 6 6).toNat).toNat by omega] at q; exact q) oc62 m62
        refine K_ist (pc := 65) (i := 35) (lo' := [(0, _), (1, _), (2, _), (3, _), (4, _), (5, _), (6, _), (7, _), (8, _)]) rfl rfl rfl rfl ?_
        refine K_iload (pc := 67) (i := 36) rfl rfl ?_
        refine K_iload (pc := 69) (i := 37) rfl rfl ?_
        first | refine K_icmp_le 93 (pc := 71) (i := 38) rfl rfl (by omega) (by omega) (fun b71 => ?_) (fun b71 => ?_) | refine K_icmp_le_an 93 (pc := 71) (i := 38) rfl rfl (fun b71 => ?_) (fun b71 => ?_)
        · skip
          refine K_inc (pc := 93) (i := 49) (q := 7) (lo' := [(0, _), (1, _), (2, _), (3, _), (4, _), (5, _), (6, _), (7, _), (8, _)]) rfl rfl rfl rfl rfl ?_
          refine K_goto 41 (pc := 96) (i := 50) rfl rfl ?_
          refine K_drop (lo' := [(0, .ref (G.2.2.2 160)), (1, .ref (G.2.2.2 3)), (2, kI x2), (3, kI x3), (4, kI v22), (5, kI v29), (6, kI x6), (7, kI (x7 + 1))]) [0, 1, 2, 3, 4, 5, 6, 7] rfl ?_
          exact ih41 x6 (x7 + 1) _ (by omega) hI fx (by first | exact ⟨by omega, by omega, fun c p q r => (kCpy_c _ _ _ _ _ _ r).trans ((k53 c p q).trans (hV41.2.2.1 c p q r)), by omega, by rw [show (x7 + 1).toNat = x7.toNat + 1 by omega]; exact ⟨x6, v62, hV41.2.2.2.2, wl62, by omega⟩⟩ | exact ⟨by omega, by omega, fun c p q r => (k53 c p q).trans (hV41.2.2.1 c p q r), by omega, by rw [show (x7 + 1).toNat = x7.toNat + 1 by omega]; exact ⟨x6, v62, hV41.2.2.2.2, wl62, by omega⟩⟩)
        · skip
          refine K_iload (pc := 74) (i := 39) rfl rfl ?_
          refine K_ist (pc := 76) (i := 40) (lo' := [(0, _), (1, _), (2, _), (3, _), (4, _), (5, _), (6, _), (7, _), (8, _)]) rfl rfl rfl rfl ?_
          refine K_aload_n (pc := 78) (i := 41) rfl rfl ?_
          refine K_getR (pc := 79) (i := 42) (j := 4) (d := 165) rfl S_160 rfl (by decide) rfl fw_Plans_24 ?_
          refine K_iconst (pc := 82) (i := 43) rfl ?_
          refine K_aload_n (pc := 83) (i := 44) rfl rfl ?_
          refine K_getR (pc := 84) (i := 45) (j := 5) (d := 166) rfl S_160 rfl (by decide) rfl fw_Plans_27 ?_
          refine K_iconst (pc := 87) (i := 46) rfl ?_
          refine K_bipush (pc := 88) (i := 47) rfl rfl ?_
          refine K_copy (pc := 90) (i := 48) rfl S_165 S_166 (by omega) (by omega) (by omega) (by omega) (by omega) (by decide) (by decide) mw_Plans_71 (Nat.le_of_ble_eq_true rfl) ⟨Nat.le_of_ble_eq_true rfl, Nat.le_of_ble_eq_true rfl⟩ ?_
          have hI := cp_free (sp := (0 : Int).toNat) (dp := (0 : Int).toNat) (n := (8 : Int).toNat) (c := 165) (c' := 166) hI (by decide +kernel) (by decide)
          have fx := Fx.cp (c0 := 165) (c1 := 166) (sp := (0 : Int).toNat) (dp := (0 : Int).toNat) (n := (8 : Int).toNat) fx (fun i => (by first | (dsimp only; omega) | omega | exact not_false))
          refine K_inc (pc := 93) (i := 49) (q := 7) (lo' := [(0, _), (1, _), (2, _), (3, _), (4, _), (5, _), (6, _), (7, _), (8, _)]) rfl rfl rfl rfl rfl ?_
          refine K_goto 41 (pc := 96) (i := 50) rfl rfl ?_
          refine K_drop (lo' := [(0, .ref (G.2.2.2 160)), (1, .ref (G.2.2.2 3)), (2, kI x2), (3, kI x3), (4, kI v22), (5, kI v29), (6, kI v62), (7, kI (x7 + 1))]) [0, 1, 2, 3, 4, 5, 6, 7] rfl ?_
          exact ih41 v62 (x7 + 1) _ (by omega) hI fx (by first | exact ⟨by omega, by omega, fun c p q r => (kCpy_c _ _ _ _ _ _ r).trans ((k53 c p q).trans (hV41.2.2.1 c p q r)), by omega, by rw [show (x7 + 1).toNat = x7.toNat + 1 by omega]; exact ⟨x6, v62, hV41.2.2.2.2, wl62, by omega⟩⟩ | exact ⟨by omega, by omega, fun c p q r => (k53 c p q).trans (hV41.2.2.1 c p q r), by omega, by rw [show (x7 + 1).toNat = x7.toNat + 1 by omega]; exact ⟨x6, v62, hV41.2.2.2.2, wl62, by omega⟩⟩)
  exact L41 _ (-100) 0 _ (Nat.lt_succ_self _) hI fx ⟨by omega, by omega, fun _ _ _ _ => rfl, by omega, rfl⟩
end
section
/-! rows of heights that fit: counted from the first kite on, and by their codes -/
def upH (H : Nat → Int) (k : Nat) (v : Int) : Nat → Int := fun i => if i = k then v else H i
theorem upH_eq (H : Nat → Int) (k : Nat) (v : Int) : upH H k v k = v := by unfold upH; rw [if_pos rfl]
theorem upH_ne (H : Nat → Int) {k i : Nat} (v : Int) (h : i ≠ k) : upH H k v i = H i := by unfold upH; rw [if_neg h]
/-- what A says of the kite i looks at the heights of i and those before it alone -/
def LocA (A : (Nat → Int) → Nat → Prop) : Prop := ∀ (H H' : Nat → Int) (k : Nat), (∀ i, i ≤ k → H i = H' i) → (A H k ↔ A H' k)
noncomputable def NR (A : (Nat → Int) → Nat → Prop) : Nat → Nat → (Nat → Int) → Int
  | 0, _, _ => 1
  | d + 1, k, H => sm (fun j => ind (A (upH H k ((j : Int) + 1)) k) * NR A d (k + 1) (upH H k ((j : Int) + 1))) 9
theorem NR_c {A : (Nat → Int) → Nat → Prop} (hA : LocA A) : ∀ (d k : Nat) (H H' : Nat → Int), (∀ i, i < k → H i = H' i) → NR A d k H = NR A d k H' := by
  intro d
  induction d with
  | zero => intro k H H' _; rfl
  | succ d ih =>
    intro k H H' e
    rw [NR, NR]
    refine sm_c (fun j _ => ?_)
    have q : ∀ i, i ≤ k → upH H k ((j : Int) + 1) i = upH H' k ((j : Int) + 1) i := fun i hi => by
      unfold upH
      by_cases p : i = k
      · rw [if_pos p, if_pos p]
      · rw [if_neg p, if_neg p]; exact e i (by omega)
    rw [ind_c (hA _ _ k q), ih (k + 1) _ _ (fun i hi => q i (by omega))]
theorem NR_nn {A : (Nat → Int) → Nat → Prop} : ∀ (d k : Nat) (H : Nat → Int), 0 ≤ NR A d k H ∧ NR A d k H ≤ 9 ^ d := by
  intro d
  induction d with
  | zero => intro k H; exact ⟨show (0 : Int) ≤ 1 by decide, show (1 : Int) ≤ 9 ^ 0 by decide⟩
  | succ d ih =>
    intro k H
    rw [NR]
    have q := sm_bd (f := fun j => ind (A (upH H k ((j : Int) + 1)) k) * NR A d (k + 1) (upH H k ((j : Int) + 1))) (c := 9 ^ d) (n := 9) (fun j _ => by
      have a := ih (k + 1) (upH H k ((j : Int) + 1))
      by_cases p : A (upH H k ((j : Int) + 1)) k
      · rw [ind_t p, Int.one_mul]; exact a
      · rw [ind_f p, Int.zero_mul]; exact ⟨Int.le_refl 0, Int.le_trans a.1 a.2⟩)
    rw [Int.pow_succ]
    exact ⟨q.1, by have := q.2; omega⟩
/-- a row for the kites k .. k + d - 1 behind H -/
def CPr (A : (Nat → Int) → Nat → Prop) (d k : Nat) (H G : Nat → Int) : Prop := (∀ i, i < k → G i = H i) ∧ ∀ i, k ≤ i → i < k + d → (1 ≤ G i ∧ G i ≤ 9) ∧ A G i
theorem CPr.step {A : (Nat → Int) → Nat → Prop} (hA : LocA A) {d k : Nat} {H G : Nat → Int} : CPr A (d + 1) k H G ↔ (1 ≤ G k ∧ G k ≤ 9) ∧ A (upH H k (G k)) k ∧ CPr A d (k + 1) (upH H k (G k)) G := by
  constructor
  · rintro ⟨a, b⟩
    have e : ∀ i, i ≤ k → G i = upH H k (G k) i := fun i hi => by
      by_cases p : i = k
      · rw [p, upH_eq]
      · rw [upH_ne _ _ p]; exact a i (by omega)
    exact ⟨(b k (by omega) (by omega)).1, (hA _ _ k e).1 (b k (by omega) (by omega)).2, fun i hi => e i (by omega), fun i p q => b i (by omega) (by omega)⟩
  · rintro ⟨a, b, c, d'⟩
    have e : ∀ i, i ≤ k → G i = upH H k (G k) i := fun i hi => c i (by omega)
    refine ⟨fun i hi => by rw [c i (by omega), upH_ne _ _ (by omega)], fun i p q => ?_⟩
    by_cases z : i = k
    · rw [z]; exact ⟨a, (hA _ _ k e).2 b⟩
    · exact d' i (by omega) (by omega)
theorem NR_pos {A : (Nat → Int) → Nat → Prop} (hA : LocA A) : ∀ (d k : Nat) (H : Nat → Int), 0 < NR A d k H ↔ ∃ G, CPr A d k H G := by
  intro d
  induction d with
  | zero =>
    intro k H
    exact ⟨fun _ => ⟨H, fun _ _ => rfl, fun i p q => absurd q (by omega)⟩, fun _ => by rw [NR]; omega⟩
  | succ d ih =>
    intro k H
    have tm : ∀ j : Nat, 0 ≤ ind (A (upH H k ((j : Int) + 1)) k) * NR A d (k + 1) (upH H k ((j : Int) + 1)) := fun j => Int.mul_nonneg (ind_bd _).1 (NR_nn d _ _).1
    rw [NR]
    constructor
    · intro hp
      apply Classical.byContradiction
      intro hno
      have z : sm (fun j => ind (A (upH H k ((j : Int) + 1)) k) * NR A d (k + 1) (upH H k ((j : Int) + 1))) 9 = sm (fun _ => 0) 9 := sm_c (fun j hj => by
        by_cases p : A (upH H k ((j : Int) + 1)) k
        · rw [ind_t p, Int.one_mul]
          have n0 := (NR_nn (A := A) d (k + 1) (upH H k ((j : Int) + 1))).1
          apply Classical.byContradiction
          intro q
          obtain ⟨G, hG⟩ := (ih (k + 1) (upH H k ((j : Int) + 1))).1 (by omega)
          have gk : G k = (j : Int) + 1 := by rw [hG.1 k (by omega), upH_eq]
          exact hno ⟨G, (CPr.step hA).2 ⟨by omega, by rw [gk]; exact p, by rw [gk]; exact hG⟩⟩
        · rw [ind_f p, Int.zero_mul])
      rw [z] at hp
      exact absurd hp (by decide)
    · rintro ⟨G, hG⟩
      obtain ⟨a, b, c⟩ := (CPr.step hA).1 hG
      have one := (ih (k + 1) (upH H k (G k))).2 ⟨G, c⟩
      have mono : ∀ m : Nat, (G k - 1).toNat < m → 0 < sm (fun j => ind (A (upH H k ((j : Int) + 1)) k) * NR A d (k + 1) (upH H k ((j : Int) + 1))) m := by
        intro m
        induction m with
        | zero => intro q; omega
        | succ m ihm =>
          intro q
          rw [sm]
          have t0 := tm m
          by_cases p : m = (G k - 1).toNat
          · have e : ((m : Nat) : Int) + 1 = G k := by omega
            have s0 := (sm_bd (f := fun j => ind (A (upH H k ((j : Int) + 1)) k) * NR A d (k + 1) (upH H k ((j : Int) + 1))) (c := 9 ^ d) (n := m) (fun j _ => ⟨tm j, by
              have a := NR_nn (A := A) d (k + 1) (upH H k ((j : Int) + 1))
              by_cases p : A (upH H k ((j : Int) + 1)) k
              · rw [ind_t p, Int.one_mul]; exact a.2
              · rw [ind_f p, Int.zero_mul]; exact Int.le_trans a.1 a.2⟩)).1
            have t1 : 0 < ind (A (upH H k ((m : Int) + 1)) k) * NR A d (k + 1) (upH H k ((m : Int) + 1)) := by rw [e, ind_t b, Int.one_mul]; exact one
            omega
          · have := ihm (by omega)
            omega
      exact mono 9 (by omega)
/-- the least of a height in the rows looked at -/
def MNr (P : (Nat → Int) → Prop) (j : Nat) (old new : Int) : Prop := new ≤ old ∧ (new = old ∨ ∃ G, P G ∧ new = G j) ∧ ∀ G, P G → new ≤ G j
def MXr (P : (Nat → Int) → Prop) (j : Nat) (old new : Int) : Prop := old ≤ new ∧ (new = old ∨ ∃ G, P G ∧ new = G j) ∧ ∀ G, P G → G j ≤ new
theorem MNr.z {P : (Nat → Int) → Prop} {j : Nat} {w : Int} (h : ∀ G, ¬ P G) : MNr P j w w := ⟨Int.le_refl _, Or.inl rfl, fun G q => absurd q (h G)⟩
theorem MXr.z {P : (Nat → Int) → Prop} {j : Nat} {w : Int} (h : ∀ G, ¬ P G) : MXr P j w w := ⟨Int.le_refl _, Or.inl rfl, fun G q => absurd q (h G)⟩
theorem MNr.cg {P P' : (Nat → Int) → Prop} {j : Nat} {o w : Int} (e : ∀ G, P G ↔ P' G) (a : MNr P j o w) : MNr P' j o w := ⟨a.1, a.2.1.elim Or.inl (fun ⟨G, p, q⟩ => Or.inr ⟨G, (e G).1 p, q⟩), fun G q => a.2.2 G ((e G).2 q)⟩
theorem MXr.cg {P P' : (Nat → Int) → Prop} {j : Nat} {o w : Int} (e : ∀ G, P G ↔ P' G) (a : MXr P j o w) : MXr P' j o w := ⟨a.1, a.2.1.elim Or.inl (fun ⟨G, p, q⟩ => Or.inr ⟨G, (e G).1 p, q⟩), fun G q => a.2.2 G ((e G).2 q)⟩
/-- rows of P1, then rows of P2 -/
theorem MNr.tr {P P1 P2 : (Nat → Int) → Prop} {j : Nat} {o m w : Int} (e : ∀ G, P G ↔ P1 G ∨ P2 G) (a : MNr P1 j o m) (b : MNr P2 j m w) : MNr P j o w := by
  refine ⟨Int.le_trans b.1 a.1, ?_, fun G q => ?_⟩
  · rcases b.2.1 with r | ⟨G, r, s⟩
    · rcases a.2.1 with t | ⟨G, t, u⟩
      · exact Or.inl (r.trans t)
      · exact Or.inr ⟨G, (e G).2 (Or.inl t), r.trans u⟩
    · exact Or.inr ⟨G, (e G).2 (Or.inr r), s⟩
  · rcases (e G).1 q with r | r
    · exact Int.le_trans b.1 (a.2.2 G r)
    · exact b.2.2 G r
theorem MXr.tr {P P1 P2 : (Nat → Int) → Prop} {j : Nat} {o m w : Int} (e : ∀ G, P G ↔ P1 G ∨ P2 G) (a : MXr P1 j o m) (b : MXr P2 j m w) : MXr P j o w := by
  refine ⟨Int.le_trans a.1 b.1, ?_, fun G q => ?_⟩
  · rcases b.2.1 with r | ⟨G, r, s⟩
    · rcases a.2.1 with t | ⟨G, t, u⟩
      · exact Or.inl (r.trans t)
      · exact Or.inr ⟨G, (e G).2 (Or.inl t), r.trans u⟩
    · exact Or.inr ⟨G, (e G).2 (Or.inr r), s⟩
  · rcases (e G).1 q with r | r
    · exact Int.le_trans (a.2.2 G r) b.1
    · exact b.2.2 G r
/-- rows that all have the height v at j -/
theorem MNr.one {P : (Nat → Int) → Prop} {j : Nat} {o v : Int} (h : ∀ G, P G → G j = v) (hex : ∃ G, P G) : MNr P j o (min o v) := by
  obtain ⟨G, hG⟩ := hex
  refine ⟨by omega, ?_, fun G' q => by rw [h G' q]; omega⟩
  by_cases p : o ≤ v
  · exact Or.inl (by omega)
  · exact Or.inr ⟨G, hG, by rw [h G hG]; omega⟩
theorem MXr.one {P : (Nat → Int) → Prop} {j : Nat} {o v : Int} (h : ∀ G, P G → G j = v) (hex : ∃ G, P G) : MXr P j o (max o v) := by
  obtain ⟨G, hG⟩ := hex
  refine ⟨by omega, ?_, fun G' q => by rw [h G' q]; omega⟩
  by_cases p : v ≤ o
  · exact Or.inl (by omega)
  · exact Or.inr ⟨G, hG, by rw [h G hG]; omega⟩
theorem MNr.uniq {P P' : (Nat → Int) → Prop} {j : Nat} {w w' : Int} (e : ∀ G, P G → ∃ G', P' G' ∧ G' j = G j) (e' : ∀ G, P' G → ∃ G', P G' ∧ G' j = G j) (r : ∀ G, P G → G j ≤ 9) (hex : ∃ G, P G) (a : MNr P j 9 w) (b : MNr P' j 9 w') : w = w' := by
  have at1 : ∃ G, P G ∧ w = G j := by
    rcases a.2.1 with q | q
    · obtain ⟨G, hG⟩ := hex
      have := a.2.2 G hG
      have := r G hG
      exact ⟨G, hG, by omega⟩
    · exact q
  obtain ⟨G, g1, g2⟩ := at1
  obtain ⟨G', g3, g4⟩ := e G g1
  have l1 := b.2.2 G' g3
  rcases b.2.1 with q | ⟨K, k1, k2⟩
  · have := r G g1
    omega
  · obtain ⟨K', k3, k4⟩ := e' K k1
    have l2 := a.2.2 K' k3
    omega
theorem MXr.uniq {P P' : (Nat → Int) → Prop} {j : Nat} {w w' : Int} (e : ∀ G, P G → ∃ G', P' G' ∧ G' j = G j) (e' : ∀ G, P' G → ∃ G', P G' ∧ G' j = G j) (r : ∀ G, P G → 1 ≤ G j) (hex : ∃ G, P G) (a : MXr P j 1 w) (b : MXr P' j 1 w') : w = w' := by
  have at1 : ∃ G, P G ∧ w = G j := by
    rcases a.2.1 with q | q
    · obtain ⟨G, hG⟩ := hex
      have := a.2.2 G hG
      have := r G hG
      exact ⟨G, hG, by omega⟩
    · exact q
  obtain ⟨G, g1, g2⟩ := at1
  obtain ⟨G', g3, g4⟩ := e G g1
  have l1 := b.2.2 G' g3
  rcases b.2.1 with q | ⟨K, k1, k2⟩
  · have := r G g1
    omega
  · obtain ⟨K', k3, k4⟩ := e' K k1
    have l2 := a.2.2 K' k3
    omega
theorem sm_zero : ∀ n : Nat, sm (fun _ => 0) n = 0 := by
  intro n
  induction n with
  | zero => rfl
  | succ n ih => rw [sm, ih]; rfl
theorem sm_swap {f : Nat → Nat → Int} {n : Nat} : ∀ {m : Nat}, sm (fun i => sm (fun j => f i j) n) m = sm (fun j => sm (fun i => f i j) m) n := by
  intro m
  induction m with
  | zero => exact (sm_zero n).symm
  | succ m ih =>
    rw [sm, ih]
    show _ = sm (fun j => sm (fun i => f i j) m + f m j) n
    rw [sm_add]
theorem sm_mul {c : Int} {f : Nat → Int} : ∀ {n : Nat}, sm (fun i => c * f i) n = c * sm f n := by
  intro n
  induction n with
  | zero => rw [sm, sm, Int.mul_zero]
  | succ n ih => rw [sm, sm, ih, Int.mul_add]
/-- a sum over all rows -/
def SA (f : (Nat → Int) → Int) : Nat → Nat → (Nat → Int) → Int
  | 0, _, H => f H
  | d + 1, k, H => sm (fun j => SA f d (k + 1) (upH H k ((j : Int) + 1))) 9
theorem SA_c {f f' : (Nat → Int) → Int} : ∀ (d k : Nat) (H : Nat → Int), (∀ G, (∀ i, i < k → G i = H i) → f G = f' G) → SA f d k H = SA f' d k H := by
  intro d
  induction d with
  | zero => intro k H h; exact h H (fun _ _ => rfl)
  | succ d ih =>
    intro k H h
    rw [SA, SA]
    refine sm_c (fun j _ => ih (k + 1) _ (fun G hG => h G (fun i hi => ?_)))
    rw [hG i (by omega), upH_ne _ _ (by omega)]
theorem SA_m {c : Int} {f : (Nat → Int) → Int} : ∀ (d k : Nat) (H : Nat → Int), SA (fun G => c * f G) d k H = c * SA f d k H := by
  intro d
  induction d with
  | zero => intro k H; rfl
  | succ d ih =>
    intro k H
    rw [SA, SA, ← sm_mul]
    exact sm_c (fun j _ => ih _ _)
theorem NR_SA {A : (Nat → Int) → Nat → Prop} (hA : LocA A) : ∀ (d k : Nat) (H : Nat → Int), NR A d k H = SA (fun G => ind (∀ i, k ≤ i → i < k + d → A G i)) d k H := by
  intro d
  induction d with
  | zero =>
    intro k H
    rw [NR, SA, ind_t (fun i p q => absurd q (by omega))]
  | succ d ih =>
    intro k H
    rw [NR, SA]
    refine sm_c (fun j _ => ?_)
    rw [ih, ← SA_m]
    refine SA_c _ _ _ (fun G hG => ?_)
    have e := hA G (upH H k ((j : Int) + 1)) k (fun i hi => hG i (by omega))
    by_cases p : A (upH H k ((j : Int) + 1)) k
    · rw [ind_t p, Int.one_mul]
      refine ind_c ⟨fun q i x y => ?_, fun q i x y => q i (by omega) (by omega)⟩
      by_cases z : i = k
      · rw [z]; exact e.2 p
      · exact q i (by omega) (by omega)
    · rw [ind_f p, Int.zero_mul, ind_f (fun q => p (e.1 (q k (by omega) (by omega))))]
theorem SA_last {f : (Nat → Int) → Int} : ∀ (d k : Nat) (H : Nat → Int), SA f (d + 1) k H = sm (fun l => SA (fun G => f (upH G (k + d) ((l : Int) + 1))) d k H) 9 := by
  intro d
  induction d with
  | zero => intro k H; rfl
  | succ d ih =>
    intro k H
    have e : SA f (d + 1 + 1) k H = sm (fun j => sm (fun l => SA (fun G => f (upH G (k + 1 + d) ((l : Int) + 1))) d (k + 1) (upH H k ((j : Int) + 1))) 9) 9 := by
      rw [SA]
      exact sm_c (fun j _ => ih (k + 1) _)
    rw [e, sm_swap]
    refine sm_c (fun l _ => ?_)
    rw [SA, show k + (d + 1) = k + 1 + d by omega]
theorem p9p : ∀ i : Nat, 0 < 9 ^ i
  | 0 => by decide
  | i + 1 => by rw [Nat.pow_succ]; have := p9p i; omega
def dgc (H : Nat → Int) (n c : Nat) : Nat → Int := fun i => if i < n then 1 + ((c / 9 ^ i % 9 : Nat) : Int) else H i
theorem dgc_s (H : Nat → Int) (n c l : Nat) (hc : c < 9 ^ n) (hl : l < 9) : dgc H (n + 1) (9 ^ n * l + c) = upH (dgc H n c) n ((l : Int) + 1) := by
  funext i
  unfold dgc upH
  by_cases e : i = n
  · subst e
    rw [if_pos (by omega), if_pos rfl]
    have q : (9 ^ i * l + c) / 9 ^ i = l := by
      rw [Nat.mul_add_div (p9p i) l c, Nat.div_eq_of_lt hc]
      omega
    rw [q]
    omega
  · rw [if_neg e]
    show _ = if i < n then 1 + ((c / 9 ^ i % 9 : Nat) : Int) else H i
    by_cases p : i < n
    · rw [if_pos (by omega), if_pos p]
      have q : 9 ^ n * l + c = 9 ^ i * (9 * (9 ^ (n - i - 1) * l)) + c := by
        have r : 9 ^ n = 9 ^ i * (9 * 9 ^ (n - i - 1)) := by
          rw [← Nat.pow_succ', ← Nat.pow_add]
          congr 1
          omega
        rw [r]
        simp only [Nat.mul_assoc]
      rw [q, Nat.mul_add_div (p9p i)]
      generalize 9 ^ (n - i - 1) * l = w
      generalize c / 9 ^ i = v
      omega
    · rw [if_neg (by omega), if_neg p]
theorem SA_codes {f : (Nat → Int) → Int} {H : Nat → Int} : ∀ n : Nat, ∀ f : (Nat → Int) → Int, SA f n 0 H = sm (fun c => f (dgc H n c)) (9 ^ n) := by
  intro n
  induction n with
  | zero =>
    intro f
    rw [SA, Nat.pow_zero]
    show f H = 0 + f (dgc H 0 0)
    rw [Int.zero_add]
    congr 1
  | succ n ih =>
    intro f
    rw [SA_last, Nat.pow_succ, sm_block]
    refine sm_c (fun l hl => ?_)
    rw [ih, Nat.zero_add]
    refine sm_c (fun c hc => ?_)
    rw [dgc_s H n c l hc hl]
theorem dgc_on (H : Nat → Int) : ∀ (n : Nat) (G : Nat → Int), (∀ i, i < n → 1 ≤ G i ∧ G i ≤ 9) → ∃ c, c < 9 ^ n ∧ ∀ i, i < n → dgc H n c i = G i := by
  intro n
  induction n with
  | zero => intro G _; exact ⟨0, by decide, fun i hi => absurd hi (by omega)⟩
  | succ n ih =>
    intro G h
    obtain ⟨c, h1, h2⟩ := ih G (fun i hi => h i (by omega))
    have hn := h n (by omega)
    refine ⟨9 ^ n * (G n - 1).toNat + c, ?_, fun i hi => ?_⟩
    · have : 9 ^ n * (G n - 1).toNat ≤ 9 ^ n * 8 := Nat.mul_le_mul_left _ (by omega)
      rw [Nat.pow_succ]
      omega
    · rw [dgc_s H n c _ h1 (by omega)]
      by_cases e : i = n
      · rw [e, upH_eq]; omega
      · rw [upH_ne _ _ e]; exact h2 i (by omega)
theorem dgc_r (H : Nat → Int) (n c i : Nat) (hi : i < n) : 1 ≤ dgc H n c i ∧ dgc H n c i ≤ 9 := by
  unfold dgc
  rw [if_pos hi]
  omega
theorem NR_cA {A A' : (Nat → Int) → Nat → Prop} : ∀ (d k : Nat) (H : Nat → Int), (∀ G i, k ≤ i → i < k + d → (A G i ↔ A' G i)) → NR A d k H = NR A' d k H := by
  intro d
  induction d with
  | zero => intro k H _; rfl
  | succ d ih =>
    intro k H e
    rw [NR, NR]
    refine sm_c (fun j _ => ?_)
    rw [ind_c (e _ k (by omega) (by omega)), ih (k + 1) _ (fun G i p q => e G i (by omega) (by omega))]
theorem CPr_cA {A A' : (Nat → Int) → Nat → Prop} {d k : Nat} {H G : Nat → Int} (e : ∀ G i, k ≤ i → i < k + d → (A G i ↔ A' G i)) : CPr A d k H G ↔ CPr A' d k H G := by
  constructor
  · rintro ⟨a, b⟩
    exact ⟨a, fun i p q => ⟨(b i p q).1, (e G i p q).1 (b i p q).2⟩⟩
  · rintro ⟨a, b⟩
    exact ⟨a, fun i p q => ⟨(b i p q).1, (e G i p q).2 (b i p q).2⟩⟩
/-- what was seen of the kite k and those before it is so, with the heights H -/
def agH (h : kH) (H : Nat → Int) (k : Nat) : Prop := ∀ s : Nat, (s : Int) < h 169 6 → h 171 s = k → (crC (h 175 (h 170 s).toNat) (h 176 (h 170 s).toNat) (H (h 170 s).toNat) (h 175 k) (h 176 k) (H k) ↔ h 172 s = 1)
def SeS (h : kH) : Prop := ∀ s : Nat, (s : Int) < h 169 6 → h 170 s ≤ h 171 s
theorem agH_loc {h : kH} (hS : SeS h) : LocA (agH h) := fun H H' k e => by
  have key : ∀ s : Nat, (s : Int) < h 169 6 → h 171 s = k → (crC (h 175 (h 170 s).toNat) (h 176 (h 170 s).toNat) (H (h 170 s).toNat) (h 175 k) (h 176 k) (H k) ↔ crC (h 175 (h 170 s).toNat) (h 176 (h 170 s).toNat) (H' (h 170 s).toNat) (h 175 k) (h 176 k) (H' k)) := fun s hs hk => by
    have := hS s hs
    rw [e (h 170 s).toNat (by omega), e k (Nat.le_refl k)]
  constructor
  · intro a s hs hk
    rw [← key s hs hk]; exact a s hs hk
  · intro a s hs hk
    rw [key s hs hk]; exact a s hs hk
theorem agH_of {h h' : kH} (e : ∀ c, 169 ≤ c → c ≤ 176 → h' c = h c) : agH h' = agH h := by
  funext H k
  unfold agH
  rw [e 169 (by omega) (by omega), e 170 (by omega) (by omega), e 171 (by omega) (by omega), e 172 (by omega) (by omega), e 175 (by omega) (by omega), e 176 (by omega) (by omega)]
theorem SeS_of {h h' : kH} (e : ∀ c, 169 ≤ c → c ≤ 176 → h' c = h c) (a : SeS h) : SeS h' := by
  unfold SeS
  rw [e 169 (by omega) (by omega), e 170 (by omega) (by omega), e 171 (by omega) (by omega)]
  exact a
/-- rows are being counted: the heights below x4 of the kite k are looked at -/
def RI (h ha : kH) (k d : Nat) (x3 x4 : Int) : Prop :=
  x3 = sm (fun j => ind (agH h (upH (h 177) k ((j : Int) + 1)) k) * NR (agH h) d (k + 1) (upH (h 177) k ((j : Int) + 1))) (x4 - 1).toNat ∧ (∀ i, i < k → ha 177 i = h 177 i) ∧ (∀ j, j < k → ha 180 j = h 180 j ∧ ha 181 j = h 181 j) ∧
  ∀ j, k ≤ j → j < k + d + 1 → MNr (fun G => CPr (agH h) (d + 1) k (h 177) G ∧ G k < x4) j (h 180 j) (ha 180 j) ∧ MXr (fun G => CPr (agH h) (d + 1) k (h 177) G ∧ G k < x4) j (h 181 j) (ha 181 j)
theorem RI.z {h : kH} {k d : Nat} : RI h h k d 0 1 := by
  refine ⟨rfl, fun _ _ => rfl, fun _ _ => ⟨rfl, rfl⟩, fun j _ _ => ?_⟩
  have no : ∀ G, ¬ (CPr (agH h) (d + 1) k (h 177) G ∧ G k < 1) := fun G q => by
    have := (q.1.2 k (by omega) (by omega)).1
    omega
  exact ⟨MNr.z no, MXr.z no⟩
section Ris
variable {h ha hb hc : kH} {k d : Nat} {x3 x4 m : Int}
theorem RI.split (hS : SeS h) (h4 : 1 ≤ x4 ∧ x4 ≤ 9) (G : Nat → Int) : (CPr (agH h) (d + 1) k (h 177) G ∧ G k < x4 + 1) ↔ (CPr (agH h) (d + 1) k (h 177) G ∧ G k < x4) ∨ (agH h (upH (h 177) k x4) k ∧ CPr (agH h) d (k + 1) (upH (h 177) k x4) G) := by
  constructor
  · rintro ⟨a, b⟩
    by_cases e : G k = x4
    · obtain ⟨-, q, r⟩ := (CPr.step (agH_loc hS)).1 a
      rw [e] at q r
      exact Or.inr ⟨q, r⟩
    · exact Or.inl ⟨a, by omega⟩
  · rintro (⟨a, b⟩ | ⟨a, b⟩)
    · exact ⟨a, by omega⟩
    · have e : G k = x4 := by rw [b.1 k (by omega), upH_eq]
      refine ⟨(CPr.step (agH_loc hS)).2 ⟨by omega, by rw [e]; exact a, by rw [e]; exact b⟩, by omega⟩
theorem RI.sum (a : RI h ha k d x3 x4) (h4 : 1 ≤ x4 ∧ x4 ≤ 9) (hm : m = ind (agH h (upH (h 177) k x4) k) * NR (agH h) d (k + 1) (upH (h 177) k x4)) : x3 + m = sm (fun j => ind (agH h (upH (h 177) k ((j : Int) + 1)) k) * NR (agH h) d (k + 1) (upH (h 177) k ((j : Int) + 1))) (x4 + 1 - 1).toNat := by
  rw [show (x4 + 1 - 1).toNat = (x4 - 1).toNat + 1 by omega, sm, ← a.1, hm, show (((x4 - 1).toNat : Nat) : Int) + 1 = x4 by omega]
/-- the rows with the height x4, as the deeper call left it -/
def RJ (h ha hb : kH) (k d : Nat) (x4 : Int) : Prop := (∀ i, i < k → hb 177 i = h 177 i) ∧ (∀ j, j < k + 1 → hb 180 j = ha 180 j ∧ hb 181 j = ha 181 j) ∧
  ∀ j, k + 1 ≤ j → j < k + d + 1 → MNr (fun G => agH h (upH (h 177) k x4) k ∧ CPr (agH h) d (k + 1) (upH (h 177) k x4) G) j (ha 180 j) (hb 180 j) ∧ MXr (fun G => agH h (upH (h 177) k x4) k ∧ CPr (agH h) d (k + 1) (upH (h 177) k x4) G) j (ha 181 j) (hb 181 j)
theorem RI.no (hS : SeS h) (a : RI h ha k d x3 x4) (h4 : 1 ≤ x4 ∧ x4 ≤ 9) (b : RJ h ha hb k d x4) (hm : m = ind (agH h (upH (h 177) k x4) k) * NR (agH h) d (k + 1) (upH (h 177) k x4)) (h0 : m ≤ 0) : RI h hb k d x3 (x4 + 1) := by
  have s := a.sum h4 hm
  have nn : 0 ≤ m := by rw [hm]; exact Int.mul_nonneg (ind_bd _).1 (NR_nn _ _ _).1
  have em : m = 0 := by omega
  rw [em, Int.add_zero] at s
  have no : ∀ G, ¬ (agH h (upH (h 177) k x4) k ∧ CPr (agH h) d (k + 1) (upH (h 177) k x4) G) := fun G q => by
    have p := (NR_pos (agH_loc hS) d (k + 1) (upH (h 177) k x4)).2 ⟨G, q.2⟩
    rw [ind_t q.1, Int.one_mul] at hm
    omega
  obtain ⟨-, a2, a3, a4⟩ := a
  obtain ⟨b1, b2, b3⟩ := b
  refine ⟨s, b1, fun j hj => by rw [(b2 j (by omega)).1, (b2 j (by omega)).2]; exact a3 j hj, fun j p q => ?_⟩
  have c1 : MNr (fun G => agH h (upH (h 177) k x4) k ∧ CPr (agH h) d (k + 1) (upH (h 177) k x4) G) j (ha 180 j) (hb 180 j) ∧ MXr (fun G => agH h (upH (h 177) k x4) k ∧ CPr (agH h) d (k + 1) (upH (h 177) k x4) G) j (ha 181 j) (hb 181 j) := by
    by_cases e : j = k
    · rw [(b2 j (by omega)).1, (b2 j (by omega)).2]; exact ⟨MNr.z no, MXr.z no⟩
    · exact b3 j (by omega) q
  exact ⟨(a4 j p q).1.tr (RI.split hS h4) c1.1, (a4 j p q).2.tr (RI.split hS h4) c1.2⟩
theorem RI.yes (hS : SeS h) (a : RI h ha k d x3 x4) (h4 : 1 ≤ x4 ∧ x4 ≤ 9) (b : RJ h ha hb k d x4) (hm : m = ind (agH h (upH (h 177) k x4) k) * NR (agH h) d (k + 1) (upH (h 177) k x4)) (h0 : 0 < m) (e7 : hc 177 = hb 177) (e8 : ∀ j, hc 180 j = if j = k then min (hb 180 k) x4 else hb 180 j) (e9 : ∀ j, hc 181 j = if j = k then max (hb 181 k) x4 else hb 181 j) : RI h hc k d (x3 + m) (x4 + 1) := by
  have s := a.sum h4 hm
  have ex : ∃ G, agH h (upH (h 177) k x4) k ∧ CPr (agH h) d (k + 1) (upH (h 177) k x4) G := by
    by_cases p : agH h (upH (h 177) k x4) k
    · rw [ind_t p, Int.one_mul] at hm
      obtain ⟨G, hG⟩ := (NR_pos (agH_loc hS) d (k + 1) (upH (h 177) k x4)).1 (by omega)
      exact ⟨G, p, hG⟩
    · rw [ind_f p, Int.zero_mul] at hm
      omega
  obtain ⟨-, a2, a3, a4⟩ := a
  obtain ⟨b1, b2, b3⟩ := b
  refine ⟨s, fun i hi => by rw [e7]; exact b1 i hi, fun j hj => by rw [e8, e9, if_neg (by omega), if_neg (by omega), (b2 j (by omega)).1, (b2 j (by omega)).2]; exact a3 j hj, fun j p q => ?_⟩
  have c1 : MNr (fun G => agH h (upH (h 177) k x4) k ∧ CPr (agH h) d (k + 1) (upH (h 177) k x4) G) j (ha 180 j) (hc 180 j) ∧ MXr (fun G => agH h (upH (h 177) k x4) k ∧ CPr (agH h) d (k + 1) (upH (h 177) k x4) G) j (ha 181 j) (hc 181 j) := by
    by_cases e : j = k
    · subst e
      rw [e8, e9, if_pos rfl, if_pos rfl, (b2 j (by omega)).1, (b2 j (by omega)).2]
      have gk : ∀ G, (agH h (upH (h 177) j x4) j ∧ CPr (agH h) d (j + 1) (upH (h 177) j x4) G) → G j = x4 := fun G r => by rw [r.2.1 j (by omega), upH_eq]
      exact ⟨MNr.one gk ex, MXr.one gk ex⟩
    · rw [e8, e9, if_neg e, if_neg e]; exact b3 j (by omega) q
  exact ⟨(a4 j p q).1.tr (RI.split hS h4) c1.1, (a4 j p q).2.tr (RI.split hS h4) c1.2⟩
end Ris
/-- what rows from the kite k on leave -/
def RWo (h h' : kH) (k d : Nat) (z : Int) : Prop := z = NR (agH h) d k (h 177) ∧ (∀ i, i < k → h' 177 i = h 177 i) ∧ (∀ j, j < k → h' 180 j = h 180 j ∧ h' 181 j = h 181 j) ∧
  ∀ j, k ≤ j → j < k + d → MNr (CPr (agH h) d k (h 177)) j (h 180 j) (h' 180 j) ∧ MXr (CPr (agH h) d k (h 177)) j (h 181 j) (h' 181 j)
theorem RWo.z {h : kH} {k : Nat} : RWo h h k 0 1 := ⟨rfl, fun _ _ => rfl, fun _ _ => ⟨rfl, rfl⟩, fun j p q => absurd q (by omega)⟩
theorem RI.end {h ha : kH} {k d : Nat} {x3 x4 : Int} (a : RI h ha k d x3 x4) (h10 : x4 = 10) : RWo h ha k (d + 1) x3 := by
  obtain ⟨a1, a2, a3, a4⟩ := a
  subst h10
  have e : ∀ G, (CPr (agH h) (d + 1) k (h 177) G ∧ G k < 10) ↔ CPr (agH h) (d + 1) k (h 177) G := fun G => ⟨fun q => q.1, fun q => ⟨q, by have := (q.2 k (by omega) (by omega)).1; omega⟩⟩
  exact ⟨a1, a2, a3, fun j p q => ⟨(a4 j p (by omega)).1.cg e, (a4 j p (by omega)).2.cg e⟩⟩
/-- from the deeper call's words -/
theorem RJ.of {h ha h34 hb : kH} {k d : Nat} {x4 z : Int} (hS : SeS h) (e : ∀ c, 169 ≤ c → c ≤ 176 → h34 c = h c) (e7 : ∀ i, i ≤ k → h34 177 i = upH (h 177) k x4 i) (e8 : h34 180 = ha 180) (e9 : h34 181 = ha 181) (hag : agH h (upH (h 177) k x4) k) (r : RWo h34 hb (k + 1) d z) : RJ h ha hb k d x4 ∧ z = ind (agH h (upH (h 177) k x4) k) * NR (agH h) d (k + 1) (upH (h 177) k x4) := by
  obtain ⟨r1, r2, r3, r4⟩ := r
  rw [agH_of e] at r1 r4
  have n1 : NR (agH h) d (k + 1) (h34 177) = NR (agH h) d (k + 1) (upH (h 177) k x4) := NR_c (agH_loc hS) d (k + 1) _ _ (fun i hi => e7 i (by omega))
  have cp : ∀ G, CPr (agH h) d (k + 1) (h34 177) G ↔ agH h (upH (h 177) k x4) k ∧ CPr (agH h) d (k + 1) (upH (h 177) k x4) G := fun G => by
    constructor
    · rintro ⟨p, q⟩
      exact ⟨hag, fun i hi => (p i hi).trans (e7 i (by omega)), q⟩
    · rintro ⟨-, p, q⟩
      exact ⟨fun i hi => (p i hi).trans (e7 i (by omega)).symm, q⟩
  refine ⟨⟨fun i hi => by rw [r2 i (by omega), e7 i (by omega), upH_ne _ _ (by omega)], fun j hj => by rw [← e8, ← e9]; exact r3 j (by omega), fun j p q => ?_⟩, by rw [ind_t hag, Int.one_mul, ← n1]; exact r1⟩
  have t := r4 j (by omega) (by omega)
  rw [e8, e9] at t
  exact ⟨t.1.cg cp, t.2.cg cp⟩
theorem RJ.none {h ha hb : kH} {k d : Nat} {x4 : Int} (e7 : ∀ i, i < k → hb 177 i = h 177 i) (e8 : hb 180 = ha 180) (e9 : hb 181 = ha 181) (hag : ¬ agH h (upH (h 177) k x4) k) : RJ h ha hb k d x4 ∧ (0 : Int) = ind (agH h (upH (h 177) k x4) k) * NR (agH h) d (k + 1) (upH (h 177) k x4) := by
  have no : ∀ G, ¬ (agH h (upH (h 177) k x4) k ∧ CPr (agH h) d (k + 1) (upH (h 177) k x4) G) := fun G q => hag q.1
  refine ⟨⟨e7, fun j _ => by rw [e8, e9]; exact ⟨rfl, rfl⟩, fun j _ _ => by rw [e8, e9]; exact ⟨MNr.z no, MXr.z no⟩⟩, by rw [ind_f hag, Int.zero_mul]⟩
end
section
theorem kU4 {h : kH} {n : Nat} {a b c w : Int} : (∀ j, kU (kU (kU (kU h 170 n a) 171 n b) 172 n c) 169 6 w 170 j = if j = n then a else h 170 j) ∧ (∀ j, kU (kU (kU (kU h 170 n a) 171 n b) 172 n c) 169 6 w 171 j = if j = n then b else h 171 j) ∧ (∀ j, kU (kU (kU (kU h 170 n a) 171 n b) 172 n c) 169 6 w 172 j = if j = n then c else h 172 j) ∧ kU (kU (kU (kU h 170 n a) 171 n b) 172 n c) 169 6 w 169 6 = w := by
  refine ⟨fun j => ?_, fun j => ?_, fun j => ?_, ?_⟩ <;> simp [kU]
set_option maxHeartbeats 4000000 in
set_option maxRecDepth 100000 in
theorem c_Seen_add (G : kG) {g : kGh} {h : kH} {x1 : Int} {x2 : Int} {x3 : Int} (s1 : 0 ≤ x1 ∧ x1 ≤ 7) (s2 : 0 ≤ x2 ∧ x2 ≤ 7) (s3 : x3 = 0 ∨ x3 = 1) (hI : Gd g h) : Ctr G y_Seen_add X_Seen_add 2 [.ref (G.2.2.2 169), kI x1, kI x2, kI x3] h (kQi (fun z h' => Fx (fun c i => 169 ≤ c ∧ c ≤ 172) h h' ∧ (Gd g h' ∧ ((z = 0 ∧ 8 ≤ h 169 6 ∧ h' = h) ∨ (z = 1 ∧ h 169 6 < 8 ∧ h' 169 6 = h 169 6 + 1 ∧ (∀ j, h' 170 j = if j = (h 169 6).toNat then min x1 x2 else h 170 j) ∧ (∀ j, h' 171 j = if j = (h 169 6).toNat then max x1 x2 else h 171 j) ∧ ∀ j, h' 172 j = if j = (h 169 6).toNat then x3 else h 172 j))))) := by
  refine Ctr.ofK (by decide) rfl T_Seen_add (Nat.le_of_ble_eq_true rfl) (lo := [(0, .ref (G.2.2.2 169)), (1, kI x1), (2, kI x2), (3, kI x3)]) rfl ?_
  have fx : Fx (fun c i => 169 ≤ c ∧ c ≤ 172) h h := Fx.rf
  refine K_aload_n (pc := 0) (i := 0) rfl rfl ?_
  refine K_getI (pc := 1) (i := 1) (j := 6) rfl S_169 rfl (by decide) rfl fw_Seen_35 ?_
  refine K_nm (fun v1 e1 => ?_)
  have r1 := rd_seensize hI
  rw [← e1] at r1
  refine K_bipush (pc := 4) (i := 2) rfl rfl ?_
  first | refine K_icmp_lt 11 (pc := 6) (i := 3) rfl rfl (by omega) (by omega) (fun b6 => ?_) (fun b6 => ?_) | refine K_icmp_lt_an 11 (pc := 6) (i := 3) rfl rfl (fun b6 => ?_) (fun b6 => ?_)
  · skip
    refine K_aload_n (pc := 11) (i := 6) rfl rfl ?_
    refine K_getR (pc := 12) (i := 7) (j := 0) (d := 170) rfl S_169 rfl (by decide) rfl fw_Seen_9 ?_
    refine K_aload_n (pc := 15) (i := 8) rfl rfl ?_
    refine K_getI (pc := 16) (i := 9) (j := 6) rfl S_169 rfl (by decide) rfl fw_Seen_35 ?_
    refine K_nm (fun v16 e16 => ?_)
    have r16 := rd_seensize hI
    rw [← e16] at r16
    have t16 : v16 = v1 := by rw [e16, e1]; try simp [kU]
    refine K_iload_n (pc := 19) (i := 10) rfl rfl ?_
    refine K_iload_n (pc := 20) (i := 11) rfl rfl ?_
    refine K_mmin (pc := 21) (i := 12) rfl mw_Seen_39 (by omega) (by omega) (Nat.le_of_ble_eq_true rfl) ⟨Nat.le_of_ble_eq_true rfl, Nat.le_of_ble_eq_true rfl⟩ ⟨Nat.le_of_ble_eq_true rfl, Nat.le_of_ble_eq_true rfl⟩ ?_
    refine K_nm (fun v21 e21 => ?_)
    refine K_iast (pc := 24) (i := 13) rfl S_170 (by omega) (by omega) (by decide) ?_
    have hI := st_seenkite hI (i := (v16).toNat) (v := v21) (by omega)
    have fx := Fx.st (c := 170) (i := (v16).toNat) (v := v21) fx (by first | (dsimp only; omega) | omega | exact not_false)
    refine K_aload_n (pc := 25) (i := 14) rfl rfl ?_
    refine K_getR (pc := 26) (i := 15) (j := 1) (d := 171) rfl S_169 rfl (by decide) rfl fw_Seen_15 ?_
    refine K_aload_n (pc := 29) (i := 16) rfl rfl ?_
    refine K_getI (pc := 30) (i := 17) (j := 6) rfl S_169 rfl (by decide) rfl fw_Seen_35 ?_
    refine K_nm (fun v30 e30 => ?_)
    have r30 := rd_seensize hI
    rw [← e30] at r30
    have t30 : v30 = v1 := by rw [e30, e1]; try simp [kU]
    refine K_iload_n (pc := 33) (i := 18) rfl rfl ?_
    refine K_iload_n (pc := 34) (i := 19) rfl rfl ?_
    refine K_mmax (pc := 35) (i := 20) rfl mw_Seen_45 (by omega) (by omega) (Nat.le_of_ble_eq_true rfl) ⟨Nat.le_of_ble_eq_true rfl, Nat.le_of_ble_eq_true rfl⟩ ⟨Nat.le_of_ble_eq_true rfl, Nat.le_of_ble_eq_true rfl⟩ ?_
    refine K_nm (fun v35 e35 => ?_)
    refine K_iast (pc := 38) (i := 21) rfl S_171 (by omega) (by omega) (by decide) ?_
    have hI := st_seenother hI (i := (v30).toNat) (v := v35) (by omega)
    have fx := Fx.st (c := 171) (i := (v30).toNat) (v := v35) fx (by first | (dsimp only; omega) | omega | exact not_false)
    refine K_aload_n (pc := 39) (i := 22) rfl rfl ?_
    refine K_getR (pc := 40) (i := 23) (j := 2) (d := 172) rfl S_169 rfl (by decide) rfl fw_Seen_18 ?_
    refine K_aload_n (pc := 43) (i := 24) rfl rfl ?_
    refine K_getI (pc := 44) (i := 25) (j := 6) rfl S_169 rfl (by decide) rfl fw_Seen_35 ?_
    refine K_nm (fun v44 e44 => ?_)
    have r44 := rd_seensize hI
    rw [← e44] at r44
    have t44 : v44 = v1 := by rw [e44, e1]; try simp [kU]
    refine K_iload_n (pc := 47) (i := 26) rfl rfl ?_
    refine K_bast (pc := 48) (i := 27) rfl S_172 (by omega) (by omega) (by decide) (by omega) ?_
    have hI := st_crossing hI (i := (v44).toNat) (v := x3) (by omega)
    have fx := Fx.st (c := 172) (i := (v44).toNat) (v := x3) fx (by first | (dsimp only; omega) | omega | exact not_false)
    refine K_aload_n (pc := 49) (i := 28) rfl rfl ?_
    refine K_dup (pc := 50) (i := 29) rfl rfl ?_
    refine K_getI (pc := 51) (i := 30) (j := 6) rfl S_169 rfl (by decide) rfl fw_Seen_35 ?_
    refine K_nm (fun v51 e51 => ?_)
    have r51 := rd_seensize hI
    rw [← e51] at r51
    have t51 : v51 = v1 := by rw [e51, e1]; try simp [kU]
    refine K_iconst (pc := 54) (i := 31) rfl ?_
    refine K_iadd (pc := 55) (i := 32) rfl ?_
    refine K_putI (pc := 56) (i := 33) (j := 6) rfl S_169 rfl (by decide) rfl rfl rfl fw_Seen_35 ?_
    have hI := st_seensize hI (v := v51 + 1) (by omega)
    have fx := Fx.st (c := 169) (i := 6) (v := v51 + 1) fx (by first | (dsimp only; omega) | omega | exact not_false)
    refine K_iconst (pc := 59) (i := 34) rfl ?_
    exact K_retZ (pc := 60) (i := 35) rfl rfl (by omega) ⟨fx, ⟨hI, Or.inr ⟨rfl, by omega, by rw [t16, t30, t44, t51, ← e1]; exact kU4.2.2.2, by rw [t16, t30, t44, t51, ← e1, ← e21]; exact kU4.1, by rw [t16, t30, t44, t51, ← e1, ← e35]; exact kU4.2.1, by rw [t16, t30, t44, t51, ← e1]; exact kU4.2.2.1⟩⟩⟩
  · skip
    refine K_iconst (pc := 9) (i := 4) rfl ?_
    exact K_retZ (pc := 10) (i := 5) rfl rfl (by omega) ⟨fx, ⟨hI, Or.inl ⟨rfl, by omega, rfl⟩⟩⟩
def agN (h : kH) (k n : Int) : Prop := ∀ s : Nat, (s : Int) < n → h 171 s = k → (mt h 173 (h 170 s).toNat k.toNat ↔ h 172 s = 1)
theorem agN.z {h : kH} {k : Int} : agN h k 0 := fun s q => absurd q (by omega)
theorem agN.st {h : kH} {k n : Int} (a : agN h k n) (h0 : 0 ≤ n) (e : h 171 n.toNat = k → (mt h 173 (h 170 n.toNat).toNat k.toNat ↔ h 172 n.toNat = 1)) : agN h k (n + 1) := fun s q r => by
  by_cases p : s = n.toNat
  · rw [p] at r ⊢; exact e r
  · exact a s (by omega) r
theorem agN.end {h : kH} {k : Int} (hk : 0 ≤ k) : agN h k (h 169 6) ↔ agH h (h 177) k.toNat := by
  unfold agN agH
  rw [show ((k.toNat : Nat) : Int) = k by omega]
  exact Iff.rfl
theorem agN.bad {h : kH} {k n : Int} (h0 : 0 ≤ n ∧ n < h 169 6) (e : h 171 n.toNat = k) (b : ¬ (mt h 173 (h 170 n.toNat).toNat k.toNat ↔ h 172 n.toNat = 1)) : ¬ agN h k (h 169 6) := fun a => b (a n.toNat (by omega) e)
set_option maxHeartbeats 4000000 in
set_option maxRecDepth 100000 in
theorem c_Seen_agrees (G : kG) {g : kGh} {h : kH} {x1 : Int} (s1 : 0 ≤ x1 ∧ x1 ≤ 7) (hI : Gd g h) : Ctr G y_Seen_agrees X_Seen_agrees 4 [.ref (G.2.2.2 169), kI x1] h (kQi (fun z h' => h' = h ∧ ((z = 1 ∧ agH h (h 177) x1.toNat) ∨ (z = 0 ∧ ¬ agH h (h 177) x1.toNat)))) := by
  refine Ctr.ofK (by decide) rfl T_Seen_agrees (Nat.le_of_ble_eq_true rfl) (lo := [(0, .ref (G.2.2.2 169)), (1, kI x1)]) rfl ?_
  refine K_iconst (pc := 0) (i := 0) rfl ?_
  refine K_ist_n (pc := 1) (i := 1) (lo' := [(0, _), (1, _), (2, _)]) rfl rfl rfl rfl ?_
  have L2 : ∀ (n : Nat) (x2 : Int), (8 - x2).toNat < n → ((0 ≤ x2 ∧ x2 ≤ 8) ∧ agN h x1 x2) → K X_Seen_agrees G (kZm G 4 (kQi (fun z h' => h' = h ∧ ((z = 1 ∧ agH h (h 177) x1.toNat) ∨ (z = 0 ∧ ¬ agH h (h 177) x1.toNat))))) 2 [(0, .ref (G.2.2.2 169)), (1, kI x1), (2, kI x2)] [] h := by
    intro n
    induction n with
    | zero => intro x2 hm; exact absurd hm (Nat.not_lt_zero _)
    | succ n ih2 =>
      intro x2 hm2 hV2
      refine K_iload_n (pc := 2) (i := 2) rfl rfl ?_
      refine K_aload_n (pc := 3) (i := 3) rfl rfl ?_
      refine K_getI (pc := 4) (i := 4) (j := 6) rfl S_169 rfl (by decide) rfl fw_Seen_35 ?_
      refine K_nm (fun v4 e4 => ?_)
      have r4 := rd_seensize hI
      rw [← e4] at r4
      first | refine K_icmp_ge 51 (pc := 7) (i := 5) rfl rfl (by omega) (by omega) (fun b7 => ?_) (fun b7 => ?_) | refine K_icmp_ge_an 51 (pc := 7) (i := 5) rfl rfl (fun b7 => ?_) (fun b7 => ?_)
      · skip
        refine K_iconst (pc := 51) (i := 29) rfl ?_
        exact K_retZ (pc := 52) (i := 30) rfl rfl (by omega) ⟨rfl, Or.inl ⟨rfl, (agN.end (by omega)).1 (by have q := hV2.2; intro s hs; exact q s (by omega))⟩⟩
      · skip
        refine K_aload_n (pc := 10) (i := 6) rfl rfl ?_
        refine K_getR (pc := 11) (i := 7) (j := 1) (d := 171) rfl S_169 rfl (by decide) rfl fw_Seen_15 ?_
        refine K_iload_n (pc := 14) (i := 8) rfl rfl ?_
        refine K_iald (pc := 15) (i := 9) rfl S_171 (by omega) (by omega) (by decide) ?_
        refine K_nm (fun v15 e15 => ?_)
        have r15 := rd_seenother hI (x2).toNat
        rw [← e15] at r15
        refine K_iload_n (pc := 16) (i := 10) rfl rfl ?_
        first | refine K_icmp_ne 45 (pc := 17) (i := 11) rfl rfl (by omega) (by omega) (fun b17 => ?_) (fun b17 => ?_) | refine K_icmp_ne_an 45 (pc := 17) (i := 11) rfl rfl (fun b17 => ?_) (fun b17 => ?_)
        · skip
          refine K_inc (pc := 45) (i := 27) (q := 2) (lo' := [(0, _), (1, _), (2, _)]) rfl rfl rfl rfl rfl ?_
          refine K_goto 2 (pc := 48) (i := 28) rfl rfl ?_
          exact ih2 (x2 + 1) (by omega) (by first | exact ⟨by omega, hV2.2.st (by omega) (fun q => absurd q (by rw [← e15]; omega))⟩ | exact ⟨by omega, hV2.2.st (by omega) (fun _ => by rw [← e39]; exact ⟨fun q => r31.elim (fun e => by omega) (fun e => absurd q e.2), fun q => r31.elim (fun e => e.2) (fun e => absurd e.1 (by omega))⟩)⟩)
        · skip
          refine K_aload_n (pc := 20) (i := 12) rfl rfl ?_
          refine K_getR (pc := 21) (i := 13) (j := 3) (d := 173) rfl S_169 rfl (by decide) rfl fw_Seen_25 ?_
          refine K_aload_n (pc := 24) (i := 14) rfl rfl ?_
          refine K_getR (pc := 25) (i := 15) (j := 0) (d := 170) rfl S_169 rfl (by decide) rfl fw_Seen_9 ?_
          refine K_iload_n (pc := 28) (i := 16) rfl rfl ?_
          refine K_iald (pc := 29) (i := 17) rfl S_170 (by omega) (by omega) (by decide) ?_
          refine K_nm (fun v29 e29 => ?_)
          have r29 := rd_seenkite hI (x2).toNat
          rw [← e29] at r29
          refine K_iload_n (pc := 30) (i := 18) rfl rfl ?_
          refine K_cVI (pc := 31) (i := 19) rfl (c_Fleet_meet G (f := 173) (hf := fl173) (x1 := v29) (x2 := x1) (hI := hI) (s1 := by omega) (s2 := by omega)) (S_Fl fl173) rfl (lv_Seen_66 rfl) rfl rfl rfl rfl rfl (fun v31 h31 q31 => ?_)
          obtain ⟨eh, r31⟩ := q31
          rw [eh]; clear eh
          have k31 : v31 = 0 ∨ v31 = 1 := r31.elim (fun q => Or.inr q.1) (fun q => Or.inl q.1)
          rw [e29] at r31
          refine K_aload_n (pc := 34) (i := 20) rfl rfl ?_
          refine K_getR (pc := 35) (i := 21) (j := 2) (d := 172) rfl S_169 rfl (by decide) rfl fw_Seen_18 ?_
          refine K_iload_n (pc := 38) (i := 22) rfl rfl ?_
          refine K_bald (pc := 39) (i := 23) rfl S_172 (by omega) (by omega) (by decide) ?_
          refine K_nm (fun v39 e39 => ?_)
          have r39 := rd_crossing hI (x2).toNat
          rw [← e39] at r39
          first | refine K_icmp_eq 45 (pc := 40) (i := 24) rfl rfl (by omega) (by omega) (fun b40 => ?_) (fun b40 => ?_) | refine K_icmp_eq_an 45 (pc := 40) (i := 24) rfl rfl (fun b40 => ?_) (fun b40 => ?_)
          · skip
            refine K_inc (pc := 45) (i := 27) (q := 2) (lo' := [(0, _), (1, _), (2, _)]) rfl rfl rfl rfl rfl ?_
            refine K_goto 2 (pc := 48) (i := 28) rfl rfl ?_
            exact ih2 (x2 + 1) (by omega) (by first | exact ⟨by omega, hV2.2.st (by omega) (fun q => absurd q (by rw [← e15]; omega))⟩ | exact ⟨by omega, hV2.2.st (by omega) (fun _ => by rw [← e39]; exact ⟨fun q => r31.elim (fun e => by omega) (fun e => absurd q e.2), fun q => r31.elim (fun e => e.2) (fun e => absurd e.1 (by omega))⟩)⟩)
          · skip
            refine K_iconst (pc := 43) (i := 25) rfl ?_
            exact K_retZ (pc := 44) (i := 26) rfl rfl (by omega) ⟨rfl, Or.inr ⟨rfl, fun q => agN.bad (n := x2) (by omega) (by rw [← e15]; omega) (by rw [← e39]; exact fun t => r31.elim (fun e => absurd (t.1 e.2) (by omega)) (fun e => e.2 (t.2 (by omega)))) ((agN.end (by omega)).2 q)⟩⟩
  exact L2 _ 0 (Nat.lt_succ_self _) ⟨by omega, agN.z⟩
end
section
theorem NR_b {A : (Nat → Int) → Nat → Prop} {d k : Nat} {H : Nat → Int} (hd : d ≤ 4) : NR A d k H ≤ 6561 := by
  have q := (NR_nn (A := A) d k H).2
  rcases (show d = 0 ∨ d = 1 ∨ d = 2 ∨ d = 3 ∨ d = 4 by omega) with rfl | rfl | rfl | rfl | rfl <;> (
    have e : (9 : Int) ^ 0 = 1 ∧ (9 : Int) ^ 1 = 9 ∧ (9 : Int) ^ 2 = 81 ∧ (9 : Int) ^ 3 = 729 ∧ (9 : Int) ^ 4 = 6561 := by decide
    omega)
theorem RWo.bd {h h' : kH} {k d : Nat} {z : Int} (a : RWo h h' k d z) (hd : d ≤ 4) : 0 ≤ z ∧ z ≤ 6561 := by
  rw [a.1]; exact ⟨(NR_nn _ _ _).1, NR_b hd⟩
set_option maxHeartbeats 4000000 in
set_option maxRecDepth 100000 in
theorem c_Seen_rowsFrom4 (G : kG) {g : kGh} {h : kH}  (hS : SeS h){x1 : Int} {x2 : Int} (s1 : 4 ≤ x1 ∧ x1 ≤ 4) (s2 : 0 ≤ x2 ∧ x2 ≤ 4) (hI : Gd g h) : Ctr G y_Seen_rowsFrom X_Seen_rowsFrom 6 [.ref (G.2.2.2 169), kI x1, kI x2] h (kQi (fun z h' => Fx (fun c i => c = 177 ∨ c = 180 ∨ c = 181) h h' ∧ (Gd g h' ∧ (0 ≤ z ∧ z ≤ 6561) ∧ RWo h h' x1.toNat (x2 - x1).toNat z))) := by
  refine Ctr.ofK (by decide) rfl T_Seen_rowsFrom (Nat.le_of_ble_eq_true rfl) (lo := [(0, .ref (G.2.2.2 169)), (1, kI x1), (2, kI x2)]) rfl ?_
  have fx : Fx (fun c i => c = 177 ∨ c = 180 ∨ c = 181) h h := Fx.rf
  refine K_iload_n (pc := 0) (i := 0) rfl rfl ?_
  refine K_iload_n (pc := 1) (i := 1) rfl rfl ?_
  first | refine K_icmp_ge 10 (pc := 2) (i := 2) rfl rfl (by omega) (by omega) (fun b2 => ?_) (fun b2 => ?_) | refine K_icmp_ge_an 10 (pc := 2) (i := 2) rfl rfl (fun b2 => ?_) (fun b2 => ?_)
  · skip
    refine K_iconst (pc := 10) (i := 6) rfl ?_
    exact K_retI (pc := 11) (i := 7) rfl rfl ⟨fx, ⟨hI, by omega, by rw [show (x2 - x1).toNat = 0 by omega]; exact RWo.z⟩⟩
  · skip
    refine K_iload_n (pc := 5) (i := 3) rfl rfl ?_
    refine K_iconst (pc := 6) (i := 4) rfl ?_
    first | refine K_icmp_lt 12 (pc := 7) (i := 5) rfl rfl (by omega) (by omega) (fun b7 => ?_) (fun b7 => ?_) | refine K_icmp_lt_an 12 (pc := 7) (i := 5) rfl rfl (fun b7 => ?_) (fun b7 => ?_)
    · skip
      exact absurd b7 (by omega)
    · skip
      refine K_iconst (pc := 10) (i := 6) rfl ?_
      exact K_retI (pc := 11) (i := 7) rfl rfl ⟨fx, ⟨hI, by omega, by rw [show (x2 - x1).toNat = 0 by omega]; exact RWo.z⟩⟩
set_option maxHeartbeats 4000000 in
set_option maxRecDepth 100000 in
theorem c_Seen_rowsFrom3 (G : kG) {g : kGh} {h : kH}  (hS : SeS h){x1 : Int} {x2 : Int} (s1 : 3 ≤ x1 ∧ x1 ≤ 4) (s2 : 0 ≤ x2 ∧ x2 ≤ 4) (hI : Gd g h) : Ctr G y_Seen_rowsFrom X_Seen_rowsFrom 7 [.ref (G.2.2.2 169), kI x1, kI x2] h (kQi (fun z h' => Fx (fun c i => c = 177 ∨ c = 180 ∨ c = 181) h h' ∧ (Gd g h' ∧ (0 ≤ z ∧ z ≤ 6561) ∧ RWo h h' x1.toNat (x2 - x1).toNat z))) := by
  refine Ctr.ofK (by decide) rfl T_Seen_rowsFrom (Nat.le_of_ble_eq_true rfl) (lo := [(0, .ref (G.2.2.2 169)), (1, kI x1), (2, kI x2)]) rfl ?_
  have fx : Fx (fun c i => c = 177 ∨ c = 180 ∨ c = 181) h h := Fx.rf
  refine K_iload_n (pc := 0) (i := 0) rfl rfl ?_
  refine K_iload_n (pc := 1) (i := 1) rfl rfl ?_
  first | refine K_icmp_ge 10 (pc := 2) (i := 2) rfl rfl (by omega) (by omega) (fun b2 => ?_) (fun b2 => ?_) | refine K_icmp_ge_an 10 (pc := 2) (i := 2) rfl rfl (fun b2 => ?_) (fun b2 => ?_)
  · skip
    refine K_iconst (pc := 10) (i := 6) rfl ?_
    exact K_retI (pc := 11) (i := 7) rfl rfl ⟨fx, ⟨hI, by omega, by rw [show (x2 - x1).toNat = 0 by omega]; exact RWo.z⟩⟩
  · skip
    refine K_iload_n (pc := 5) (i := 3) rfl rfl ?_
    refine K_iconst (pc := 6) (i := 4) rfl ?_
    first | refine K_icmp_lt 12 (pc := 7) (i := 5) rfl rfl (by omega) (by omega) (fun b7 => ?_) (fun b7 => ?_) | refine K_icmp_lt_an 12 (pc := 7) (i := 5) rfl rfl (fun b7 => ?_) (fun b7 => ?_)
    · skip
      obtain ⟨d, ed⟩ : ∃ d : Nat, (x2 - x1).toNat = d + 1 := ⟨(x2 - x1).toNat - 1, by omega⟩
      refine K_iconst (pc := 12) (i := 8) rfl ?_
      refine K_ist_n (pc := 13) (i := 9) (lo' := [(0, _), (1, _), (2, _), (3, _)]) rfl rfl rfl rfl ?_
      refine K_iconst (pc := 14) (i := 10) rfl ?_
      refine K_ist (pc := 15) (i := 11) (lo' := [(0, _), (1, _), (2, _), (3, _), (4, _)]) rfl rfl rfl rfl ?_
      have L17 : ∀ (n : Nat) (x3 : Int) (x4 : Int) (ha : kH), (10 - x4).toNat < n → (Gd g ha) → (Fx (fun c i => c = 177 ∨ c = 180 ∨ c = 181) h ha) → ((1 ≤ x4 ∧ x4 ≤ 10) ∧ RI h ha x1.toNat d x3 x4) → K X_Seen_rowsFrom G (kZm G 7 (kQi (fun z h' => Fx (fun c i => c = 177 ∨ c = 180 ∨ c = 181) h h' ∧ (Gd g h' ∧ (0 ≤ z ∧ z ≤ 6561) ∧ RWo h h' x1.toNat (x2 - x1).toNat z)))) 17 [(0, .ref (G.2.2.2 169)), (1, kI x1), (2, kI x2), (3, kI x3), (4, kI x4)] [] ha := by
        intro n
        induction n with
        | zero => intro x3 x4 ha hm; exact absurd hm (Nat.not_lt_zero _)
        | succ n ih17 =>
          intro x3 x4 ha hm17 hI fx hV17
          refine K_iload (pc := 17) (i := 12) rfl rfl ?_
          refine K_bipush (pc := 19) (i := 13) rfl rfl ?_
          first | refine K_icmp_gt 107 (pc := 21) (i := 14) rfl rfl (by omega) (by omega) (fun b21 => ?_) (fun b21 => ?_) | refine K_icmp_gt_an 107 (pc := 21) (i := 14) rfl rfl (fun b21 => ?_) (fun b21 => ?_)
          · skip
            refine K_iload_n (pc := 107) (i := 62) rfl rfl ?_
            exact K_retI (pc := 108) (i := 63) rfl rfl ⟨fx, (by have q := hV17.2.end (by omega); rw [ed]; exact ⟨hI, q.bd (by omega), q⟩)⟩
          · skip
            refine K_aload_n (pc := 24) (i := 15) rfl rfl ?_
            refine K_getR (pc := 25) (i := 16) (j := 3) (d := 173) rfl S_169 rfl (by decide) rfl fw_Seen_25 ?_
            refine K_getR (pc := 28) (i := 17) (j := 3) (d := 177) rfl (S_Fl fl173) rfl (by decide) rfl fw_Seen_59 ?_
            refine K_iload_n (pc := 31) (i := 18) rfl rfl ?_
            refine K_iload (pc := 32) (i := 19) rfl rfl ?_
            refine K_iast (pc := 34) (i := 20) rfl (S_Fl4 fl173) (by omega) (by omega) (by decide) ?_
            have hI := st_height hI fl173 (i := (x1).toNat) (v := x4) (by omega)
            have fx := Fx.st (c := 177) (i := (x1).toNat) (v := x4) fx (by first | (dsimp only; omega) | omega | exact not_false)
            have sf34 : ∀ c, 169 ≤ c → c ≤ 176 → (kU ha 177 ((x1).toNat) x4) c = h c := fun c p q => fx.cell c (fun i => (by first | (dsimp only; omega) | omega | exact not_false))
            have e34 : ∀ i, i ≤ x1.toNat → (kU ha 177 ((x1).toNat) x4) 177 i = upH (h 177) x1.toNat x4 i := fun i hi => by rw [kU_s]; unfold upH; by_cases p : i = x1.toNat; (rw [if_pos p, if_pos p]); (rw [if_neg p, if_neg p]; exact hV17.2.2.1 i (by omega))
            have u34 : (kU ha 177 ((x1).toNat) x4) 180 = ha 180 ∧ (kU ha 177 ((x1).toNat) x4) 181 = ha 181 := ⟨kU_c _ _ _ _ (by decide), kU_c _ _ _ _ (by decide)⟩
            refine K_aload_n (pc := 35) (i := 21) rfl rfl ?_
            refine K_iload_n (pc := 36) (i := 22) rfl rfl ?_
            refine K_cVI (pc := 37) (i := 23) rfl (c_Seen_agrees G (x1 := x1) (hI := hI) (s1 := by omega)) S_169 rfl (lv_Seen_62 rfl) rfl rfl rfl rfl rfl (fun v37 h37 q37 => ?_)
            obtain ⟨eh, r37⟩ := q37
            rw [eh]; clear eh
            have k37 : v37 = 0 ∨ v37 = 1 := r37.elim (fun q => Or.inr q.1) (fun q => Or.inl q.1)
            rw [agH_of sf34, agH_loc hS _ _ x1.toNat e34] at r37
            first | refine K_if_eq 54 (pc := 40) (i := 24) rfl rfl (by omega) (fun b40 => ?_) (fun b40 => ?_) | refine K_if_eq_an 54 (pc := 40) (i := 24) rfl rfl (fun b40 => ?_) (fun b40 => ?_)
            · skip
              have rj40 := RJ.none (h := h) (ha := ha) (k := x1.toNat) (d := d) (x4 := x4) (hb := kU ha 177 ((x1).toNat) x4) (fun i hi => by rw [kU_s, if_neg (by omega)]; exact hV17.2.2.1 i hi) u34.1 u34.2 (r37.elim (fun q => absurd q.1 (by omega)) (fun q => q.2))
              refine K_iconst (pc := 54) (i := 32) rfl ?_
              refine K_ist (pc := 55) (i := 33) (lo' := [(0, _), (1, _), (2, _), (3, _), (4, _), (5, _)]) rfl rfl rfl rfl ?_
              refine K_iload (pc := 57) (i := 34) rfl rfl ?_
              refine K_if_le 101 (pc := 59) (i := 35) rfl rfl (by omega) (fun _ => ?_) (fun b59 => False.elim (by omega))
              refine K_inc (pc := 101) (i := 60) (q := 4) (lo' := [(0, _), (1, _), (2, _), (3, _), (4, _), (5, _)]) rfl rfl rfl rfl rfl ?_
              refine K_goto 17 (pc := 104) (i := 61) rfl rfl ?_
              refine K_drop (lo' := [(0, .ref (G.2.2.2 169)), (1, kI x1), (2, kI x2), (3, kI x3), (4, kI (x4 + 1))]) [0, 1, 2, 3, 4] rfl ?_
              exact ih17 x3 (x4 + 1) _ (by omega) hI fx (by first | exact ⟨by omega, RI.no hS hV17.2 (by omega) rj40.1 rj40.2 (Int.le_refl 0)⟩ | exact ⟨by omega, RI.no hS hV17.2 (by omega) rj48.1 rj48.2 (by omega)⟩ | exact ⟨by omega, RI.yes hS hV17.2 (by omega) rj48.1 rj48.2 (by omega) ((kU_c _ _ _ _ (by decide)).trans (kU_c _ _ _ _ (by decide))) (fun j => by rw [kU_c _ _ _ _ (by decide), kU_s, e80, e77]) (fun j => by rw [kU_s, e97, e94, kU_c _ _ _ _ (by decide)]; try rw [kU_c _ _ _ _ (by decide)])⟩ | exact False.elim (by omega))
            · skip
              refine K_aload_n (pc := 43) (i := 25) rfl rfl ?_
              refine K_iload_n (pc := 44) (i := 26) rfl rfl ?_
              refine K_iconst (pc := 45) (i := 27) rfl ?_
              refine K_iadd (pc := 46) (i := 28) rfl ?_
              refine K_iload_n (pc := 47) (i := 29) rfl rfl ?_
              refine K_cSI (pc := 48) (i := 30) rfl (c_Seen_rowsFrom4 G (x1 := x1 + 1) (x2 := x2) (hS := SeS_of sf34 hS) (hI := hI) (s1 := by omega) (s2 := by omega)) (ls_Seen_55 rfl) rfl rfl rfl rfl (fun v48 h48 q48 => ?_)
              obtain ⟨fx48, q48⟩ := q48
              obtain ⟨hI, r48, rw48⟩ := q48
              have fx := fx.tr fx48 (fun c i q => (by first | (dsimp only at q ⊢; omega) | omega))
              have rj48 := RJ.of (ha := ha) (z := v48) (d := d) hS sf34 e34 u34.1 u34.2 (r37.elim (fun q => q.2) (fun q => absurd q.1 (by omega))) (by have q := rw48; rw [show (x1 + 1).toNat = x1.toNat + 1 by omega, show (x2 - (x1 + 1)).toNat = d by omega] at q; exact q)
              refine K_goto 55 (pc := 51) (i := 31) rfl rfl ?_
              refine K_ist (pc := 55) (i := 33) (lo' := [(0, _), (1, _), (2, _), (3, _), (4, _), (5, _)]) rfl rfl rfl rfl ?_
              refine K_iload (pc := 57) (i := 34) rfl rfl ?_
              first | refine K_if_le 101 (pc := 59) (i := 35) rfl rfl (by omega) (fun b59 => ?_) (fun b59 => ?_) | refine K_if_le_an 101 (pc := 59) (i := 35) rfl rfl (fun b59 => ?_) (fun b59 => ?_)
              · skip
                refine K_inc (pc := 101) (i := 60) (q := 4) (lo' := [(0, _), (1, _), (2, _), (3, _), (4, _), (5, _)]) rfl rfl rfl rfl rfl ?_
                refine K_goto 17 (pc := 104) (i := 61) rfl rfl ?_
                refine K_drop (lo' := [(0, .ref (G.2.2.2 169)), (1, kI x1), (2, kI x2), (3, kI x3), (4, kI (x4 + 1))]) [0, 1, 2, 3, 4] rfl ?_
                exact ih17 x3 (x4 + 1) _ (by omega) hI fx (by first | exact ⟨by omega, RI.no hS hV17.2 (by omega) rj40.1 rj40.2 (Int.le_refl 0)⟩ | exact ⟨by omega, RI.no hS hV17.2 (by omega) rj48.1 rj48.2 (by omega)⟩ | exact ⟨by omega, RI.yes hS hV17.2 (by omega) rj48.1 rj48.2 (by omega) ((kU_c _ _ _ _ (by decide)).trans (kU_c _ _ _ _ (by decide))) (fun j => by rw [kU_c _ _ _ _ (by decide), kU_s, e80, e77]) (fun j => by rw [kU_s, e97, e94, kU_c _ _ _ _ (by decide)]; try rw [kU_c _ _ _ _ (by decide)])⟩ | exact False.elim (by omega))
              · skip
                refine K_iload_n (pc := 62) (i := 36) rfl rfl ?_
                refine K_iload (pc := 63) (i := 37) rfl rfl ?_
                refine K_iadd (pc := 65) (i := 38) rfl ?_
                refine K_ist_n (pc := 66) (i := 39) (lo' := [(0, _), (1, _), (2, _), (3, _), (4, _), (5, _)]) rfl rfl rfl rfl ?_
                refine K_aload_n (pc := 67) (i := 40) rfl rfl ?_
                refine K_getR (pc := 68) (i := 41) (j := 4) (d := 180) rfl S_169 rfl (by decide) rfl fw_Seen_29 ?_
                refine K_iload_n (pc := 71) (i := 42) rfl rfl ?_
                refine K_aload_n (pc := 72) (i := 43) rfl rfl ?_
                refine K_getR (pc := 73) (i := 44) (j := 4) (d := 180) rfl S_169 rfl (by decide) rfl fw_Seen_29 ?_
                refine K_iload_n (pc := 76) (i := 45) rfl rfl ?_
                refine K_iald (pc := 77) (i := 46) rfl S_180 (by omega) (by omega) (by decide) ?_
                refine K_nm (fun v77 e77 => ?_)
                have r77 := rd_least hI (x1).toNat
                rw [← e77] at r77
                refine K_iload (pc := 78) (i := 47) rfl rfl ?_
                refine K_mmin (pc := 80) (i := 48) rfl mw_Seen_39 (by omega) (by omega) (Nat.le_of_ble_eq_true rfl) ⟨Nat.le_of_ble_eq_true rfl, Nat.le_of_ble_eq_true rfl⟩ ⟨Nat.le_of_ble_eq_true rfl, Nat.le_of_ble_eq_true rfl⟩ ?_
                refine K_nm (fun v80 e80 => ?_)
                refine K_iast (pc := 83) (i := 49) rfl S_180 (by omega) (by omega) (by decide) ?_
                have hI := st_least hI (i := (x1).toNat) (v := v80) (by omega)
                have fx := Fx.st (c := 180) (i := (x1).toNat) (v := v80) fx (by first | (dsimp only; omega) | omega | exact not_false)
                refine K_aload_n (pc := 84) (i := 50) rfl rfl ?_
                refine K_getR (pc := 85) (i := 51) (j := 5) (d := 181) rfl S_169 rfl (by decide) rfl fw_Seen_32 ?_
                refine K_iload_n (pc := 88) (i := 52) rfl rfl ?_
                refine K_aload_n (pc := 89) (i := 53) rfl rfl ?_
                refine K_getR (pc := 90) (i := 54) (j := 5) (d := 181) rfl S_169 rfl (by decide) rfl fw_Seen_32 ?_
                refine K_iload_n (pc := 93) (i := 55) rfl rfl ?_
                refine K_iald (pc := 94) (i := 56) rfl S_181 (by omega) (by omega) (by decide) ?_
                refine K_nm (fun v94 e94 => ?_)
                have r94 := rd_greatest hI (x1).toNat
                rw [← e94] at r94
                refine K_iload (pc := 95) (i := 57) rfl rfl ?_
                refine K_mmax (pc := 97) (i := 58) rfl mw_Seen_45 (by omega) (by omega) (Nat.le_of_ble_eq_true rfl) ⟨Nat.le_of_ble_eq_true rfl, Nat.le_of_ble_eq_true rfl⟩ ⟨Nat.le_of_ble_eq_true rfl, Nat.le_of_ble_eq_true rfl⟩ ?_
                refine K_nm (fun v97 e97 => ?_)
                refine K_iast (pc := 100) (i := 59) rfl S_181 (by omega) (by omega) (by decide) ?_
                have hI := st_greatest hI (i := (x1).toNat) (v := v97) (by omega)
                have fx := Fx.st (c := 181) (i := (x1).toNat) (v := v97) fx (by first | (dsimp only; omega) | omega | exact not_false)
                refine K_inc (pc := 101) (i := 60) (q := 4) (lo' := [(0, _), (1, _), (2, _), (3, _), (4, _), (5, _)]) rfl rfl rfl rfl rfl ?_
                refine K_goto 17 (pc := 104) (i := 61) rfl rfl ?_
                refine K_drop (lo' := [(0, .ref (G.2.2.2 169)), (1, kI x1), (2, kI x2), (3, kI (x3 + v48)), (4, kI (x4 + 1))]) [0, 1, 2, 3, 4] rfl ?_
                exact ih17 (x3 + v48) (x4 + 1) _ (by omega) hI fx (by first | exact ⟨by omega, RI.no hS hV17.2 (by omega) rj40.1 rj40.2 (Int.le_refl 0)⟩ | exact ⟨by omega, RI.no hS hV17.2 (by omega) rj48.1 rj48.2 (by omega)⟩ | exact ⟨by omega, RI.yes hS hV17.2 (by omega) rj48.1 rj48.2 (by omega) ((kU_c _ _ _ _ (by decide)).trans (kU_c _ _ _ _ (by decide))) (fun j => by rw [kU_c _ _ _ _ (by decide), kU_s, e80, e77]) (fun j => by rw [kU_s, e97, e94, kU_c _ _ _ _ (by decide)]; try rw [kU_c _ _ _ _ (by decide)])⟩ | exact False.elim (by omega))
      exact L17 _ 0 1 _ (Nat.lt_succ_self _) hI fx ⟨by omega, RI.z⟩
    · skip
      refine K_iconst (pc := 10) (i := 6) rfl ?_
      exact K_retI (pc := 11) (i := 7) rfl rfl ⟨fx, ⟨hI, by omega, by rw [show (x2 - x1).toNat = 0 by omega]; exact RWo.z⟩⟩
set_option maxHeartbeats 4000000 in
set_option maxRecDepth 100000 in
theorem c_Seen_rowsFrom2 (G : kG) {g : kGh} {h : kH}  (hS : SeS h){x1 : Int} {x2 : Int} (s1 : 2 ≤ x1 ∧ x1 ≤ 4) (s2 : 0 ≤ x2 ∧ x2 ≤ 4) (hI : Gd g h) : Ctr G y_Seen_rowsFrom X_Seen_rowsFrom 8 [.ref (G.2.2.2 169), kI x1, kI x2] h (kQi (fun z h' => Fx (fun c i => c = 177 ∨ c = 180 ∨ c = 181) h h' ∧ (Gd g h' ∧ (0 ≤ z ∧ z ≤ 6561) ∧ RWo h h' x1.toNat (x2 - x1).toNat z))) := by
  refine Ctr.ofK (by decide) rfl T_Seen_rowsFrom (Nat.le_of_ble_eq_true rfl) (lo := [(0, .ref (G.2.2.2 169)), (1, kI x1), (2, kI x2)]) rfl ?_
  have fx : Fx (fun c i => c = 177 ∨ c = 180 ∨ c = 181) h h := Fx.rf
  refine K_iload_n (pc := 0) (i := 0) rfl rfl ?_
  refine K_iload_n (pc := 1) (i := 1) rfl rfl ?_
  first | refine K_icmp_ge 10 (pc := 2) (i := 2) rfl rfl (by omega) (by omega) (fun b2 => ?_) (fun b2 => ?_) | refine K_icmp_ge_an 10 (pc := 2) (i := 2) rfl rfl (fun b2 => ?_) (fun b2 => ?_)
  · skip
    refine K_iconst (pc := 10) (i := 6) rfl ?_
    exact K_retI (pc := 11) (i := 7) rfl rfl ⟨fx, ⟨hI, by omega, by rw [show (x2 - x1).toNat = 0 by omega]; exact RWo.z⟩⟩
  · skip
    refine K_iload_n (pc := 5) (i := 3) rfl rfl ?_
    refine K_iconst (pc := 6) (i := 4) rfl ?_
    first | refine K_icmp_lt 12 (pc := 7) (i := 5) rfl rfl (by omega) (by omega) (fun b7 => ?_) (fun b7 => ?_) | refine K_icmp_lt_an 12 (pc := 7) (i := 5) rfl rfl (fun b7 => ?_) (fun b7 => ?_)
    · skip
      obtain ⟨d, ed⟩ : ∃ d : Nat, (x2 - x1).toNat = d + 1 := ⟨(x2 - x1).toNat - 1, by omega⟩
      refine K_iconst (pc := 12) (i := 8) rfl ?_
      refine K_ist_n (pc := 13) (i := 9) (lo' := [(0, _), (1, _), (2, _), (3, _)]) rfl rfl rfl rfl ?_
      refine K_iconst (pc := 14) (i := 10) rfl ?_
      refine K_ist (pc := 15) (i := 11) (lo' := [(0, _), (1, _), (2, _), (3, _), (4, _)]) rfl rfl rfl rfl ?_
      have L17 : ∀ (n : Nat) (x3 : Int) (x4 : Int) (ha : kH), (10 - x4).toNat < n → (Gd g ha) → (Fx (fun c i => c = 177 ∨ c = 180 ∨ c = 181) h ha) → ((1 ≤ x4 ∧ x4 ≤ 10) ∧ RI h ha x1.toNat d x3 x4) → K X_Seen_rowsFrom G (kZm G 8 (kQi (fun z h' => Fx (fun c i => c = 177 ∨ c = 180 ∨ c = 181) h h' ∧ (Gd g h' ∧ (0 ≤ z ∧ z ≤ 6561) ∧ RWo h h' x1.toNat (x2 - x1).toNat z)))) 17 [(0, .ref (G.2.2.2 169)), (1, kI x1), (2, kI x2), (3, kI x3), (4, kI x4)] [] ha := by
        intro n
        induction n with
        | zero => intro x3 x4 ha hm; exact absurd hm (Nat.not_lt_zero _)
        | succ n ih17 =>
          intro x3 x4 ha hm17 hI fx hV17
          refine K_iload (pc := 17) (i := 12) rfl rfl ?_
          refine K_bipush (pc := 19) (i := 13) rfl rfl ?_
          first | refine K_icmp_gt 107 (pc := 21) (i := 14) rfl rfl (by omega) (by omega) (fun b21 => ?_) (fun b21 => ?_) | refine K_icmp_gt_an 107 (pc := 21) (i := 14) rfl rfl (fun b21 => ?_) (fun b21 => ?_)
          · skip
            refine K_iload_n (pc := 107) (i := 62) rfl rfl ?_
            exact K_retI (pc := 108) (i := 63) rfl rfl ⟨fx, (by have q := hV17.2.end (by omega); rw [ed]; exact ⟨hI, q.bd (by omega), q⟩)⟩
          · skip
            refine K_aload_n (pc := 24) (i := 15) rfl rfl ?_
            refine K_getR (pc := 25) (i := 16) (j := 3) (d := 173) rfl S_169 rfl (by decide) rfl fw_Seen_25 ?_
            refine K_getR (pc := 28) (i := 17) (j := 3) (d := 177) rfl (S_Fl fl173) rfl (by decide) rfl fw_Seen_59 ?_
            refine K_iload_n (pc := 31) (i := 18) rfl rfl ?_
            refine K_iload (pc := 32) (i := 19) rfl rfl ?_
            refine K_iast (pc := 34) (i := 20) rfl (S_Fl4 fl173) (by omega) (by omega) (by decide) ?_
            have hI := st_height hI fl173 (i := (x1).toNat) (v := x4) (by omega)
            have fx := Fx.st (c := 177) (i := (x1).toNat) (v := x4) fx (by first | (dsimp only; omega) | omega | exact not_false)
            have sf34 : ∀ c, 169 ≤ c → c ≤ 176 → (kU ha 177 ((x1).toNat) x4) c = h c := fun c p q => fx.cell c (fun i => (by first | (dsimp only; omega) | omega | exact not_false))
            have e34 : ∀ i, i ≤ x1.toNat → (kU ha 177 ((x1).toNat) x4) 177 i = upH (h 177) x1.toNat x4 i := fun i hi => by rw [kU_s]; unfold upH; by_cases p : i = x1.toNat; (rw [if_pos p, if_pos p]); (rw [if_neg p, if_neg p]; exact hV17.2.2.1 i (by omega))
            have u34 : (kU ha 177 ((x1).toNat) x4) 180 = ha 180 ∧ (kU ha 177 ((x1).toNat) x4) 181 = ha 181 := ⟨kU_c _ _ _ _ (by decide), kU_c _ _ _ _ (by decide)⟩
            refine K_aload_n (pc := 35) (i := 21) rfl rfl ?_
            refine K_iload_n (pc := 36) (i := 22) rfl rfl ?_
            refine K_cVI (pc := 37) (i := 23) rfl (c_Seen_agrees G (x1 := x1) (hI := hI) (s1 := by omega)) S_169 rfl (lv_Seen_62 rfl) rfl rfl rfl rfl rfl (fun v37 h37 q37 => ?_)
            obtain ⟨eh, r37⟩ := q37
            rw [eh]; clear eh
            have k37 : v37 = 0 ∨ v37 = 1 := r37.elim (fun q => Or.inr q.1) (fun q => Or.inl q.1)
            rw [agH_of sf34, agH_loc hS _ _ x1.toNat e34] at r37
            first | refine K_if_eq 54 (pc := 40) (i := 24) rfl rfl (by omega) (fun b40 => ?_) (fun b40 => ?_) | refine K_if_eq_an 54 (pc := 40) (i := 24) rfl rfl (fun b40 => ?_) (fun b40 => ?_)
            · skip
              have rj40 := RJ.none (h := h) (ha := ha) (k := x1.toNat) (d := d) (x4 := x4) (hb := kU ha 177 ((x1).toNat) x4) (fun i hi => by rw [kU_s, if_neg (by omega)]; exact hV17.2.2.1 i hi) u34.1 u34.2 (r37.elim (fun q => absurd q.1 (by omega)) (fun q => q.2))
              refine K_iconst (pc := 54) (i := 32) rfl ?_
              refine K_ist (pc := 55) (i := 33) (lo' := [(0, _), (1, _), (2, _), (3, _), (4, _), (5, _)]) rfl rfl rfl rfl ?_
              refine K_iload (pc := 57) (i := 34) rfl rfl ?_
              refine K_if_le 101 (pc := 59) (i := 35) rfl rfl (by omega) (fun _ => ?_) (fun b59 => False.elim (by omega))
              refine K_inc (pc := 101) (i := 60) (q := 4) (lo' := [(0, _), (1, _), (2, _), (3, _), (4, _), (5, _)]) rfl rfl rfl rfl rfl ?_
              refine K_goto 17 (pc := 104) (i := 61) rfl rfl ?_
              refine K_drop (lo' := [(0, .ref (G.2.2.2 169)), (1, kI x1), (2, kI x2), (3, kI x3), (4, kI (x4 + 1))]) [0, 1, 2, 3, 4] rfl ?_
              exact ih17 x3 (x4 + 1) _ (by omega) hI fx (by first | exact ⟨by omega, RI.no hS hV17.2 (by omega) rj40.1 rj40.2 (Int.le_refl 0)⟩ | exact ⟨by omega, RI.no hS hV17.2 (by omega) rj48.1 rj48.2 (by omega)⟩ | exact ⟨by omega, RI.yes hS hV17.2 (by omega) rj48.1 rj48.2 (by omega) ((kU_c _ _ _ _ (by decide)).trans (kU_c _ _ _ _ (by decide))) (fun j => by rw [kU_c _ _ _ _ (by decide), kU_s, e80, e77]) (fun j => by rw [kU_s, e97, e94, kU_c _ _ _ _ (by decide)]; try rw [kU_c _ _ _ _ (by decide)])⟩ | exact False.elim (by omega))
            · skip
              refine K_aload_n (pc := 43) (i := 25) rfl rfl ?_
              refine K_iload_n (pc := 44) (i := 26) rfl rfl ?_
              refine K_iconst (pc := 45) (i := 27) rfl ?_
              refine K_iadd (pc := 46) (i := 28) rfl ?_
              refine K_iload_n (pc := 47) (i := 29) rfl rfl ?_
              refine K_cSI (pc := 48) (i := 30) rfl (c_Seen_rowsFrom3 G (x1 := x1 + 1) (x2 := x2) (hS := SeS_of sf34 hS) (hI := hI) (s1 := by omega) (s2 := by omega)) (ls_Seen_55 rfl) rfl rfl rfl rfl (fun v48 h48 q48 => ?_)
              obtain ⟨fx48, q48⟩ := q48
              obtain ⟨hI, r48, rw48⟩ := q48
              have fx := fx.tr fx48 (fun c i q => (by first | (dsimp only at q ⊢; omega) | omega))
              have rj48 := RJ.of (ha := ha) (z := v48) (d := d) hS sf34 e34 u34.1 u34.2 (r37.elim (fun q => q.2) (fun q => absurd q.1 (by omega))) (by have q := rw48; rw [show (x1 + 1).toNat = x1.toNat + 1 by omega, show (x2 - (x1 + 1)).toNat = d by omega] at q; exact q)
              refine K_goto 55 (pc := 51) (i := 31) rfl rfl ?_
              refine K_ist (pc := 55) (i := 33) (lo' := [(0, _), (1, _), (2, _), (3, _), (4, _), (5, _)]) rfl rfl rfl rfl ?_
              refine K_iload (pc := 57) (i := 34) rfl rfl ?_
              first | refine K_if_le 101 (pc := 59) (i := 35) rfl rfl (by omega) (fun b59 => ?_) (fun b59 => ?_) | refine K_if_le_an 101 (pc := 59) (i := 35) rfl rfl (fun b59 => ?_) (fun b59 => ?_)
              · skip
                refine K_inc (pc := 101) (i := 60) (q := 4) (lo' := [(0, _), (1, _), (2, _), (3, _), (4, _), (5, _)]) rfl rfl rfl rfl rfl ?_
                refine K_goto 17 (pc := 104) (i := 61) rfl rfl ?_
                refine K_drop (lo' := [(0, .ref (G.2.2.2 169)), (1, kI x1), (2, kI x2), (3, kI x3), (4, kI (x4 + 1))]) [0, 1, 2, 3, 4] rfl ?_
                exact ih17 x3 (x4 + 1) _ (by omega) hI fx (by first | exact ⟨by omega, RI.no hS hV17.2 (by omega) rj40.1 rj40.2 (Int.le_refl 0)⟩ | exact ⟨by omega, RI.no hS hV17.2 (by omega) rj48.1 rj48.2 (by omega)⟩ | exact ⟨by omega, RI.yes hS hV17.2 (by omega) rj48.1 rj48.2 (by omega) ((kU_c _ _ _ _ (by decide)).trans (kU_c _ _ _ _ (by decide))) (fun j => by rw [kU_c _ _ _ _ (by decide), kU_s, e80, e77]) (fun j => by rw [kU_s, e97, e94, kU_c _ _ _ _ (by decide)]; try rw [kU_c _ _ _ _ (by decide)])⟩ | exact False.elim (by omega))
              · skip
                refine K_iload_n (pc := 62) (i := 36) rfl rfl ?_
                refine K_iload (pc := 63) (i := 37) rfl rfl ?_
                refine K_iadd (pc := 65) (i := 38) rfl ?_
                refine K_ist_n (pc := 66) (i := 39) (lo' := [(0, _), (1, _), (2, _), (3, _), (4, _), (5, _)]) rfl rfl rfl rfl ?_
                refine K_aload_n (pc := 67) (i := 40) rfl rfl ?_
                refine K_getR (pc := 68) (i := 41) (j := 4) (d := 180) rfl S_169 rfl (by decide) rfl fw_Seen_29 ?_
                refine K_iload_n (pc := 71) (i := 42) rfl rfl ?_
                refine K_aload_n (pc := 72) (i := 43) rfl rfl ?_
                refine K_getR (pc := 73) (i := 44) (j := 4) (d := 180) rfl S_169 rfl (by decide) rfl fw_Seen_29 ?_
                refine K_iload_n (pc := 76) (i := 45) rfl rfl ?_
                refine K_iald (pc := 77) (i := 46) rfl S_180 (by omega) (by omega) (by decide) ?_
                refine K_nm (fun v77 e77 => ?_)
                have r77 := rd_least hI (x1).toNat
                rw [← e77] at r77
                refine K_iload (pc := 78) (i := 47) rfl rfl ?_
                refine K_mmin (pc := 80) (i := 48) rfl mw_Seen_39 (by omega) (by omega) (Nat.le_of_ble_eq_true rfl) ⟨Nat.le_of_ble_eq_true rfl, Nat.le_of_ble_eq_true rfl⟩ ⟨Nat.le_of_ble_eq_true rfl, Nat.le_of_ble_eq_true rfl⟩ ?_
                refine K_nm (fun v80 e80 => ?_)
                refine K_iast (pc := 83) (i := 49) rfl S_180 (by omega) (by omega) (by decide) ?_
                have hI := st_least hI (i := (x1).toNat) (v := v80) (by omega)
                have fx := Fx.st (c := 180) (i := (x1).toNat) (v := v80) fx (by first | (dsimp only; omega) | omega | exact not_false)
                refine K_aload_n (pc := 84) (i := 50) rfl rfl ?_
                refine K_getR (pc := 85) (i := 51) (j := 5) (d := 181) rfl S_169 rfl (by decide) rfl fw_Seen_32 ?_
                refine K_iload_n (pc := 88) (i := 52) rfl rfl ?_
                refine K_aload_n (pc := 89) (i := 53) rfl rfl ?_
                refine K_getR (pc := 90) (i := 54) (j := 5) (d := 181) rfl S_169 rfl (by decide) rfl fw_Seen_32 ?_
                refine K_iload_n (pc := 93) (i := 55) rfl rfl ?_
                refine K_iald (pc := 94) (i := 56) rfl S_181 (by omega) (by omega) (by decide) ?_
                refine K_nm (fun v94 e94 => ?_)
                have r94 := rd_greatest hI (x1).toNat
                rw [← e94] at r94
                refine K_iload (pc := 95) (i := 57) rfl rfl ?_
                refine K_mmax (pc := 97) (i := 58) rfl mw_Seen_45 (by omega) (by omega) (Nat.le_of_ble_eq_true rfl) ⟨Nat.le_of_ble_eq_true rfl, Nat.le_of_ble_eq_true rfl⟩ ⟨Nat.le_of_ble_eq_true rfl, Nat.le_of_ble_eq_true rfl⟩ ?_
                refine K_nm (fun v97 e97 => ?_)
                refine K_iast (pc := 100) (i := 59) rfl S_181 (by omega) (by omega) (by decide) ?_
                have hI := st_greatest hI (i := (x1).toNat) (v := v97) (by omega)
                have fx := Fx.st (c := 181) (i := (x1).toNat) (v := v97) fx (by first | (dsimp only; omega) | omega | exact not_false)
                refine K_inc (pc := 101) (i := 60) (q := 4) (lo' := [(0, _), (1, _), (2, _), (3, _), (4, _), (5, _)]) rfl rfl rfl rfl rfl ?_
                refine K_goto 17 (pc := 104) (i := 61) rfl rfl ?_
                refine K_drop (lo' := [(0, .ref (G.2.2.2 169)), (1, kI x1), (2, kI x2), (3, kI (x3 + v48)), (4, kI (x4 + 1))]) [0, 1, 2, 3, 4] rfl ?_
                exact ih17 (x3 + v48) (x4 + 1) _ (by omega) hI fx (by first | exact ⟨by omega, RI.no hS hV17.2 (by omega) rj40.1 rj40.2 (Int.le_refl 0)⟩ | exact ⟨by omega, RI.no hS hV17.2 (by omega) rj48.1 rj48.2 (by omega)⟩ | exact ⟨by omega, RI.yes hS hV17.2 (by omega) rj48.1 rj48.2 (by omega) ((kU_c _ _ _ _ (by decide)).trans (kU_c _ _ _ _ (by decide))) (fun j => by rw [kU_c _ _ _ _ (by decide), kU_s, e80, e77]) (fun j => by rw [kU_s, e97, e94, kU_c _ _ _ _ (by decide)]; try rw [kU_c _ _ _ _ (by decide)])⟩ | exact False.elim (by omega))
      exact L17 _ 0 1 _ (Nat.lt_succ_self _) hI fx ⟨by omega, RI.z⟩
    · skip
      refine K_iconst (pc := 10) (i := 6) rfl ?_
      exact K_retI (pc := 11) (i := 7) rfl rfl ⟨fx, ⟨hI, by omega, by rw [show (x2 - x1).toNat = 0 by omega]; exact RWo.z⟩⟩
set_option maxHeartbeats 4000000 in
set_option maxRecDepth 100000 in
theorem c_Seen_rowsFrom1 (G : kG) {g : kGh} {h : kH}  (hS : SeS h){x1 : Int} {x2 : Int} (s1 : 1 ≤ x1 ∧ x1 ≤ 4) (s2 : 0 ≤ x2 ∧ x2 ≤ 4) (hI : Gd g h) : Ctr G y_Seen_rowsFrom X_Seen_rowsFrom 9 [.ref (G.2.2.2 169), kI x1, kI x2] h (kQi (fun z h' => Fx (fun c i => c = 177 ∨ c = 180 ∨ c = 181) h h' ∧ (Gd g h' ∧ (0 ≤ z ∧ z ≤ 6561) ∧ RWo h h' x1.toNat (x2 - x1).toNat z))) := by
  refine Ctr.ofK (by decide) rfl T_Seen_rowsFrom (Nat.le_of_ble_eq_true rfl) (lo := [(0, .ref (G.2.2.2 169)), (1, kI x1), (2, kI x2)]) rfl ?_
  have fx : Fx (fun c i => c = 177 ∨ c = 180 ∨ c = 181) h h := Fx.rf
  refine K_iload_n (pc := 0) (i := 0) rfl rfl ?_
  refine K_iload_n (pc := 1) (i := 1) rfl rfl ?_
  first | refine K_icmp_ge 10 (pc := 2) (i := 2) rfl rfl (by omega) (by omega) (fun b2 => ?_) (fun b2 => ?_) | refine K_icmp_ge_an 10 (pc := 2) (i := 2) rfl rfl (fun b2 => ?_) (fun b2 => ?_)
  · skip
    refine K_iconst (pc := 10) (i := 6) rfl ?_
    exact K_retI (pc := 11) (i := 7) rfl rfl ⟨fx, ⟨hI, by omega, by rw [show (x2 - x1).toNat = 0 by omega]; exact RWo.z⟩⟩
  · skip
    refine K_iload_n (pc := 5) (i := 3) rfl rfl ?_
    refine K_iconst (pc := 6) (i := 4) rfl ?_
    first | refine K_icmp_lt 12 (pc := 7) (i := 5) rfl rfl (by omega) (by omega) (fun b7 => ?_) (fun b7 => ?_) | refine K_icmp_lt_an 12 (pc := 7) (i := 5) rfl rfl (fun b7 => ?_) (fun b7 => ?_)
    · skip
      obtain ⟨d, ed⟩ : ∃ d : Nat, (x2 - x1).toNat = d + 1 := ⟨(x2 - x1).toNat - 1, by omega⟩
      refine K_iconst (pc := 12) (i := 8) rfl ?_
      refine K_ist_n (pc := 13) (i := 9) (lo' := [(0, _), (1, _), (2, _), (3, _)]) rfl rfl rfl rfl ?_
      refine K_iconst (pc := 14) (i := 10) rfl ?_
      refine K_ist (pc := 15) (i := 11) (lo' := [(0, _), (1, _), (2, _), (3, _), (4, _)]) rfl rfl rfl rfl ?_
      have L17 : ∀ (n : Nat) (x3 : Int) (x4 : Int) (ha : kH), (10 - x4).toNat < n → (Gd g ha) → (Fx (fun c i => c = 177 ∨ c = 180 ∨ c = 181) h ha) → ((1 ≤ x4 ∧ x4 ≤ 10) ∧ RI h ha x1.toNat d x3 x4) → K X_Seen_rowsFrom G (kZm G 9 (kQi (fun z h' => Fx (fun c i => c = 177 ∨ c = 180 ∨ c = 181) h h' ∧ (Gd g h' ∧ (0 ≤ z ∧ z ≤ 6561) ∧ RWo h h' x1.toNat (x2 - x1).toNat z)))) 17 [(0, .ref (G.2.2.2 169)), (1, kI x1), (2, kI x2), (3, kI x3), (4, kI x4)] [] ha := by
        intro n
        induction n with
        | zero => intro x3 x4 ha hm; exact absurd hm (Nat.not_lt_zero _)
        | succ n ih17 =>
          intro x3 x4 ha hm17 hI fx hV17
          refine K_iload (pc := 17) (i := 12) rfl rfl ?_
          refine K_bipush (pc := 19) (i := 13) rfl rfl ?_
          first | refine K_icmp_gt 107 (pc := 21) (i := 14) rfl rfl (by omega) (by omega) (fun b21 => ?_) (fun b21 => ?_) | refine K_icmp_gt_an 107 (pc := 21) (i := 14) rfl rfl (fun b21 => ?_) (fun b21 => ?_)
          · skip
            refine K_iload_n (pc := 107) (i := 62) rfl rfl ?_
            exact K_retI (pc := 108) (i := 63) rfl rfl ⟨fx, (by have q := hV17.2.end (by omega); rw [ed]; exact ⟨hI, q.bd (by omega), q⟩)⟩
          · skip
            refine K_aload_n (pc := 24) (i := 15) rfl rfl ?_
            refine K_getR (pc := 25) (i := 16) (j := 3) (d := 173) rfl S_169 rfl (by decide) rfl fw_Seen_25 ?_
            refine K_getR (pc := 28) (i := 17) (j := 3) (d := 177) rfl (S_Fl fl173) rfl (by decide) rfl fw_Seen_59 ?_
            refine K_iload_n (pc := 31) (i := 18) rfl rfl ?_
            refine K_iload (pc := 32) (i := 19) rfl rfl ?_
            refine K_iast (pc := 34) (i := 20) rfl (S_Fl4 fl173) (by omega) (by omega) (by decide) ?_
            have hI := st_height hI fl173 (i := (x1).toNat) (v := x4) (by omega)
            have fx := Fx.st (c := 177) (i := (x1).toNat) (v := x4) fx (by first | (dsimp only; omega) | omega | exact not_false)
            have sf34 : ∀ c, 169 ≤ c → c ≤ 176 → (kU ha 177 ((x1).toNat) x4) c = h c := fun c p q => fx.cell c (fun i => (by first | (dsimp only; omega) | omega | exact not_false))
            have e34 : ∀ i, i ≤ x1.toNat → (kU ha 177 ((x1).toNat) x4) 177 i = upH (h 177) x1.toNat x4 i := fun i hi => by rw [kU_s]; unfold upH; by_cases p : i = x1.toNat; (rw [if_pos p, if_pos p]); (rw [if_neg p, if_neg p]; exact hV17.2.2.1 i (by omega))
            have u34 : (kU ha 177 ((x1).toNat) x4) 180 = ha 180 ∧ (kU ha 177 ((x1).toNat) x4) 181 = ha 181 := ⟨kU_c _ _ _ _ (by decide), kU_c _ _ _ _ (by decide)⟩
            refine K_aload_n (pc := 35) (i := 21) rfl rfl ?_
            refine K_iload_n (pc := 36) (i := 22) rfl rfl ?_
            refine K_cVI (pc := 37) (i := 23) rfl (c_Seen_agrees G (x1 := x1) (hI := hI) (s1 := by omega)) S_169 rfl (lv_Seen_62 rfl) rfl rfl rfl rfl rfl (fun v37 h37 q37 => ?_)
            obtain ⟨eh, r37⟩ := q37
            rw [eh]; clear eh
            have k37 : v37 = 0 ∨ v37 = 1 := r37.elim (fun q => Or.inr q.1) (fun q => Or.inl q.1)
            rw [agH_of sf34, agH_loc hS _ _ x1.toNat e34] at r37
            first | refine K_if_eq 54 (pc := 40) (i := 24) rfl rfl (by omega) (fun b40 => ?_) (fun b40 => ?_) | refine K_if_eq_an 54 (pc := 40) (i := 24) rfl rfl (fun b40 => ?_) (fun b40 => ?_)
            · skip
              have rj40 := RJ.none (h := h) (ha := ha) (k := x1.toNat) (d := d) (x4 := x4) (hb := kU ha 177 ((x1).toNat) x4) (fun i hi => by rw [kU_s, if_neg (by omega)]; exact hV17.2.2.1 i hi) u34.1 u34.2 (r37.elim (fun q => absurd q.1 (by omega)) (fun q => q.2))
              refine K_iconst (pc := 54) (i := 32) rfl ?_
              refine K_ist (pc := 55) (i := 33) (lo' := [(0, _), (1, _), (2, _), (3, _), (4, _), (5, _)]) rfl rfl rfl rfl ?_
              refine K_iload (pc := 57) (i := 34) rfl rfl ?_
              refine K_if_le 101 (pc := 59) (i := 35) rfl rfl (by omega) (fun _ => ?_) (fun b59 => False.elim (by omega))
              refine K_inc (pc := 101) (i := 60) (q := 4) (lo' := [(0, _), (1, _), (2, _), (3, _), (4, _), (5, _)]) rfl rfl rfl rfl rfl ?_
              refine K_goto 17 (pc := 104) (i := 61) rfl rfl ?_
              refine K_drop (lo' := [(0, .ref (G.2.2.2 169)), (1, kI x1), (2, kI x2), (3, kI x3), (4, kI (x4 + 1))]) [0, 1, 2, 3, 4] rfl ?_
              exact ih17 x3 (x4 + 1) _ (by omega) hI fx (by first | exact ⟨by omega, RI.no hS hV17.2 (by omega) rj40.1 rj40.2 (Int.le_refl 0)⟩ | exact ⟨by omega, RI.no hS hV17.2 (by omega) rj48.1 rj48.2 (by omega)⟩ | exact ⟨by omega, RI.yes hS hV17.2 (by omega) rj48.1 rj48.2 (by omega) ((kU_c _ _ _ _ (by decide)).trans (kU_c _ _ _ _ (by decide))) (fun j => by rw [kU_c _ _ _ _ (by decide), kU_s, e80, e77]) (fun j => by rw [kU_s, e97, e94, kU_c _ _ _ _ (by decide)]; try rw [kU_c _ _ _ _ (by decide)])⟩ | exact False.elim (by omega))
            · skip
              refine K_aload_n (pc := 43) (i := 25) rfl rfl ?_
              refine K_iload_n (pc := 44) (i := 26) rfl rfl ?_
              refine K_iconst (pc := 45) (i := 27) rfl ?_
              refine K_iadd (pc := 46) (i := 28) rfl ?_
              refine K_iload_n (pc := 47) (i := 29) rfl rfl ?_
              refine K_cSI (pc := 48) (i := 30) rfl (c_Seen_rowsFrom2 G (x1 := x1 + 1) (x2 := x2) (hS := SeS_of sf34 hS) (hI := hI) (s1 := by omega) (s2 := by omega)) (ls_Seen_55 rfl) rfl rfl rfl rfl (fun v48 h48 q48 => ?_)
              obtain ⟨fx48, q48⟩ := q48
              obtain ⟨hI, r48, rw48⟩ := q48
              have fx := fx.tr fx48 (fun c i q => (by first | (dsimp only at q ⊢; omega) | omega))
              have rj48 := RJ.of (ha := ha) (z := v48) (d := d) hS sf34 e34 u34.1 u34.2 (r37.elim (fun q => q.2) (fun q => absurd q.1 (by omega))) (by have q := rw48; rw [show (x1 + 1).toNat = x1.toNat + 1 by omega, show (x2 - (x1 + 1)).toNat = d by omega] at q; exact q)
              refine K_goto 55 (pc := 51) (i := 31) rfl rfl ?_
              refine K_ist (pc := 55) (i := 33) (lo' := [(0, _), (1, _), (2, _), (3, _), (4, _), (5, _)]) rfl rfl rfl rfl ?_
              refine K_iload (pc := 57) (i := 34) rfl rfl ?_
              first | refine K_if_le 101 (pc := 59) (i := 35) rfl rfl (by omega) (fun b59 => ?_) (fun b59 => ?_) | refine K_if_le_an 101 (pc := 59) (i := 35) rfl rfl (fun b59 => ?_) (fun b59 => ?_)
              · skip
                refine K_inc (pc := 101) (i := 60) (q := 4) (lo' := [(0, _), (1, _), (2, _), (3, _), (4, _), (5, _)]) rfl rfl rfl rfl rfl ?_
                refine K_goto 17 (pc := 104) (i := 61) rfl rfl ?_
                refine K_drop (lo' := [(0, .ref (G.2.2.2 169)), (1, kI x1), (2, kI x2), (3, kI x3), (4, kI (x4 + 1))]) [0, 1, 2, 3, 4] rfl ?_
                exact ih17 x3 (x4 + 1) _ (by omega) hI fx (by first | exact ⟨by omega, RI.no hS hV17.2 (by omega) rj40.1 rj40.2 (Int.le_refl 0)⟩ | exact ⟨by omega, RI.no hS hV17.2 (by omega) rj48.1 rj48.2 (by omega)⟩ | exact ⟨by omega, RI.yes hS hV17.2 (by omega) rj48.1 rj48.2 (by omega) ((kU_c _ _ _ _ (by decide)).trans (kU_c _ _ _ _ (by decide))) (fun j => by rw [kU_c _ _ _ _ (by decide), kU_s, e80, e77]) (fun j => by rw [kU_s, e97, e94, kU_c _ _ _ _ (by decide)]; try rw [kU_c _ _ _ _ (by decide)])⟩ | exact False.elim (by omega))
              · skip
                refine K_iload_n (pc := 62) (i := 36) rfl rfl ?_
                refine K_iload (pc := 63) (i := 37) rfl rfl ?_
                refine K_iadd (pc := 65) (i := 38) rfl ?_
                refine K_ist_n (pc := 66) (i := 39) (lo' := [(0, _), (1, _), (2, _), (3, _), (4, _), (5, _)]) rfl rfl rfl rfl ?_
                refine K_aload_n (pc := 67) (i := 40) rfl rfl ?_
                refine K_getR (pc := 68) (i := 41) (j := 4) (d := 180) rfl S_169 rfl (by decide) rfl fw_Seen_29 ?_
                refine K_iload_n (pc := 71) (i := 42) rfl rfl ?_
                refine K_aload_n (pc := 72) (i := 43) rfl rfl ?_
                refine K_getR (pc := 73) (i := 44) (j := 4) (d := 180) rfl S_169 rfl (by decide) rfl fw_Seen_29 ?_
                refine K_iload_n (pc := 76) (i := 45) rfl rfl ?_
                refine K_iald (pc := 77) (i := 46) rfl S_180 (by omega) (by omega) (by decide) ?_
                refine K_nm (fun v77 e77 => ?_)
                have r77 := rd_least hI (x1).toNat
                rw [← e77] at r77
                refine K_iload (pc := 78) (i := 47) rfl rfl ?_
                refine K_mmin (pc := 80) (i := 48) rfl mw_Seen_39 (by omega) (by omega) (Nat.le_of_ble_eq_true rfl) ⟨Nat.le_of_ble_eq_true rfl, Nat.le_of_ble_eq_true rfl⟩ ⟨Nat.le_of_ble_eq_true rfl, Nat.le_of_ble_eq_true rfl⟩ ?_
                refine K_nm (fun v80 e80 => ?_)
                refine K_iast (pc := 83) (i := 49) rfl S_180 (by omega) (by omega) (by decide) ?_
                have hI := st_least hI (i := (x1).toNat) (v := v80) (by omega)
                have fx := Fx.st (c := 180) (i := (x1).toNat) (v := v80) fx (by first | (dsimp only; omega) | omega | exact not_false)
                refine K_aload_n (pc := 84) (i := 50) rfl rfl ?_
                refine K_getR (pc := 85) (i := 51) (j := 5) (d := 181) rfl S_169 rfl (by decide) rfl fw_Seen_32 ?_
                refine K_iload_n (pc := 88) (i := 52) rfl rfl ?_
                refine K_aload_n (pc := 89) (i := 53) rfl rfl ?_
                refine K_getR (pc := 90) (i := 54) (j := 5) (d := 181) rfl S_169 rfl (by decide) rfl fw_Seen_32 ?_
                refine K_iload_n (pc := 93) (i := 55) rfl rfl ?_
                refine K_iald (pc := 94) (i := 56) rfl S_181 (by omega) (by omega) (by decide) ?_
                refine K_nm (fun v94 e94 => ?_)
                have r94 := rd_greatest hI (x1).toNat
                rw [← e94] at r94
                refine K_iload (pc := 95) (i := 57) rfl rfl ?_
                refine K_mmax (pc := 97) (i := 58) rfl mw_Seen_45 (by omega) (by omega) (Nat.le_of_ble_eq_true rfl) ⟨Nat.le_of_ble_eq_true rfl, Nat.le_of_ble_eq_true rfl⟩ ⟨Nat.le_of_ble_eq_true rfl, Nat.le_of_ble_eq_true rfl⟩ ?_
                refine K_nm (fun v97 e97 => ?_)
                refine K_iast (pc := 100) (i := 59) rfl S_181 (by omega) (by omega) (by decide) ?_
                have hI := st_greatest hI (i := (x1).toNat) (v := v97) (by omega)
                have fx := Fx.st (c := 181) (i := (x1).toNat) (v := v97) fx (by first | (dsimp only; omega) | omega | exact not_false)
                refine K_inc (pc := 101) (i := 60) (q := 4) (lo' := [(0, _), (1, _), (2, _), (3, _), (4, _), (5, _)]) rfl rfl rfl rfl rfl ?_
                refine K_goto 17 (pc := 104) (i := 61) rfl rfl ?_
                refine K_drop (lo' := [(0, .ref (G.2.2.2 169)), (1, kI x1), (2, kI x2), (3, kI (x3 + v48)), (4, kI (x4 + 1))]) [0, 1, 2, 3, 4] rfl ?_
                exact ih17 (x3 + v48) (x4 + 1) _ (by omega) hI fx (by first | exact ⟨by omega, RI.no hS hV17.2 (by omega) rj40.1 rj40.2 (Int.le_refl 0)⟩ | exact ⟨by omega, RI.no hS hV17.2 (by omega) rj48.1 rj48.2 (by omega)⟩ | exact ⟨by omega, RI.yes hS hV17.2 (by omega) rj48.1 rj48.2 (by omega) ((kU_c _ _ _ _ (by decide)).trans (kU_c _ _ _ _ (by decide))) (fun j => by rw [kU_c _ _ _ _ (by decide), kU_s, e80, e77]) (fun j => by rw [kU_s, e97, e94, kU_c _ _ _ _ (by decide)]; try rw [kU_c _ _ _ _ (by decide)])⟩ | exact False.elim (by omega))
      exact L17 _ 0 1 _ (Nat.lt_succ_self _) hI fx ⟨by omega, RI.z⟩
    · skip
      refine K_iconst (pc := 10) (i := 6) rfl ?_
      exact K_retI (pc := 11) (i := 7) rfl rfl ⟨fx, ⟨hI, by omega, by rw [show (x2 - x1).toNat = 0 by omega]; exact RWo.z⟩⟩
set_option maxHeartbeats 4000000 in
set_option maxRecDepth 100000 in
theorem c_Seen_rowsFrom0 (G : kG) {g : kGh} {h : kH}  (hS : SeS h){x1 : Int} {x2 : Int} (s1 : 0 ≤ x1 ∧ x1 ≤ 4) (s2 : 0 ≤ x2 ∧ x2 ≤ 4) (hI : Gd g h) : Ctr G y_Seen_rowsFrom X_Seen_rowsFrom 10 [.ref (G.2.2.2 169), kI x1, kI x2] h (kQi (fun z h' => Fx (fun c i => c = 177 ∨ c = 180 ∨ c = 181) h h' ∧ (Gd g h' ∧ (0 ≤ z ∧ z ≤ 6561) ∧ RWo h h' x1.toNat (x2 - x1).toNat z))) := by
  refine Ctr.ofK (by decide) rfl T_Seen_rowsFrom (Nat.le_of_ble_eq_true rfl) (lo := [(0, .ref (G.2.2.2 169)), (1, kI x1), (2, kI x2)]) rfl ?_
  have fx : Fx (fun c i => c = 177 ∨ c = 180 ∨ c = 181) h h := Fx.rf
  refine K_iload_n (pc := 0) (i := 0) rfl rfl ?_
  refine K_iload_n (pc := 1) (i := 1) rfl rfl ?_
  first | refine K_icmp_ge 10 (pc := 2) (i := 2) rfl rfl (by omega) (by omega) (fun b2 => ?_) (fun b2 => ?_) | refine K_icmp_ge_an 10 (pc := 2) (i := 2) rfl rfl (fun b2 => ?_) (fun b2 => ?_)
  · skip
    refine K_iconst (pc := 10) (i := 6) rfl ?_
    exact K_retI (pc := 11) (i := 7) rfl rfl ⟨fx, ⟨hI, by omega, by rw [show (x2 - x1).toNat = 0 by omega]; exact RWo.z⟩⟩
  · skip
    refine K_iload_n (pc := 5) (i := 3) rfl rfl ?_
    refine K_iconst (pc := 6) (i := 4) rfl ?_
    first | refine K_icmp_lt 12 (pc := 7) (i := 5) rfl rfl (by omega) (by omega) (fun b7 => ?_) (fun b7 => ?_) | refine K_icmp_lt_an 12 (pc := 7) (i := 5) rfl rfl (fun b7 => ?_) (fun b7 => ?_)
    · skip
      obtain ⟨d, ed⟩ : ∃ d : Nat, (x2 - x1).toNat = d + 1 := ⟨(x2 - x1).toNat - 1, by omega⟩
      refine K_iconst (pc := 12) (i := 8) rfl ?_
      refine K_ist_n (pc := 13) (i := 9) (lo' := [(0, _), (1, _), (2, _), (3, _)]) rfl rfl rfl rfl ?_
      refine K_iconst (pc := 14) (i := 10) rfl ?_
      refine K_ist (pc := 15) (i := 11) (lo' := [(0, _), (1, _), (2, _), (3, _), (4, _)]) rfl rfl rfl rfl ?_
      have L17 : ∀ (n : Nat) (x3 : Int) (x4 : Int) (ha : kH), (10 - x4).toNat < n → (Gd g ha) → (Fx (fun c i => c = 177 ∨ c = 180 ∨ c = 181) h ha) → ((1 ≤ x4 ∧ x4 ≤ 10) ∧ RI h ha x1.toNat d x3 x4) → K X_Seen_rowsFrom G (kZm G 10 (kQi (fun z h' => Fx (fun c i => c = 177 ∨ c = 180 ∨ c = 181) h h' ∧ (Gd g h' ∧ (0 ≤ z ∧ z ≤ 6561) ∧ RWo h h' x1.toNat (x2 - x1).toNat z)))) 17 [(0, .ref (G.2.2.2 169)), (1, kI x1), (2, kI x2), (3, kI x3), (4, kI x4)] [] ha := by
        intro n
        induction n with
        | zero => intro x3 x4 ha hm; exact absurd hm (Nat.not_lt_zero _)
        | succ n ih17 =>
          intro x3 x4 ha hm17 hI fx hV17
          refine K_iload (pc := 17) (i := 12) rfl rfl ?_
          refine K_bipush (pc := 19) (i := 13) rfl rfl ?_
          first | refine K_icmp_gt 107 (pc := 21) (i := 14) rfl rfl (by omega) (by omega) (fun b21 => ?_) (fun b21 => ?_) | refine K_icmp_gt_an 107 (pc := 21) (i := 14) rfl rfl (fun b21 => ?_) (fun b21 => ?_)
          · skip
            refine K_iload_n (pc := 107) (i := 62) rfl rfl ?_
            exact K_retI (pc := 108) (i := 63) rfl rfl ⟨fx, (by have q := hV17.2.end (by omega); rw [ed]; exact ⟨hI, q.bd (by omega), q⟩)⟩
          · skip
            refine K_aload_n (pc := 24) (i := 15) rfl rfl ?_
            refine K_getR (pc := 25) (i := 16) (j := 3) (d := 173) rfl S_169 rfl (by decide) rfl fw_Seen_25 ?_
            refine K_getR (pc := 28) (i := 17) (j := 3) (d := 177) rfl (S_Fl fl173) rfl (by decide) rfl fw_Seen_59 ?_
            refine K_iload_n (pc := 31) (i := 18) rfl rfl ?_
            refine K_iload (pc := 32) (i := 19) rfl rfl ?_
            refine K_iast (pc := 34) (i := 20) rfl (S_Fl4 fl173) (by omega) (by omega) (by decide) ?_
            have hI := st_height hI fl173 (i := (x1).toNat) (v := x4) (by omega)
            have fx := Fx.st (c := 177) (i := (x1).toNat) (v := x4) fx (by first | (dsimp only; omega) | omega | exact not_false)
            have sf34 : ∀ c, 169 ≤ c → c ≤ 176 → (kU ha 177 ((x1).toNat) x4) c = h c := fun c p q => fx.cell c (fun i => (by first | (dsimp only; omega) | omega | exact not_false))
            have e34 : ∀ i, i ≤ x1.toNat → (kU ha 177 ((x1).toNat) x4) 177 i = upH (h 177) x1.toNat x4 i := fun i hi => by rw [kU_s]; unfold upH; by_cases p : i = x1.toNat; (rw [if_pos p, if_pos p]); (rw [if_neg p, if_neg p]; exact hV17.2.2.1 i (by omega))
            have u34 : (kU ha 177 ((x1).toNat) x4) 180 = ha 180 ∧ (kU ha 177 ((x1).toNat) x4) 181 = ha 181 := ⟨kU_c _ _ _ _ (by decide), kU_c _ _ _ _ (by decide)⟩
            refine K_aload_n (pc := 35) (i := 21) rfl rfl ?_
            refine K_iload_n (pc := 36) (i := 22) rfl rfl ?_
            refine K_cVI (pc := 37) (i := 23) rfl (c_Seen_agrees G (x1 := x1) (hI := hI) (s1 := by omega)) S_169 rfl (lv_Seen_62 rfl) rfl rfl rfl rfl rfl (fun v37 h37 q37 => ?_)
            obtain ⟨eh, r37⟩ := q37
            rw [eh]; clear eh
            have k37 : v37 = 0 ∨ v37 = 1 := r37.elim (fun q => Or.inr q.1) (fun q => Or.inl q.1)
            rw [agH_of sf34, agH_loc hS _ _ x1.toNat e34] at r37
            first | refine K_if_eq 54 (pc := 40) (i := 24) rfl rfl (by omega) (fun b40 => ?_) (fun b40 => ?_) | refine K_if_eq_an 54 (pc := 40) (i := 24) rfl rfl (fun b40 => ?_) (fun b40 => ?_)
            · skip
              have rj40 := RJ.none (h := h) (ha := ha) (k := x1.toNat) (d := d) (x4 := x4) (hb := kU ha 177 ((x1).toNat) x4) (fun i hi => by rw [kU_s, if_neg (by omega)]; exact hV17.2.2.1 i hi) u34.1 u34.2 (r37.elim (fun q => absurd q.1 (by omega)) (fun q => q.2))
              refine K_iconst (pc := 54) (i := 32) rfl ?_
              refine K_ist (pc := 55) (i := 33) (lo' := [(0, _), (1, _), (2, _), (3, _), (4, _), (5, _)]) rfl rfl rfl rfl ?_
              refine K_iload (pc := 57) (i := 34) rfl rfl ?_
              refine K_if_le 101 (pc := 59) (i := 35) rfl rfl (by omega) (fun _ => ?_) (fun b59 => False.elim (by omega))
              refine K_inc (pc := 101) (i := 60) (q := 4) (lo' := [(0, _), (1, _), (2, _), (3, _), (4, _), (5, _)]) rfl rfl rfl rfl rfl ?_
              refine K_goto 17 (pc := 104) (i := 61) rfl rfl ?_
              refine K_drop (lo' := [(0, .ref (G.2.2.2 169)), (1, kI x1), (2, kI x2), (3, kI x3), (4, kI (x4 + 1))]) [0, 1, 2, 3, 4] rfl ?_
              exact ih17 x3 (x4 + 1) _ (by omega) hI fx (by first | exact ⟨by omega, RI.no hS hV17.2 (by omega) rj40.1 rj40.2 (Int.le_refl 0)⟩ | exact ⟨by omega, RI.no hS hV17.2 (by omega) rj48.1 rj48.2 (by omega)⟩ | exact ⟨by omega, RI.yes hS hV17.2 (by omega) rj48.1 rj48.2 (by omega) ((kU_c _ _ _ _ (by decide)).trans (kU_c _ _ _ _ (by decide))) (fun j => by rw [kU_c _ _ _ _ (by decide), kU_s, e80, e77]) (fun j => by rw [kU_s, e97, e94, kU_c _ _ _ _ (by decide)]; try rw [kU_c _ _ _ _ (by decide)])⟩ | exact False.elim (by omega))
            · skip
              refine K_aload_n (pc := 43) (i := 25) rfl rfl ?_
              refine K_iload_n (pc := 44) (i := 26) rfl rfl ?_
              refine K_iconst (pc := 45) (i := 27) rfl ?_
              refine K_iadd (pc := 46) (i := 28) rfl ?_
              refine K_iload_n (pc := 47) (i := 29) rfl rfl ?_
              refine K_cSI (pc := 48) (i := 30) rfl (c_Seen_rowsFrom1 G (x1 := x1 + 1) (x2 := x2) (hS := SeS_of sf34 hS) (hI := hI) (s1 := by omega) (s2 := by omega)) (ls_Seen_55 rfl) rfl rfl rfl rfl (fun v48 h48 q48 => ?_)
              obtain ⟨fx48, q48⟩ := q48
              obtain ⟨hI, r48, rw48⟩ := q48
              have fx := fx.tr fx48 (fun c i q => (by first | (dsimp only at q ⊢; omega) | omega))
              have rj48 := RJ.of (ha := ha) (z := v48) (d := d) hS sf34 e34 u34.1 u34.2 (r37.elim (fun q => q.2) (fun q => absurd q.1 (by omega))) (by have q := rw48; rw [show (x1 + 1).toNat = x1.toNat + 1 by omega, show (x2 - (x1 + 1)).toNat = d by omega] at q; exact q)
              refine K_goto 55 (pc := 51) (i := 31) rfl rfl ?_
              refine K_ist (pc := 55) (i := 33) (lo' := [(0, _), (1, _), (2, _), (3, _), (4, _), (5, _)]) rfl rfl rfl rfl ?_
              refine K_iload (pc := 57) (i := 34) rfl rfl ?_
              first | refine K_if_le 101 (pc := 59) (i := 35) rfl rfl (by omega) (fun b59 => ?_) (fun b59 => ?_) | refine K_if_le_an 101 (pc := 59) (i := 35) rfl rfl (fun b59 => ?_) (fun b59 => ?_)
              · skip
                refine K_inc (pc := 101) (i := 60) (q := 4) (lo' := [(0, _), (1, _), (2, _), (3, _), (4, _), (5, _)]) rfl rfl rfl rfl rfl ?_
                refine K_goto 17 (pc := 104) (i := 61) rfl rfl ?_
                refine K_drop (lo' := [(0, .ref (G.2.2.2 169)), (1, kI x1), (2, kI x2), (3, kI x3), (4, kI (x4 + 1))]) [0, 1, 2, 3, 4] rfl ?_
                exact ih17 x3 (x4 + 1) _ (by omega) hI fx (by first | exact ⟨by omega, RI.no hS hV17.2 (by omega) rj40.1 rj40.2 (Int.le_refl 0)⟩ | exact ⟨by omega, RI.no hS hV17.2 (by omega) rj48.1 rj48.2 (by omega)⟩ | exact ⟨by omega, RI.yes hS hV17.2 (by omega) rj48.1 rj48.2 (by omega) ((kU_c _ _ _ _ (by decide)).trans (kU_c _ _ _ _ (by decide))) (fun j => by rw [kU_c _ _ _ _ (by decide), kU_s, e80, e77]) (fun j => by rw [kU_s, e97, e94, kU_c _ _ _ _ (by decide)]; try rw [kU_c _ _ _ _ (by decide)])⟩ | exact False.elim (by omega))
              · skip
                refine K_iload_n (pc := 62) (i := 36) rfl rfl ?_
                refine K_iload (pc := 63) (i := 37) rfl rfl ?_
                refine K_iadd (pc := 65) (i := 38) rfl ?_
                refine K_ist_n (pc := 66) (i := 39) (lo' := [(0, _), (1, _), (2, _), (3, _), (4, _), (5, _)]) rfl rfl rfl rfl ?_
                refine K_aload_n (pc := 67) (i := 40) rfl rfl ?_
                refine K_getR (pc := 68) (i := 41) (j := 4) (d := 180) rfl S_169 rfl (by decide) rfl fw_Seen_29 ?_
                refine K_iload_n (pc := 71) (i := 42) rfl rfl ?_
                refine K_aload_n (pc := 72) (i := 43) rfl rfl ?_
                refine K_getR (pc := 73) (i := 44) (j := 4) (d := 180) rfl S_169 rfl (by decide) rfl fw_Seen_29 ?_
                refine K_iload_n (pc := 76) (i := 45) rfl rfl ?_
                refine K_iald (pc := 77) (i := 46) rfl S_180 (by omega) (by omega) (by decide) ?_
                refine K_nm (fun v77 e77 => ?_)
                have r77 := rd_least hI (x1).toNat
                rw [← e77] at r77
                refine K_iload (pc := 78) (i := 47) rfl rfl ?_
                refine K_mmin (pc := 80) (i := 48) rfl mw_Seen_39 (by omega) (by omega) (Nat.le_of_ble_eq_true rfl) ⟨Nat.le_of_ble_eq_true rfl, Nat.le_of_ble_eq_true rfl⟩ ⟨Nat.le_of_ble_eq_true rfl, Nat.le_of_ble_eq_true rfl⟩ ?_
                refine K_nm (fun v80 e80 => ?_)
                refine K_iast (pc := 83) (i := 49) rfl S_180 (by omega) (by omega) (by decide) ?_
                have hI := st_least hI (i := (x1).toNat) (v := v80) (by omega)
                have fx := Fx.st (c := 180) (i := (x1).toNat) (v := v80) fx (by first | (dsimp only; omega) | omega | exact not_false)
                refine K_aload_n (pc := 84) (i := 50) rfl rfl ?_
                refine K_getR (pc := 85) (i := 51) (j := 5) (d := 181) rfl S_169 rfl (by decide) rfl fw_Seen_32 ?_
                refine K_iload_n (pc := 88) (i := 52) rfl rfl ?_
                refine K_aload_n (pc := 89) (i := 53) rfl rfl ?_
                refine K_getR (pc := 90) (i := 54) (j := 5) (d := 181) rfl S_169 rfl (by decide) rfl fw_Seen_32 ?_
                refine K_iload_n (pc := 93) (i := 55) rfl rfl ?_
                refine K_iald (pc := 94) (i := 56) rfl S_181 (by omega) (by omega) (by decide) ?_
                refine K_nm (fun v94 e94 => ?_)
                have r94 := rd_greatest hI (x1).toNat
                rw [← e94] at r94
                refine K_iload (pc := 95) (i := 57) rfl rfl ?_
                refine K_mmax (pc := 97) (i := 58) rfl mw_Seen_45 (by omega) (by omega) (Nat.le_of_ble_eq_true rfl) ⟨Nat.le_of_ble_eq_true rfl, Nat.le_of_ble_eq_true rfl⟩ ⟨Nat.le_of_ble_eq_true rfl, Nat.le_of_ble_eq_true rfl⟩ ?_
                refine K_nm (fun v97 e97 => ?_)
                refine K_iast (pc := 100) (i := 59) rfl S_181 (by omega) (by omega) (by decide) ?_
                have hI := st_greatest hI (i := (x1).toNat) (v := v97) (by omega)
                have fx := Fx.st (c := 181) (i := (x1).toNat) (v := v97) fx (by first | (dsimp only; omega) | omega | exact not_false)
                refine K_inc (pc := 101) (i := 60) (q := 4) (lo' := [(0, _), (1, _), (2, _), (3, _), (4, _), (5, _)]) rfl rfl rfl rfl rfl ?_
                refine K_goto 17 (pc := 104) (i := 61) rfl rfl ?_
                refine K_drop (lo' := [(0, .ref (G.2.2.2 169)), (1, kI x1), (2, kI x2), (3, kI (x3 + v48)), (4, kI (x4 + 1))]) [0, 1, 2, 3, 4] rfl ?_
                exact ih17 (x3 + v48) (x4 + 1) _ (by omega) hI fx (by first | exact ⟨by omega, RI.no hS hV17.2 (by omega) rj40.1 rj40.2 (Int.le_refl 0)⟩ | exact ⟨by omega, RI.no hS hV17.2 (by omega) rj48.1 rj48.2 (by omega)⟩ | exact ⟨by omega, RI.yes hS hV17.2 (by omega) rj48.1 rj48.2 (by omega) ((kU_c _ _ _ _ (by decide)).trans (kU_c _ _ _ _ (by decide))) (fun j => by rw [kU_c _ _ _ _ (by decide), kU_s, e80, e77]) (fun j => by rw [kU_s, e97, e94, kU_c _ _ _ _ (by decide)]; try rw [kU_c _ _ _ _ (by decide)])⟩ | exact False.elim (by omega))
      exact L17 _ 0 1 _ (Nat.lt_succ_self _) hI fx ⟨by omega, RI.z⟩
    · skip
      refine K_iconst (pc := 10) (i := 6) rfl ?_
      exact K_retI (pc := 11) (i := 7) rfl rfl ⟨fx, ⟨hI, by omega, by rw [show (x2 - x1).toNat = 0 by omega]; exact RWo.z⟩⟩
end
section
/-- what was seen, over the fleet f -/
def agF (h : kH) (f : Nat) (H : Nat → Int) (k : Nat) : Prop := ∀ s : Nat, (s : Int) < h 169 6 → h 171 s = k → (crC (h (f + 2) (h 170 s).toNat) (h (f + 3) (h 170 s).toNat) (H (h 170 s).toNat) (h (f + 2) k) (h (f + 3) k) (H k) ↔ h 172 s = 1)
def RowsC (h : kH) (f n : Nat) (z : Int) (l gr : Nat → Int) : Prop := z = NR (agF h f) n 0 (fun _ => 0) ∧ ∀ j, j < n → MNr (CPr (agF h f) n 0 (fun _ => 0)) j 9 (l j) ∧ MXr (CPr (agF h f) n 0 (fun _ => 0)) j 1 (gr j)
theorem agF_iff {h h1 : kH} {f n : Nat} (hS : SeS h) (fc : FC h1 173 h f) (hn : (n : Int) ≤ h f 6) (e : ∀ c, 169 ≤ c → c ≤ 172 → h1 c = h c) (k0 : ∀ s : Nat, 0 ≤ h 170 s) (G : Nat → Int) (i : Nat) (hi : i < n) : agH h1 G i ↔ agF h f G i := by
  have key : ∀ s : Nat, (s : Int) < h 169 6 → h 171 s = i → h1 175 (h 170 s).toNat = h (f + 2) (h 170 s).toNat ∧ h1 176 (h 170 s).toNat = h (f + 3) (h 170 s).toNat := fun s hs hk => by
    have := hS s hs
    have := k0 s
    exact ⟨fc.2.1 (h 170 s).toNat 1 (by omega) (by omega), fc.2.1 (h 170 s).toNat 2 (by omega) (by omega)⟩
  have i1 : h1 175 i = h (f + 2) i := fc.2.1 i 1 (by omega) (by omega)
  have i2 : h1 176 i = h (f + 3) i := fc.2.1 i 2 (by omega) (by omega)
  unfold agH agF
  rw [e 169 (by omega) (by omega), e 170 (by omega) (by omega), e 171 (by omega) (by omega), e 172 (by omega) (by omega)]
  constructor
  · intro a s hs hk
    have q := a s hs hk
    rw [(key s hs hk).1, (key s hs hk).2, i1, i2] at q
    exact q
  · intro a s hs hk
    rw [(key s hs hk).1, (key s hs hk).2, i1, i2]
    exact a s hs hk
theorem RowsC.mk {h h1 h2 : kH} {f n : Nat} {z : Int} (hS : SeS h) (fc : FC h1 173 h f) (hn : (n : Int) ≤ h f 6) (e : ∀ c, 169 ≤ c → c ≤ 172 → h1 c = h c) (k0 : ∀ s : Nat, 0 ≤ h 170 s) (i8 : ∀ j, j < 4 → h1 180 j = 9 ∧ h1 181 j = 1) (n4 : n ≤ 4) (r : RWo h1 h2 0 n z) : RowsC h f n z (h2 180) (h2 181) := by
  obtain ⟨r1, -, -, r4⟩ := r
  have ag : ∀ (G : Nat → Int) (i : Nat), 0 ≤ i → i < 0 + n → (agH h1 G i ↔ agF h f G i) := fun G i _ hi => agF_iff hS fc hn e k0 G i (by omega)
  have hS1 : SeS h1 := by
    unfold SeS
    rw [e 169 (by omega) (by omega), e 170 (by omega) (by omega), e 171 (by omega) (by omega)]
    exact hS
  have cp : ∀ G, CPr (agH h1) n 0 (h1 177) G ↔ CPr (agF h f) n 0 (fun _ => 0) G := fun G => by
    rw [CPr_cA ag]
    constructor
    · rintro ⟨-, b⟩
      exact ⟨fun i hi => absurd hi (by omega), b⟩
    · rintro ⟨-, b⟩
      exact ⟨fun i hi => absurd hi (by omega), b⟩
  refine ⟨?_, fun j hj => ?_⟩
  · rw [r1, NR_c (agH_loc hS1) n 0 (h1 177) (fun _ => 0) (fun i hi => absurd hi (by omega)), NR_cA n 0 _ ag]
  · have t := r4 j (by omega) (by omega)
    rw [(i8 j (by omega)).1, (i8 j (by omega)).2] at t
    exact ⟨t.1.cg cp, t.2.cg cp⟩
set_option maxHeartbeats 4000000 in
set_option maxRecDepth 100000 in
theorem c_Seen_countRows (G : kG) {g : kGh} {h : kH} {f : Nat} (hf : f ∈ FL) (hr : f + 7 ≤ 160) (hS : SeS h) (hI : Gd g h) : Ctr G y_Seen_countRows X_Seen_countRows 11 [.ref (G.2.2.2 169), .ref (G.2.2.2 f)] h (kQi (fun z h' => Fx (fun c i => 173 ≤ c ∧ c ≤ 181) h h' ∧ (Gd g h' ∧ (0 ≤ z ∧ z ≤ 6561) ∧ RowsC h f (min 4 (h f 6)).toNat z (h' 180) (h' 181)))) := by
  refine Ctr.ofK (by decide) rfl T_Seen_countRows (Nat.le_of_ble_eq_true rfl) (lo := [(0, .ref (G.2.2.2 169)), (1, .ref (G.2.2.2 f))]) rfl ?_
  have fx : Fx (fun c i => 173 ≤ c ∧ c ≤ 181) h h := Fx.rf
  have n00 := rd_kites hI hf
  have k00 : ∀ s : Nat, 0 ≤ h 170 s := fun s => (rd_seenkite hI s).1
  refine K_aload_n (pc := 0) (i := 0) rfl rfl ?_
  refine K_getR (pc := 1) (i := 1) (j := 3) (d := 173) rfl S_169 rfl (by decide) rfl fw_Seen_25 ?_
  refine K_aload_n (pc := 4) (i := 2) rfl rfl ?_
  refine K_cVV (pc := 5) (i := 3) rfl (c_Fleet_copyFrom G (f := 173) (hf := fl173) (f2 := f) (hf2 := hf) (hI := hI) (dj := by omega)) (S_Fl fl173) rfl (lv_Seen_48 rfl) rfl rfl rfl rfl rfl (fun h5 q5 => ?_)
  obtain ⟨fx5, q5⟩ := q5
  obtain ⟨hI, fr5, fc5⟩ := q5
  have fx := fx.tr fx5 (fun c i q => (by first | (dsimp only at q ⊢; omega) | omega))
  refine K_iconst (pc := 8) (i := 4) rfl ?_
  refine K_ist_n (pc := 9) (i := 5) (lo' := [(0, _), (1, _), (2, _)]) rfl rfl rfl rfl ?_
  have L10 : ∀ (n : Nat) (x2 : Int) (ha : kH), (4 - x2).toNat < n → (Gd g ha) → (Fx (fun c i => 173 ≤ c ∧ c ≤ 181) h ha) → ((0 ≤ x2 ∧ x2 ≤ 4) ∧ (∀ j : Nat, (j : Int) < x2 → ha 180 j = 9 ∧ ha 181 j = 1) ∧ ∀ c, c ≠ 180 → c ≠ 181 → ha c = h5 c) → K X_Seen_countRows G (kZm G 11 (kQi (fun z h' => Fx (fun c i => 173 ≤ c ∧ c ≤ 181) h h' ∧ (Gd g h' ∧ (0 ≤ z ∧ z ≤ 6561) ∧ RowsC h f (min 4 (h f 6)).toNat z (h' 180) (h' 181))))) 10 [(0, .ref (G.2.2.2 169)), (1, .ref (G.2.2.2 f)), (2, kI x2)] [] ha := by
    intro n
    induction n with
    | zero => intro x2 ha hm; exact absurd hm (Nat.not_lt_zero _)
    | succ n ih10 =>
      intro x2 ha hm10 hI fx hV10
      refine K_iload_n (pc := 10) (i := 6) rfl rfl ?_
      refine K_iconst (pc := 11) (i := 7) rfl ?_
      first | refine K_icmp_ge 36 (pc := 12) (i := 8) rfl rfl (by omega) (by omega) (fun b12 => ?_) (fun b12 => ?_) | refine K_icmp_ge_an 36 (pc := 12) (i := 8) rfl rfl (fun b12 => ?_) (fun b12 => ?_)
      · skip
        have e36 : ∀ c, 169 ≤ c → c ≤ 172 → ha c = h c := fun c p q => fx.cell c (fun i => (by first | (dsimp only; omega) | omega | exact not_false))
        have hSa : SeS ha := by unfold SeS; rw [e36 169 (by omega) (by omega), e36 170 (by omega) (by omega), e36 171 (by omega) (by omega)]; exact hS
        have fc36 : FC ha 173 h f := fc5.tr (FC.same (fun c p q => hV10.2.2 c (by omega) (by omega)))
        refine K_aload_n (pc := 36) (i := 21) rfl rfl ?_
        refine K_iconst (pc := 37) (i := 22) rfl ?_
        refine K_iconst (pc := 38) (i := 23) rfl ?_
        refine K_aload_n (pc := 39) (i := 24) rfl rfl ?_
        refine K_getI (pc := 40) (i := 25) (j := 6) rfl (S_Fl hf) rfl (by decide) rfl fw_Seen_52 ?_
        refine K_nm (fun v40 e40 => ?_)
        have r40 := rd_kites hI hf
        rw [← e40] at r40
        have n40 : v40 = h f 6 := by rw [e40]; exact fx f 6 (by first | (dsimp only; omega) | omega | exact not_false)
        refine K_mmin (pc := 43) (i := 26) rfl mw_Seen_39 (by omega) (by omega) (Nat.le_of_ble_eq_true rfl) ⟨Nat.le_of_ble_eq_true rfl, Nat.le_of_ble_eq_true rfl⟩ ⟨Nat.le_of_ble_eq_true rfl, Nat.le_of_ble_eq_true rfl⟩ ?_
        refine K_nm (fun v43 e43 => ?_)
        refine K_cSI (pc := 46) (i := 27) rfl (c_Seen_rowsFrom0 G (x1 := 0) (x2 := v43) (hS := hSa) (hI := hI) (s1 := by omega) (s2 := by omega)) (ls_Seen_55 rfl) rfl rfl rfl rfl (fun v46 h46 q46 => ?_)
        obtain ⟨fx46, q46⟩ := q46
        obtain ⟨hI, r46, rw46⟩ := q46
        have fx := fx.tr fx46 (fun c i q => (by first | (dsimp only at q ⊢; omega) | omega))
        exact K_retI (pc := 49) (i := 28) rfl rfl ⟨fx, ⟨hI, by omega, RowsC.mk hS fc36 (by omega) e36 k00 (fun j hj => hV10.2.1 j (by omega)) (by omega) (by have q := rw46; rw [show (v43 - 0).toNat = (min 4 (h f 6)).toNat by omega] at q; exact q)⟩⟩
      · skip
        refine K_aload_n (pc := 15) (i := 9) rfl rfl ?_
        refine K_getR (pc := 16) (i := 10) (j := 4) (d := 180) rfl S_169 rfl (by decide) rfl fw_Seen_29 ?_
        refine K_iload_n (pc := 19) (i := 11) rfl rfl ?_
        refine K_bipush (pc := 20) (i := 12) rfl rfl ?_
        refine K_iast (pc := 22) (i := 13) rfl S_180 (by omega) (by omega) (by decide) ?_
        have hI := st_least hI (i := (x2).toNat) (v := 9) (by omega)
        have fx := Fx.st (c := 180) (i := (x2).toNat) (v := 9) fx (by first | (dsimp only; omega) | omega | exact not_false)
        have w22 : True := trivial
        refine K_aload_n (pc := 23) (i := 14) rfl rfl ?_
        refine K_getR (pc := 24) (i := 15) (j := 5) (d := 181) rfl S_169 rfl (by decide) rfl fw_Seen_32 ?_
        refine K_iload_n (pc := 27) (i := 16) rfl rfl ?_
        refine K_iconst (pc := 28) (i := 17) rfl ?_
        refine K_iast (pc := 29) (i := 18) rfl S_181 (by omega) (by omega) (by decide) ?_
        have hI := st_greatest hI (i := (x2).toNat) (v := 1) (by omega)
        have fx := Fx.st (c := 181) (i := (x2).toNat) (v := 1) fx (by first | (dsimp only; omega) | omega | exact not_false)
        have i29 : ∀ j : Nat, (j : Int) < x2 + 1 → (kU (kU ha 180 ((x2).toNat) 9) 181 ((x2).toNat) 1) 180 j = 9 ∧ (kU (kU ha 180 ((x2).toNat) 9) 181 ((x2).toNat) 1) 181 j = 1 := fun j hj => by rw [kU_c _ _ _ _ (show (180 : Nat) ≠ 181 by decide), kU_s, kU_s]; by_cases p : j = x2.toNat; (rw [if_pos p, if_pos p]; exact ⟨rfl, rfl⟩); (rw [if_neg p, if_neg p, kU_c _ _ _ _ (show (181 : Nat) ≠ 180 by decide)]; exact hV10.2.1 j (by omega))
        have o29 : ∀ c, c ≠ 180 → c ≠ 181 → (kU (kU ha 180 ((x2).toNat) 9) 181 ((x2).toNat) 1) c = h5 c := fun c p q => (kU_c _ _ _ _ q).trans ((kU_c _ _ _ _ p).trans (hV10.2.2 c p q))
        refine K_inc (pc := 30) (i := 19) (q := 2) (lo' := [(0, _), (1, _), (2, _)]) rfl rfl rfl rfl rfl ?_
        refine K_goto 10 (pc := 33) (i := 20) rfl rfl ?_
        exact ih10 (x2 + 1) _ (by omega) hI fx ⟨by omega, i29, o29⟩
  exact L10 _ 0 _ (Nat.lt_succ_self _) hI fx ⟨by omega, fun j q => absurd q (by omega), fun _ _ _ => rfl⟩
end
section
/-! what the class's calls answer and do -/
/-- the act is remembered -/
def AR (h h' : kH) : Prop := (h' 23 1 = (h 23 1 + 1) % 16 ∧ h' 23 2 = min 16 (h 23 2 + 1)) ∧ FC h' (25 + 7 * (h 23 1).toNat) h 6 ∧ ∀ c, 25 ≤ c → c < 137 → c < 25 + 7 * (h 23 1).toNat ∨ 32 + 7 * (h 23 1).toNat ≤ c → h' c = h c
theorem AR.of {h h1 h2 : kH} (a : AR h h1) (hr : 0 ≤ h 23 1 ∧ h 23 1 ≤ 15) (e : ∀ c, 23 ≤ c → c < 137 → h2 c = h1 c) : AR h h2 := by
  obtain ⟨⟨a1, a2⟩, a3, a4⟩ := a
  exact ⟨⟨by rw [e 23 (by omega) (by omega)]; exact a1, by rw [e 23 (by omega) (by omega)]; exact a2⟩, a3.tr (FC.same (fun c q r => e c (by omega) (by omega))), fun c q r s => (e c (by omega) r).trans (a4 c q r s)⟩
theorem FA.of {h h1 h' : kH} {x1 x2 x3 x4 x5 : Int} (a : FA h1 h' 6 x1 x2 x3 x4 x5) (e : ∀ c, c < 23 → h1 c = h c) : FA h h' 6 x1 x2 x3 x4 x5 := by
  obtain ⟨a1, a2, a3, a4⟩ := a
  rw [e 6 (by omega)] at a1 a3
  refine ⟨a1, fun i c hi hc => ?_, a3, fun i => ?_⟩
  · rw [← e (6 + 1 + c) (by omega)]; exact a2 i c (by rw [e 6 (by omega)]; exact hi) hc
  · rw [← e (6 + 6) (by omega)]; exact a4 i
theorem FD.of {h h1 h' : kH} {p : Nat → Bool} (a : FD h1 h' 6 p) (e : ∀ c, c < 23 → h1 c = h c) : FD h h' 6 p := by
  obtain ⟨a1, a2, a3⟩ := a
  rw [e 6 (by omega)] at a1
  refine ⟨a1, fun i c hi hp hc => ?_, fun i => ?_⟩
  · rw [← e (6 + 1 + c) (by omega)]; exact a2 i c (by rw [e 6 (by omega)]; exact hi) hp hc
  · rw [← e (6 + 6) (by omega)]; exact a3 i
theorem BLW.of {h h1 h' : kH} {z : Int} (a : BLW h1 h' 3 z) (e : ∀ c, c < 23 → h1 c = h c) : BLW h h' 3 z := by
  obtain ⟨hx, ⟨a1, a2⟩, a3, a4, a5, a6⟩ := a
  have e4 := e (3 + 1) (by omega)
  have e6 := e (3 + 3) (by omega)
  have e7 := e (3 + 3 + 1) (by omega)
  have e9 := e (3 + 3 + 3) (by omega)
  have e10 := e (3 + 3 + 4) (by omega)
  have e12 := e (3 + 3 + 6) (by omega)
  have eb : ∀ k, blX h1 3 k = blX h 3 k := fun k => by unfold blX; rw [e9, e4, e10]
  rw [e6] at a2 a3 a4 a5 a6
  refine ⟨hx, ⟨fun c hc hn => (a1 c hc hn).trans (e c (by omega)), fun k hk => by rw [← eb]; exact a2 k hk⟩, a3, a4, a5, fun t ht => ?_⟩
  rw [a6 t ht, e12, e7]
theorem LF.of {h h1 h2 : kH} {x : Int} (a : LF h h1 x) (e : ∀ c, 6 ≤ c → c ≤ 12 → h2 c = h1 c) : LF h h2 x := by
  unfold LF
  rw [e 6 (by omega) (by omega), e 7 (by omega) (by omega), e 8 (by omega) (by omega), e 9 (by omega) (by omega), e 10 (by omega) (by omega), e 11 (by omega) (by omega), e 12 (by omega) (by omega)]
  exact a
def ktF (n : Int) (v : Nat → Nat → Int) (e : Nat → Int) (x y : Int) : Int := if 0 ≤ x ∧ x < n then (if 0 ≤ y ∧ y ≤ 4 then v x.toNat y.toNat else if y = 5 then e x.toNat else -2) else -1
section Kt
variable {n : Int} {v : Nat → Nat → Int} {e : Nat → Int} {x y z : Int}
theorem ktF_no (h : ¬ (0 ≤ x ∧ x < n)) (hz : z = -1) : z = ktF n v e x y := by unfold ktF; rw [if_neg h, hz]
theorem ktF_at (h : 0 ≤ x ∧ x < n) (h2 : 0 ≤ y ∧ y ≤ 4) (hz : z = v x.toNat y.toNat) : z = ktF n v e x y := by unfold ktF; rw [if_pos h, if_pos h2, hz]
theorem ktF_e (h : 0 ≤ x ∧ x < n) (h2 : y = 5) (hz : z = e x.toNat) : z = ktF n v e x y := by unfold ktF; rw [if_pos h, if_neg (by omega), if_pos h2, hz]
theorem ktF_o (h : 0 ≤ x ∧ x < n) (h2 : ¬ (0 ≤ y ∧ y ≤ 5)) (hz : z = -2) : z = ktF n v e x y := by unfold ktF; rw [if_pos h, if_neg (by omega), if_neg (by omega), hz]
end Kt
def CWwind (h h' : kH) (x w z : Int) : Prop :=
  ((1 ≤ x ∧ x ≤ 9 ∧ -3 ≤ w ∧ w ≤ 3) ∧ z = h 4 x.toNat + 3 ∧ ∀ j, h' 4 j = if j = x.toNat then w else h 4 j) ∨ (¬ (1 ≤ x ∧ x ≤ 9 ∧ -3 ≤ w ∧ w ≤ 3) ∧ z = -2 ∧ h' = h)
def CWrise (h h' : kH) (x n z : Int) : Prop :=
  (¬ (0 ≤ x ∧ x < h 6 6) ∧ z = -1 ∧ h' = h) ∨ ((0 ≤ x ∧ x < h 6 6) ∧ ¬ (-8 ≤ n ∧ n ≤ 8 ∧ 1 ≤ h 10 x.toNat + n ∧ h 10 x.toNat + n ≤ 9) ∧ z = -2 ∧ h' = h) ∨
  ((0 ≤ x ∧ x < h 6 6) ∧ (-8 ≤ n ∧ n ≤ 8 ∧ 1 ≤ h 10 x.toNat + n ∧ h 10 x.toNat + n ≤ 9) ∧ z = h 10 x.toNat + n ∧ AR h h' ∧ (∀ c, 6 ≤ c → c ≤ 12 → c ≠ 10 → h' c = h c) ∧ ∀ j, h' 10 j = if j = x.toNat then h 10 x.toNat + n else h 10 j)
def CWrun (h h' : kH) (x s z : Int) : Prop :=
  (¬ (0 ≤ x ∧ x < h 6 6) ∧ z = -1 ∧ h' = h) ∨ ((0 ≤ x ∧ x < h 6 6) ∧ ¬ (0 ≤ s ∧ s ≤ 40) ∧ z = -2 ∧ h' = h) ∨ ((0 ≤ x ∧ x < h 6 6) ∧ (0 ≤ s ∧ s ≤ 40) ∧ hsF h 6 s ∧ z = -3 ∧ h' = h) ∨
  ((0 ≤ x ∧ x < h 6 6) ∧ (0 ≤ s ∧ s ≤ 40) ∧ ¬ hsF h 6 s ∧ z = kAbs (s - h 8 x.toNat) ∧ AR h h' ∧ (∀ c, 6 ≤ c → c ≤ 12 → c ≠ 8 → h' c = h c) ∧ ∀ j, h' 8 j = if j = x.toNat then s else h 8 j)
def CWlaunch (h h' : kH) (t s e gl z : Int) : Prop :=
  (¬ ((0 ≤ t ∧ t ≤ 1) ∧ (0 ≤ s ∧ s ≤ 40) ∧ (1 ≤ e ∧ e ≤ 9) ∧ 0 ≤ gl ∧ gl ≤ 9) ∧ z = -2 ∧ h' = h) ∨ (((0 ≤ t ∧ t ≤ 1) ∧ (0 ≤ s ∧ s ≤ 40) ∧ (1 ≤ e ∧ e ≤ 9) ∧ 0 ≤ gl ∧ gl ≤ 9) ∧ hsF h 6 s ∧ z = -3 ∧ h' = h) ∨
  (((0 ≤ t ∧ t ≤ 1) ∧ (0 ≤ s ∧ s ≤ 40) ∧ (1 ≤ e ∧ e ≤ 9) ∧ 0 ≤ gl ∧ gl ≤ 9) ∧ ¬ hsF h 6 s ∧ 8 ≤ h 6 6 ∧ z = -4 ∧ h' = h) ∨
  (((0 ≤ t ∧ t ≤ 1) ∧ (0 ≤ s ∧ s ≤ 40) ∧ (1 ≤ e ∧ e ≤ 9) ∧ 0 ≤ gl ∧ gl ≤ 9) ∧ ¬ hsF h 6 s ∧ h 6 6 < 8 ∧ z = h 6 6 ∧ AR h h' ∧ FA h h' 6 t s s e gl)
def CWtakeIn (h h' : kH) (x z : Int) : Prop := (¬ (0 ≤ x ∧ x < h 6 6) ∧ z = -1 ∧ h' = h) ∨ ((0 ≤ x ∧ x < h 6 6) ∧ z = h' 6 6 ∧ AR h h' ∧ FD h h' 6 (pB (kShl 1 x)))
def CWgust (h h' : kH) (z : Int) : Prop := kR z ∧ AR h h' ∧ BLW h h' 3 z
def CWundo (h h' : kH) (z : Int) : Prop := (h 23 2 = 0 ∧ z = -3 ∧ h' = h) ∨ (h 23 2 ≠ 0 ∧ z = h 23 2 - 1 ∧ h' 23 1 = (h 23 1 + 15) % 16 ∧ h' 23 2 = h 23 2 - 1 ∧ FC h' 6 h (25 + 7 * ((h 23 1 + 15) % 16).toNat))
def CWwar (h h' : kH) (z : Int) : Prop := ∃ fl : Int, FaultIs (h 2) (h 1 1) fl ∧ ((fl ≠ -9 ∧ z = -3 ∧ h' = h) ∨ (fl = -9 ∧ z = h' 6 6 ∧ LW h h' 10 ∧ LF h h' ((h 1 1 - 10) / 8) ∧ h' 23 2 = 0 ∧ ∀ s : Nat, s < 2 → h' (138 + 11 * s) 1 = 0))
def CWkeep (h h' : kH) (x z : Int) : Prop := (¬ (0 ≤ x ∧ x ≤ 1) ∧ z = -1 ∧ h' = h) ∨
  ((0 ≤ x ∧ x ≤ 1) ∧ z = h 6 6 ∧ h' (138 + 11 * x.toNat) 1 = 1 ∧ FC h' (142 + 11 * x.toNat) h 6 ∧ (∀ i, i < 10 → h' (140 + 11 * x.toNat) i = h 4 i) ∧ ∀ c, c < 138 + 11 * x.toNat ∨ 149 + 11 * x.toNat ≤ c → h' c = h c)
def CWagain (h h' : kH) (x z : Int) : Prop := (¬ (0 ≤ x ∧ x ≤ 1) ∧ z = -1 ∧ h' = h) ∨ ((0 ≤ x ∧ x ≤ 1) ∧ h (138 + 11 * x.toNat) 1 = 0 ∧ z = -3 ∧ h' = h) ∨
  ((0 ≤ x ∧ x ≤ 1) ∧ h (138 + 11 * x.toNat) 1 ≠ 0 ∧ z = h' 6 6 ∧ FC h' 6 h (142 + 11 * x.toNat) ∧ (∀ i, h' 4 i = if i < 10 then h (140 + 11 * x.toNat) i else h 4 i) ∧ h' 23 2 = 0 ∧ h' 23 1 = h 23 1)
def CWsee (h h' : kH) (x y b z : Int) : Prop := (¬ ((0 ≤ x ∧ x < h 6 6 ∧ x < 4) ∧ (0 ≤ y ∧ y < h 6 6 ∧ y < 4)) ∧ z = -1 ∧ h' = h) ∨ (((0 ≤ x ∧ x < h 6 6 ∧ x < 4) ∧ (0 ≤ y ∧ y < h 6 6 ∧ y < 4)) ∧ x = y ∧ z = -2 ∧ h' = h) ∨ (((0 ≤ x ∧ x < h 6 6 ∧ x < 4) ∧ (0 ≤ y ∧ y < h 6 6 ∧ y < 4)) ∧ x ≠ y ∧ 8 ≤ h 169 6 ∧ z = -4 ∧ h' = h) ∨
  (((0 ≤ x ∧ x < h 6 6 ∧ x < 4) ∧ (0 ≤ y ∧ y < h 6 6 ∧ y < 4)) ∧ x ≠ y ∧ h 169 6 < 8 ∧ z = h 169 6 + 1 ∧ h' 169 6 = h 169 6 + 1 ∧ (∀ j, h' 170 j = if j = (h 169 6).toNat then min x y else h 170 j) ∧ (∀ j, h' 171 j = if j = (h 169 6).toNat then max x y else h 171 j) ∧ ∀ j, h' 172 j = if j = (h 169 6).toNat then b else h 172 j)
def ctF (l n c w0 w1 a s x : Int) : Int := if x = 0 then l else if x = 1 then n else if x = 2 then c else if x = 3 then w0 else if x = 4 then w1 else if x = 5 then a else if x = 6 then s else -2
def CWcross (h : kH) (x y z : Int) : Prop :=
  (¬ ((0 ≤ x ∧ x < h 6 6) ∧ 0 ≤ y ∧ y < h 6 6) ∧ z = -1) ∨ (((0 ≤ x ∧ x < h 6 6) ∧ 0 ≤ y ∧ y < h 6 6) ∧ x = y ∧ z = -2) ∨
  (((0 ≤ x ∧ x < h 6 6) ∧ 0 ≤ y ∧ y < h 6 6) ∧ x ≠ y ∧ ((z = 1 ∧ mt h 6 x.toNat y.toNat) ∨ (z = 0 ∧ ¬ mt h 6 x.toNat y.toNat)))
/-- a wind by the seed -/
theorem shr33 (x c : UInt64) (hc : (c.toBitVec % 64).toNat = 33) : ∃ n : Nat, n < 2147483648 ∧ (x >>> c).toInt64 = lN n := by
  have hx : x.toBitVec.toNat < 18446744073709551616 := x.toBitVec.isLt
  have hd : x.toBitVec.toNat / 8589934592 < 2147483648 := by omega
  refine ⟨x.toBitVec.toNat / 8589934592, hd, ?_⟩
  apply Int64.toBitVec_inj.mp
  apply BitVec.eq_of_toNat_eq
  show (x.toBitVec >>> (c.toBitVec % 64).toNat).toNat = (BitVec.ofNat 64 _).toNat
  rw [hc, BitVec.toNat_ushiftRight, Nat.shiftRight_eq_div_pow, BitVec.toNat_ofNat, Nat.mod_eq_of_lt (by omega)]
theorem wd7 (a : Int) : 0 ≤ kL2i (kLrem (kLushr a 33) 7) ∧ kL2i (kLrem (kLushr a 33) 7) ≤ 6 := by
  unfold kL2i kLrem kLushr
  obtain ⟨n, hn, e⟩ := shr33 (Int64.ofInt a).toUInt64 ((Int32.ofInt 33).toInt64.toUInt64 &&& Int64.toUInt64 63) (by decide +kernel)
  rw [e, Int64.ofInt_toInt, Int64.ofInt_toInt, show Int64.ofInt 7 = lN 7 by decide, pk_lRem (by omega) (by omega) (by omega), lN_i, nI_toInt (by omega)]
  omega
end
section
/-! the best of what is looked at one behind another -/
def TLR (P : Nat → Int → Prop) (fr : Nat → Prop) (m0 p0 : Int) : Nat → Int → Int → Prop
  | 0, m, p => m = m0 ∧ p = p0
  | c + 1, m, p => ∃ m1 p1 : Int, TLR P fr m0 p0 c m1 p1 ∧ ((¬ fr (c / 9) ∧ m = m1 ∧ p = p1) ∨ (fr (c / 9) ∧ ∃ v : Int, P c v ∧ ((m1 < v ∧ m = v ∧ p = 10 * ((c / 9 : Nat) : Int) + (((c % 9 : Nat) : Int) + 1)) ∨ (v ≤ m1 ∧ m = m1 ∧ p = p1))))
section Tl
variable {P P' : Nat → Int → Prop} {fr fr' : Nat → Prop} {m0 p0 m0' p0' : Int}
theorem TLR.no {c : Nat} {m p : Int} (a : TLR P fr m0 p0 c m p) (h : ¬ fr (c / 9)) : TLR P fr m0 p0 (c + 1) m p := ⟨m, p, a, Or.inl ⟨h, rfl, rfl⟩⟩
theorem TLR.skip {s : Nat} {m p : Int} (h : ¬ fr s) (a : TLR P fr m0 p0 (9 * s) m p) : TLR P fr m0 p0 (9 * s + 9) m p := by
  have key : ∀ j, j ≤ 9 → TLR P fr m0 p0 (9 * s + j) m p := by
    intro j
    induction j with
    | zero => intro _; exact a
    | succ j ih =>
      intro hj
      have e : (9 * s + j) / 9 = s := by omega
      exact (ih (by omega)).no (by rw [e]; exact h)
  exact key 9 (Nat.le_refl 9)
theorem TLR.skip2 {s j : Nat} {m p : Int} (h : ¬ fr s) (hj : j ≤ 9) (a : TLR P fr m0 p0 (9 * s + j) m p) : TLR P fr m0 p0 (9 * s + 9) m p := by
  have key : ∀ i, j + i ≤ 9 → TLR P fr m0 p0 (9 * s + (j + i)) m p := by
    intro i
    induction i with
    | zero => intro _; exact a
    | succ i ih =>
      intro hi
      have e : (9 * s + (j + i)) / 9 = s := by omega
      exact (ih (by omega)).no (by rw [e]; exact h)
  have := key (9 - j) (by omega)
  rwa [show j + (9 - j) = 9 by omega] at this
theorem TLR.gt {c : Nat} {m p v q : Int} (a : TLR P fr m0 p0 c m p) (h : fr (c / 9)) (hp : P c v) (hv : m < v) (hq : q = 10 * ((c / 9 : Nat) : Int) + (((c % 9 : Nat) : Int) + 1)) : TLR P fr m0 p0 (c + 1) v q := ⟨m, p, a, Or.inr ⟨h, v, hp, Or.inl ⟨hv, rfl, hq⟩⟩⟩
theorem TLR.le {c : Nat} {m p v : Int} (a : TLR P fr m0 p0 c m p) (h : fr (c / 9)) (hp : P c v) (hv : v ≤ m) : TLR P fr m0 p0 (c + 1) m p := ⟨m, p, a, Or.inr ⟨h, v, hp, Or.inr ⟨hv, rfl, rfl⟩⟩⟩
theorem TLR.rel {N : Nat} (hP : ∀ c v v', c < N → fr (c / 9) → P c v → P' c v' → v = v' ∧ -90 ≤ v) (hf : ∀ s, fr s ↔ fr' s) (h0 : m0 < -90) (h0' : m0' < -90) : ∀ {c : Nat} {m p m' p' : Int}, c ≤ N → TLR P fr m0 p0 c m p → TLR P' fr' m0' p0' c m' p' →
    (m = m' ∧ p = p' ∧ -90 ≤ m) ∨ (m = m0 ∧ m' = m0' ∧ ∀ j, j < c → ¬ fr (j / 9)) := by
  intro c
  induction c with
  | zero =>
    intro m p m' p' _ a b
    exact Or.inr ⟨a.1, b.1, fun j hj => absurd hj (by omega)⟩
  | succ c ih =>
    intro m p m' p' hc a b
    obtain ⟨m1, p1, a1, a2⟩ := a
    obtain ⟨m2, p2, b1, b2⟩ := b
    have i := ih (by omega) a1 b1
    rcases a2 with ⟨a3, a4, a5⟩ | ⟨a3, v, a4, a5⟩ <;> rcases b2 with ⟨b3, b4, b5⟩ | ⟨b3, v', b4, b5⟩
    · rw [a4, a5, b4, b5]
      rcases i with i | i
      · exact Or.inl i
      · refine Or.inr ⟨i.1, i.2.1, fun j hj => ?_⟩
        by_cases e : j = c
        · rw [e]; exact a3
        · exact i.2.2 j (by omega)
    · exact absurd ((hf _).2 b3) a3
    · exact absurd ((hf _).1 a3) b3
    · obtain ⟨ev, hv⟩ := hP c v v' (by omega) a3 a4 b4
      subst ev
      rcases i with ⟨i1, i2, i3⟩ | ⟨i1, i2, i3⟩
      · subst i1; subst i2
        rcases a5 with ⟨a5, a6, a7⟩ | ⟨a5, a6, a7⟩ <;> rcases b5 with ⟨b5, b6, b7⟩ | ⟨b5, b6, b7⟩
        · exact Or.inl ⟨by rw [a6, b6], by rw [a7, b7], by omega⟩
        · omega
        · omega
        · exact Or.inl ⟨by rw [a6, b6], by rw [a7, b7], by omega⟩
      · rcases a5 with ⟨a5, a6, a7⟩ | ⟨a5, a6, a7⟩ <;> rcases b5 with ⟨b5, b6, b7⟩ | ⟨b5, b6, b7⟩
        · exact Or.inl ⟨by rw [a6, b6], by rw [a7, b7], by omega⟩
        · omega
        · omega
        · omega
end Tl
/-- a stake that none has -/
def tot (f : Nat → Int) (n : Nat) : Nat → Int
  | 0 => 0
  | s + 1 => tot f n s + cnt f s n
theorem tot_0 (f : Nat → Int) : ∀ s, tot f 0 s = 0 := by
  intro s
  induction s with
  | zero => rfl
  | succ s ih => rw [tot, ih]; rfl
theorem tot_s (f : Nat → Int) (n : Nat) : ∀ s : Nat, tot f (n + 1) s = tot f n s + (if 0 ≤ f n ∧ f n < s then 1 else 0) := by
  intro s
  induction s with
  | zero => rw [tot, tot, if_neg (by omega)]; rfl
  | succ s ih =>
    rw [tot, tot, ih, cnt]
    by_cases h1 : f n = s
    · rw [if_pos h1, if_neg (by omega), if_pos (by omega)]; omega
    · rw [if_neg h1]
      by_cases h2 : 0 ≤ f n ∧ f n < s
      · rw [if_pos h2, if_pos (by omega)]; omega
      · rw [if_neg h2, if_neg (by omega)]; omega
theorem tot_le (f : Nat → Int) : ∀ n s, tot f n s ≤ n := by
  intro n
  induction n with
  | zero => intro s; rw [tot_0]; exact Int.le_refl 0
  | succ n ih =>
    intro s
    have := ih s
    rw [tot_s]
    split <;> omega
theorem tot_ge (f : Nat → Int) (n : Nat) : ∀ s : Nat, (∀ j, j < s → ∃ i, i < n ∧ f i = j) → (s : Int) ≤ tot f n s := by
  intro s
  induction s with
  | zero => intro _; exact Int.le_refl 0
  | succ s ih =>
    intro h
    have h1 := ih (fun j hj => h j (by omega))
    obtain ⟨i, hi, e⟩ := h s (by omega)
    have pos : ∀ m : Nat, i < m → 1 ≤ cnt f s m := by
      intro m
      induction m with
      | zero => intro q; omega
      | succ m ihm =>
        intro q
        rw [cnt]
        have c0 := cnt_le f s m
        by_cases q2 : i = m
        · rw [← q2, if_pos e]; rw [← q2] at c0; omega
        · have := ihm (by omega)
          split <;> omega
    have := pos n hi
    rw [tot]
    omega
theorem free_ex (f : Nat → Int) (n : Nat) : ∃ s, s ≤ n ∧ ∀ i, i < n → f i ≠ (s : Nat) := by
  apply Classical.byContradiction
  intro hno
  have : ∀ j, j < n + 1 → ∃ i, i < n ∧ f i = (j : Nat) := fun j hj => by
    apply Classical.byContradiction
    intro q
    exact hno ⟨j, by omega, fun i hi e => q ⟨i, hi, e⟩⟩
  have h1 := tot_ge f n (n + 1) this
  have h2 := tot_le f n (n + 1)
  omega
end
