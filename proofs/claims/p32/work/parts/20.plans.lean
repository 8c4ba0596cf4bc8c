section
set_option maxHeartbeats 4000000 in
set_option maxRecDepth 100000 in
theorem c_Plans_planCount (G : kG)  {h : kH} {x0 : Int} (s0 : kR x0) : Ctr G y_Plans_planCount X_Plans_planCount 1 [kI x0] h (kQi (fun z h' => h' = h ∧ 1 ≤ z ∧ z ≤ 243)) := by
  refine Ctr.ofK (by decide) rfl T_Plans_planCount (Nat.le_of_ble_eq_true rfl) (lo := [(0, kI x0)]) rfl ?_
  refine K_iconst (pc := 0) (i := 0) rfl ?_
  refine K_ist_n (pc := 1) (i := 1) (lo' := [(0, _), (1, _)]) rfl rfl rfl rfl ?_
  refine K_iconst (pc := 2) (i := 2) rfl ?_
  refine K_ist_n (pc := 3) (i := 3) (lo' := [(0, _), (1, _), (2, _)]) rfl rfl rfl rfl ?_
  have L4 : ∀ (n : Nat) (x1 : Int) (x2 : Int), (5 - x2).toNat < n → ((x2 = 0 ∧ x1 = 1) ∨ (x2 = 1 ∧ x1 = 3) ∨ (x2 = 2 ∧ x1 = 9) ∨ (x2 = 3 ∧ x1 = 27) ∨ (x2 = 4 ∧ x1 = 81) ∨ (x2 = 5 ∧ x1 = 243)) → K X_Plans_planCount G (kZm G 1 (kQi (fun z h' => h' = h ∧ 1 ≤ z ∧ z ≤ 243))) 4 [(0, kI x0), (1, kI x1), (2, kI x2)] [] h := by
    intro n
    induction n with
    | zero => intro x1 x2 hm; exact absurd hm (Nat.not_lt_zero _)
    | succ n ih4 =>
      intro x1 x2 hm4 hV4
      refine K_iload_n (pc := 4) (i := 4) rfl rfl ?_
      refine K_iload_n (pc := 5) (i := 5) rfl rfl ?_
      first | refine K_icmp_ge 24 (pc := 6) (i := 6) rfl rfl (by omega) (by omega) (fun b6 => ?_) (fun b6 => ?_) | refine K_icmp_ge_an 24 (pc := 6) (i := 6) rfl rfl (fun b6 => ?_) (fun b6 => ?_)
      · skip
        refine K_iload_n (pc := 24) (i := 16) rfl rfl ?_
        exact K_retI (pc := 25) (i := 17) rfl rfl ⟨rfl, by omega⟩
      · skip
        refine K_iload_n (pc := 9) (i := 7) rfl rfl ?_
        refine K_iconst (pc := 10) (i := 8) rfl ?_
        first | refine K_icmp_ge 24 (pc := 11) (i := 9) rfl rfl (by omega) (by omega) (fun b11 => ?_) (fun b11 => ?_) | refine K_icmp_ge_an 24 (pc := 11) (i := 9) rfl rfl (fun b11 => ?_) (fun b11 => ?_)
        · skip
          refine K_iload_n (pc := 24) (i := 16) rfl rfl ?_
          exact K_retI (pc := 25) (i := 17) rfl rfl ⟨rfl, by omega⟩
        · skip
          refine K_iload_n (pc := 14) (i := 10) rfl rfl ?_
          refine K_iconst (pc := 15) (i := 11) rfl ?_
          refine K_imul (pc := 16) (i := 12) rfl ?_
          refine K_ist_n (pc := 17) (i := 13) (lo' := [(0, _), (1, _), (2, _)]) rfl rfl rfl rfl ?_
          refine K_inc (pc := 18) (i := 14) (q := 2) (lo' := [(0, _), (1, _), (2, _)]) rfl rfl rfl rfl rfl ?_
          refine K_goto 4 (pc := 21) (i := 15) rfl rfl ?_
          exact ih4 (x1 * 3) (x2 + 1) (by omega) (by omega)
  exact L4 _ 1 0 (Nat.lt_succ_self _) (by omega)
set_option maxHeartbeats 4000000 in
set_option maxRecDepth 100000 in
theorem c_Plans_takeStay (G : kG) {g : kGh} {h : kH}  (hI : Gd g h) : Ctr G y_Plans_takeStay X_Plans_takeStay 1 [.ref (G.2.2.2 160)] h (kQv (fun h' => Fx (fun c i => 160 ≤ c ∧ c ≤ 168) h h' ∧ (Gd g h'))) := by
  refine Ctr.ofK (by decide) rfl T_Plans_takeStay (Nat.le_of_ble_eq_true rfl) (lo := [(0, .ref (G.2.2.2 160))]) rfl ?_
  have fx : Fx (fun c i => 160 ≤ c ∧ c ≤ 168) h h := Fx.rf
  refine K_iconst (pc := 0) (i := 0) rfl ?_
  refine K_ist_n (pc := 1) (i := 1) (lo' := [(0, _), (1, _)]) rfl rfl rfl rfl ?_
  have L2 : ∀ (n : Nat) (x1 : Int) (ha : kH), (8 - x1).toNat < n → (Gd g ha) → (Fx (fun c i => 160 ≤ c ∧ c ≤ 168) h ha) → (0 ≤ x1 ∧ x1 ≤ 8) → K X_Plans_takeStay G (kZm G 1 (kQv (fun h' => Fx (fun c i => 160 ≤ c ∧ c ≤ 168) h h' ∧ (Gd g h')))) 2 [(0, .ref (G.2.2.2 160)), (1, kI x1)] [] ha := by
    intro n
    induction n with
    | zero => intro x1 ha hm; exact absurd hm (Nat.not_lt_zero _)
    | succ n ih2 =>
      intro x1 ha hm2 hI fx hV2
      refine K_iload_n (pc := 2) (i := 2) rfl rfl ?_
      refine K_bipush (pc := 3) (i := 3) rfl rfl ?_
      first | refine K_icmp_ge 21 (pc := 5) (i := 4) rfl rfl (by omega) (by omega) (fun b5 => ?_) (fun b5 => ?_) | refine K_icmp_ge_an 21 (pc := 5) (i := 4) rfl rfl (fun b5 => ?_) (fun b5 => ?_)
      · skip
        exact K_retV (pc := 21) (i := 12) rfl rfl ⟨fx, hI⟩
      · skip
        refine K_aload_n (pc := 8) (i := 5) rfl rfl ?_
        refine K_getR (pc := 9) (i := 6) (j := 4) (d := 165) rfl S_160 rfl (by decide) rfl fw_Plans_24 ?_
        refine K_iload_n (pc := 12) (i := 7) rfl rfl ?_
        refine K_iconst (pc := 13) (i := 8) rfl ?_
        refine K_iast (pc := 14) (i := 9) rfl S_165 (by omega) (by omega) (by decide) ?_
        have hI := st_free (c := 165) hI (by decide +kernel) (by decide) (i := (x1).toNat) (v := 1)
        have fx := Fx.st (c := 165) (i := (x1).toNat) (v := 1) fx (by first | (dsimp only; omega) | omega | exact not_false)
        refine K_inc (pc := 15) (i := 10) (q := 1) (lo' := [(0, _), (1, _)]) rfl rfl rfl rfl rfl ?_
        refine K_goto 2 (pc := 18) (i := 11) rfl rfl ?_
        exact ih2 (x1 + 1) _ (by omega) hI fx (by omega)
  exact L2 _ 0 _ (Nat.lt_succ_self _) hI fx (by omega)
set_option maxHeartbeats 4000000 in
set_option maxRecDepth 100000 in
theorem c_Plans_takePlan (G : kG) {g : kGh} {h : kH} {x1 : Int} {x2 : Int} (s1 : kR x1) (s2 : 0 ≤ x2 ∧ x2 ≤ 8) (hI : Gd g h) : Ctr G y_Plans_takePlan X_Plans_takePlan 2 [.ref (G.2.2.2 160), kI x1, kI x2] h (kQv (fun h' => Fx (fun c i => 160 ≤ c ∧ c ≤ 168) h h' ∧ (Gd g h'))) := by
  refine Ctr.ofK (by decide) rfl T_Plans_takePlan (Nat.le_of_ble_eq_true rfl) (lo := [(0, .ref (G.2.2.2 160)), (1, kI x1), (2, kI x2)]) rfl ?_
  have fx : Fx (fun c i => 160 ≤ c ∧ c ≤ 168) h h := Fx.rf
  refine K_iload_n (pc := 0) (i := 0) rfl rfl ?_
  refine K_ist_n (pc := 1) (i := 1) (lo' := [(0, _), (1, _), (2, _), (3, _)]) rfl rfl rfl rfl ?_
  refine K_iload_n (pc := 2) (i := 2) rfl rfl ?_
  refine K_iconst (pc := 3) (i := 3) rfl ?_
  refine K_mmin (pc := 4) (i := 4) rfl mw_Plans_83 (by omega) (by omega) (Nat.le_of_ble_eq_true rfl) ⟨Nat.le_of_ble_eq_true rfl, Nat.le_of_ble_eq_true rfl⟩ ⟨Nat.le_of_ble_eq_true rfl, Nat.le_of_ble_eq_true rfl⟩ ?_
  refine K_nm (fun v4 e4 => ?_)
  refine K_iconst (pc := 7) (i := 5) rfl ?_
  refine K_isub (pc := 8) (i := 6) rfl ?_
  refine K_ist (pc := 9) (i := 7) (lo' := [(0, _), (1, _), (2, _), (3, _), (4, _)]) rfl rfl rfl rfl ?_
  have L11 : ∀ (n : Nat) (x3 : Int) (x4 : Int) (ha : kH), (x4 + 1).toNat < n → (Gd g ha) → (Fx (fun c i => 160 ≤ c ∧ c ≤ 168) h ha) → (-1 ≤ x4 ∧ x4 ≤ 4) → K X_Plans_takePlan G (kZm G 2 (kQv (fun h' => Fx (fun c i => 160 ≤ c ∧ c ≤ 168) h h' ∧ (Gd g h')))) 11 [(0, .ref (G.2.2.2 160)), (1, kI x1), (2, kI x2), (3, kI x3), (4, kI x4)] [] ha := by
    intro n
    induction n with
    | zero => intro x3 x4 ha hm; exact absurd hm (Nat.not_lt_zero _)
    | succ n ih11 =>
      intro x3 x4 ha hm11 hI fx hV11
      refine K_iload (pc := 11) (i := 8) rfl rfl ?_
      first | refine K_if_lt 36 (pc := 13) (i := 9) rfl rfl (by omega) (fun b13 => ?_) (fun b13 => ?_) | refine K_if_lt_an 36 (pc := 13) (i := 9) rfl rfl (fun b13 => ?_) (fun b13 => ?_)
      · skip
        exact K_retV (pc := 36) (i := 23) rfl rfl ⟨fx, hI⟩
      · skip
        refine K_aload_n (pc := 16) (i := 10) rfl rfl ?_
        refine K_getR (pc := 17) (i := 11) (j := 4) (d := 165) rfl S_160 rfl (by decide) rfl fw_Plans_24 ?_
        refine K_iload (pc := 20) (i := 12) rfl rfl ?_
        refine K_iload_n (pc := 22) (i := 13) rfl rfl ?_
        refine K_iconst (pc := 23) (i := 14) rfl ?_
        refine K_irem (pc := 24) (i := 15) rfl (by omega) (by omega) ?_
        refine K_any (fun v24 r24 => ?_)
        refine K_iast (pc := 25) (i := 16) rfl S_165 (by omega) (by omega) (by decide) ?_
        have hI := st_free (c := 165) hI (by decide +kernel) (by decide) (i := (x4).toNat) (v := v24)
        have fx := Fx.st (c := 165) (i := (x4).toNat) (v := v24) fx (by first | (dsimp only; omega) | omega | exact not_false)
        refine K_iload_n (pc := 26) (i := 17) rfl rfl ?_
        refine K_iconst (pc := 27) (i := 18) rfl ?_
        refine K_idiv (pc := 28) (i := 19) rfl (by omega) (by omega) ?_
        refine K_any (fun v28 r28 => ?_)
        refine K_ist_n (pc := 29) (i := 20) (lo' := [(0, _), (1, _), (2, _), (3, _), (4, _)]) rfl rfl rfl rfl ?_
        refine K_inc (pc := 30) (i := 21) (q := 4) (lo' := [(0, _), (1, _), (2, _), (3, _), (4, _)]) rfl rfl rfl rfl rfl ?_
        refine K_goto 11 (pc := 33) (i := 22) rfl rfl ?_
        exact ih11 v28 (x4 + (-1)) _ (by omega) hI fx (by omega)
  exact L11 _ x1 (v4 - 1) _ (Nat.lt_succ_self _) hI fx (by omega)
set_option maxHeartbeats 4000000 in
set_option maxRecDepth 100000 in
theorem c_Plans_choices (G : kG) {g : kGh} {h : kH} {f : Nat} (hf : f ∈ FL) {x2 : Int} (s2 : 0 ≤ x2 ∧ x2 ≤ 1) (hI : Gd g h) : Ctr G y_Plans_choices X_Plans_choices 1 [.ref (G.2.2.2 160), .ref (G.2.2.2 f), kI x2] h (kQi (fun z h' => h' = h ∧ kR z)) := by
  refine Ctr.ofK (by decide) rfl T_Plans_choices (Nat.le_of_ble_eq_true rfl) (lo := [(0, .ref (G.2.2.2 160)), (1, .ref (G.2.2.2 f)), (2, kI x2)]) rfl ?_
  refine K_iconst (pc := 0) (i := 0) rfl ?_
  refine K_ist_n (pc := 1) (i := 1) (lo' := [(0, _), (1, _), (2, _), (3, _)]) rfl rfl rfl rfl ?_
  refine K_iconst (pc := 2) (i := 2) rfl ?_
  refine K_ist (pc := 3) (i := 3) (lo' := [(0, _), (1, _), (2, _), (3, _), (4, _)]) rfl rfl rfl rfl ?_
  refine K_iconst (pc := 5) (i := 4) rfl ?_
  refine K_ist (pc := 6) (i := 5) (lo' := [(0, _), (1, _), (2, _), (3, _), (4, _), (5, _)]) rfl rfl rfl rfl ?_
  have L8 : ∀ (n : Nat) (x3 : Int) (x4 : Int) (x5 : Int), (8 - x5).toNat < n → ((0 ≤ x4 ∧ x4 ≤ x5 ∧ x5 ≤ 8) ∧ kR x3) → K X_Plans_choices G (kZm G 1 (kQi (fun z h' => h' = h ∧ kR z))) 8 [(0, .ref (G.2.2.2 160)), (1, .ref (G.2.2.2 f)), (2, kI x2), (3, kI x3), (4, kI x4), (5, kI x5)] [] h := by
    intro n
    induction n with
    | zero => intro x3 x4 x5 hm; exact absurd hm (Nat.not_lt_zero _)
    | succ n ih8 =>
      intro x3 x4 x5 hm8 hV8
      refine K_iload (pc := 8) (i := 6) rfl rfl ?_
      refine K_aload_n (pc := 10) (i := 7) rfl rfl ?_
      refine K_getI (pc := 11) (i := 8) (j := 6) rfl (S_Fl hf) rfl (by decide) rfl fw_Plans_77 ?_
      refine K_nm (fun v11 e11 => ?_)
      have r11 := rd_kites hI hf
      rw [← e11] at r11
      first | refine K_icmp_ge 54 (pc := 14) (i := 9) rfl rfl (by omega) (by omega) (fun b14 => ?_) (fun b14 => ?_) | refine K_icmp_ge_an 54 (pc := 14) (i := 9) rfl rfl (fun b14 => ?_) (fun b14 => ?_)
      · skip
        refine K_iload_n (pc := 54) (i := 32) rfl rfl ?_
        exact K_retI (pc := 55) (i := 33) rfl rfl ⟨rfl, by omega⟩
      · skip
        refine K_aload_n (pc := 17) (i := 10) rfl rfl ?_
        refine K_getR (pc := 18) (i := 11) (j := 0) (d := f + 1) rfl (S_Fl hf) rfl (by decide) rfl fw_Plans_108 ?_
        refine K_iload (pc := 21) (i := 12) rfl rfl ?_
        refine K_iald (pc := 23) (i := 13) rfl (S_Fl1 hf) (by omega) (by omega) (by decide) ?_
        refine K_nm (fun v23 e23 => ?_)
        have r23 := rd_town hI hf (x5).toNat
        rw [← e23] at r23
        refine K_iload_n (pc := 24) (i := 14) rfl rfl ?_
        first | refine K_icmp_ne 48 (pc := 25) (i := 15) rfl rfl (by omega) (by omega) (fun b25 => ?_) (fun b25 => ?_) | refine K_icmp_ne_an 48 (pc := 25) (i := 15) rfl rfl (fun b25 => ?_) (fun b25 => ?_)
        · skip
          refine K_inc (pc := 48) (i := 30) (q := 5) (lo' := [(0, _), (1, _), (2, _), (3, _), (4, _), (5, _)]) rfl rfl rfl rfl rfl ?_
          refine K_goto 8 (pc := 51) (i := 31) rfl rfl ?_
          exact ih8 x3 x4 (x5 + 1) (by omega) (by omega)
        · skip
          refine K_iload_n (pc := 28) (i := 16) rfl rfl ?_
          refine K_iconst (pc := 29) (i := 17) rfl ?_
          refine K_iconst (pc := 30) (i := 18) rfl ?_
          refine K_iload (pc := 31) (i := 19) rfl rfl ?_
          refine K_imul (pc := 33) (i := 20) rfl ?_
          refine K_aload_n (pc := 34) (i := 21) rfl rfl ?_
          refine K_getR (pc := 35) (i := 22) (j := 4) (d := 165) rfl S_160 rfl (by decide) rfl fw_Plans_24 ?_
          refine K_iload (pc := 38) (i := 23) rfl rfl ?_
          refine K_iald (pc := 40) (i := 24) rfl S_165 (by omega) (by omega) (by decide) ?_
          refine K_any (fun v40 r40 => ?_)
          refine K_iadd (pc := 41) (i := 25) rfl ?_
          refine K_ishl (pc := 42) (i := 26) rfl ?_
          refine K_any (fun v42 r42 => ?_)
          refine K_ior (pc := 43) (i := 27) rfl ?_
          refine K_any (fun v43 r43 => ?_)
          refine K_ist_n (pc := 44) (i := 28) (lo' := [(0, _), (1, _), (2, _), (3, _), (4, _), (5, _)]) rfl rfl rfl rfl ?_
          refine K_inc (pc := 45) (i := 29) (q := 4) (lo' := [(0, _), (1, _), (2, _), (3, _), (4, _), (5, _)]) rfl rfl rfl rfl rfl ?_
          refine K_inc (pc := 48) (i := 30) (q := 5) (lo' := [(0, _), (1, _), (2, _), (3, _), (4, _), (5, _)]) rfl rfl rfl rfl rfl ?_
          refine K_goto 8 (pc := 51) (i := 31) rfl rfl ?_
          exact ih8 v43 (x4 + 1) (x5 + 1) (by omega) (by omega)
  exact L8 _ 0 0 0 (Nat.lt_succ_self _) (by omega)
set_option maxHeartbeats 4000000 in
set_option maxRecDepth 100000 in
theorem c_Plans_cutBy (G : kG) {g : kGh} {h : kH} {x1 : Int} (hI : Gd g h) : Ctr G y_Plans_cutBy X_Plans_cutBy 1 [.ref (G.2.2.2 160), kI x1] h (kQi (fun z h' => h' = h ∧ kR z)) := by
  refine Ctr.ofK (by decide) rfl T_Plans_cutBy (Nat.le_of_ble_eq_true rfl) (lo := [(0, .ref (G.2.2.2 160)), (1, kI x1)]) rfl ?_
  refine K_iconst (pc := 0) (i := 0) rfl ?_
  refine K_ist_n (pc := 1) (i := 1) (lo' := [(0, _), (1, _), (2, _)]) rfl rfl rfl rfl ?_
  refine K_iconst (pc := 2) (i := 2) rfl ?_
  refine K_ist_n (pc := 3) (i := 3) (lo' := [(0, _), (1, _), (2, _), (3, _)]) rfl rfl rfl rfl ?_
  have L4 : ∀ (n : Nat) (x2 : Int) (x3 : Int), (24 - x3).toNat < n → ((0 ≤ x3 ∧ x3 ≤ 24) ∧ kR x2) → K X_Plans_cutBy G (kZm G 1 (kQi (fun z h' => h' = h ∧ kR z))) 4 [(0, .ref (G.2.2.2 160)), (1, kI x1), (2, kI x2), (3, kI x3)] [] h := by
    intro n
    induction n with
    | zero => intro x2 x3 hm; exact absurd hm (Nat.not_lt_zero _)
    | succ n ih4 =>
      intro x2 x3 hm4 hV4
      refine K_iload_n (pc := 4) (i := 4) rfl rfl ?_
      refine K_bipush (pc := 5) (i := 5) rfl rfl ?_
      first | refine K_icmp_ge 33 (pc := 7) (i := 6) rfl rfl (by omega) (by omega) (fun b7 => ?_) (fun b7 => ?_) | refine K_icmp_ge_an 33 (pc := 7) (i := 6) rfl rfl (fun b7 => ?_) (fun b7 => ?_)
      · skip
        refine K_iload_n (pc := 33) (i := 22) rfl rfl ?_
        exact K_retI (pc := 34) (i := 23) rfl rfl ⟨rfl, by omega⟩
      · skip
        refine K_iload_n (pc := 10) (i := 7) rfl rfl ?_
        refine K_iload_n (pc := 11) (i := 8) rfl rfl ?_
        refine K_ishr (pc := 12) (i := 9) rfl ?_
        refine K_any (fun v12 r12 => ?_)
        refine K_iconst (pc := 13) (i := 10) rfl ?_
        refine K_iand (pc := 14) (i := 11) rfl ?_
        refine K_nm (fun v14 e14 => ?_)
        have r14 := kAnd_1 v12
        rw [← e14] at r14
        first | refine K_if_eq 27 (pc := 15) (i := 12) rfl rfl (by omega) (fun b15 => ?_) (fun b15 => ?_) | refine K_if_eq_an 27 (pc := 15) (i := 12) rfl rfl (fun b15 => ?_) (fun b15 => ?_)
        · skip
          refine K_inc (pc := 27) (i := 20) (q := 3) (lo' := [(0, _), (1, _), (2, _), (3, _)]) rfl rfl rfl rfl rfl ?_
          refine K_goto 4 (pc := 30) (i := 21) rfl rfl ?_
          exact ih4 x2 (x3 + 1) (by omega) (by omega)
        · skip
          refine K_iload_n (pc := 18) (i := 13) rfl rfl ?_
          refine K_aload_n (pc := 19) (i := 14) rfl rfl ?_
          refine K_getR (pc := 20) (i := 15) (j := 3) (d := 164) rfl S_160 rfl (by decide) rfl fw_Plans_21 ?_
          refine K_iload_n (pc := 23) (i := 16) rfl rfl ?_
          refine K_iald (pc := 24) (i := 17) rfl S_164 (by omega) (by omega) (by decide) ?_
          refine K_any (fun v24 r24 => ?_)
          refine K_ior (pc := 25) (i := 18) rfl ?_
          refine K_any (fun v25 r25 => ?_)
          refine K_ist_n (pc := 26) (i := 19) (lo' := [(0, _), (1, _), (2, _), (3, _)]) rfl rfl rfl rfl ?_
          refine K_inc (pc := 27) (i := 20) (q := 3) (lo' := [(0, _), (1, _), (2, _), (3, _)]) rfl rfl rfl rfl rfl ?_
          refine K_goto 4 (pc := 30) (i := 21) rfl rfl ?_
          exact ih4 v25 (x3 + 1) (by omega) (by omega)
  exact L4 _ 0 0 (Nat.lt_succ_self _) (by omega)
set_option maxHeartbeats 4000000 in
set_option maxRecDepth 100000 in
theorem c_Plans_mayFight (G : kG) {g : kGh} {h : kH} {f : Nat} (hf : f ∈ FL) {x2 : Int} {x3 : Int} (s2 : 0 ≤ x2 ∧ x2 ≤ 23) (s3 : 0 ≤ x3 ∧ x3 ≤ 23) (hI : Gd g h) : Ctr G y_Plans_mayFight X_Plans_mayFight 3 [.ref (G.2.2.2 160), .ref (G.2.2.2 f), kI x2, kI x3] h (kQi (fun z h' => h' = h ∧ (z = 0 ∨ z = 1))) := by
  refine Ctr.ofK (by decide) rfl T_Plans_mayFight (Nat.le_of_ble_eq_true rfl) (lo := [(0, .ref (G.2.2.2 160)), (1, .ref (G.2.2.2 f)), (2, kI x2), (3, kI x3)]) rfl ?_
  refine K_iload_n (pc := 0) (i := 0) rfl rfl ?_
  refine K_iconst (pc := 1) (i := 1) rfl ?_
  refine K_idiv (pc := 2) (i := 2) rfl (by omega) (by omega) ?_
  refine K_eq (kDiv_eq (by omega) (by omega) (by omega) (by omega)) ?_
  refine K_ist (pc := 3) (i := 3) (lo' := [(0, _), (1, _), (2, _), (3, _), (4, _)]) rfl rfl rfl rfl ?_
  refine K_iload_n (pc := 5) (i := 4) rfl rfl ?_
  refine K_iconst (pc := 6) (i := 5) rfl ?_
  refine K_idiv (pc := 7) (i := 6) rfl (by omega) (by omega) ?_
  refine K_eq (kDiv_eq (by omega) (by omega) (by omega) (by omega)) ?_
  refine K_ist (pc := 8) (i := 7) (lo' := [(0, _), (1, _), (2, _), (3, _), (4, _), (5, _)]) rfl rfl rfl rfl ?_
  refine K_aload_n (pc := 10) (i := 8) rfl rfl ?_
  refine K_getR (pc := 11) (i := 9) (j := 0) (d := f + 1) rfl (S_Fl hf) rfl (by decide) rfl fw_Plans_108 ?_
  refine K_iload (pc := 14) (i := 10) rfl rfl ?_
  refine K_iald (pc := 16) (i := 11) rfl (S_Fl1 hf) (by omega) (by omega) (by decide) ?_
  refine K_nm (fun v16 e16 => ?_)
  have r16 := rd_town hI hf (x2 / 3).toNat
  rw [← e16] at r16
  refine K_aload_n (pc := 17) (i := 12) rfl rfl ?_
  refine K_getR (pc := 18) (i := 13) (j := 0) (d := f + 1) rfl (S_Fl hf) rfl (by decide) rfl fw_Plans_108 ?_
  refine K_iload (pc := 21) (i := 14) rfl rfl ?_
  refine K_iald (pc := 23) (i := 15) rfl (S_Fl1 hf) (by omega) (by omega) (by decide) ?_
  refine K_nm (fun v23 e23 => ?_)
  have r23 := rd_town hI hf (x3 / 3).toNat
  rw [← e23] at r23
  first | refine K_icmp_eq 75 (pc := 24) (i := 16) rfl rfl (by omega) (by omega) (fun b24 => ?_) (fun b24 => ?_) | refine K_icmp_eq_an 75 (pc := 24) (i := 16) rfl rfl (fun b24 => ?_) (fun b24 => ?_)
  · skip
    refine K_iconst (pc := 75) (i := 45) rfl ?_
    exact K_retZ (pc := 76) (i := 46) rfl rfl (by omega) ⟨rfl, by omega⟩
  · skip
    refine K_aload_n (pc := 27) (i := 17) rfl rfl ?_
    refine K_getR (pc := 28) (i := 18) (j := 1) (d := f + 2) rfl (S_Fl hf) rfl (by decide) rfl fw_Plans_111 ?_
    refine K_iload (pc := 31) (i := 19) rfl rfl ?_
    refine K_iald (pc := 33) (i := 20) rfl (S_Fl2 hf) (by omega) (by omega) (by decide) ?_
    refine K_nm (fun v33 e33 => ?_)
    have r33 := rd_stake hI hf (x2 / 3).toNat
    rw [← e33] at r33
    refine K_aload_n (pc := 34) (i := 21) rfl rfl ?_
    refine K_getR (pc := 35) (i := 22) (j := 1) (d := 162) rfl S_160 rfl (by decide) rfl fw_Plans_15 ?_
    refine K_iload_n (pc := 38) (i := 23) rfl rfl ?_
    refine K_iald (pc := 39) (i := 24) rfl S_162 (by omega) (by omega) (by decide) ?_
    refine K_nm (fun v39 e39 => ?_)
    have r39 := rd_plp hI (x2).toNat
    rw [← e39] at r39
    refine K_aload_n (pc := 40) (i := 25) rfl rfl ?_
    refine K_getR (pc := 41) (i := 26) (j := 0) (d := 161) rfl S_160 rfl (by decide) rfl fw_Plans_11 ?_
    refine K_iload_n (pc := 44) (i := 27) rfl rfl ?_
    refine K_iald (pc := 45) (i := 28) rfl S_161 (by omega) (by omega) (by decide) ?_
    refine K_nm (fun v45 e45 => ?_)
    have r45 := rd_plh hI (x2).toNat
    rw [← e45] at r45
    refine K_aload_n (pc := 46) (i := 29) rfl rfl ?_
    refine K_getR (pc := 47) (i := 30) (j := 1) (d := f + 2) rfl (S_Fl hf) rfl (by decide) rfl fw_Plans_111 ?_
    refine K_iload (pc := 50) (i := 31) rfl rfl ?_
    refine K_iald (pc := 52) (i := 32) rfl (S_Fl2 hf) (by omega) (by omega) (by decide) ?_
    refine K_nm (fun v52 e52 => ?_)
    have r52 := rd_stake hI hf (x3 / 3).toNat
    rw [← e52] at r52
    refine K_aload_n (pc := 53) (i := 33) rfl rfl ?_
    refine K_getR (pc := 54) (i := 34) (j := 1) (d := 162) rfl S_160 rfl (by decide) rfl fw_Plans_15 ?_
    refine K_iload_n (pc := 57) (i := 35) rfl rfl ?_
    refine K_iald (pc := 58) (i := 36) rfl S_162 (by omega) (by omega) (by decide) ?_
    refine K_nm (fun v58 e58 => ?_)
    have r58 := rd_plp hI (x3).toNat
    rw [← e58] at r58
    refine K_aload_n (pc := 59) (i := 37) rfl rfl ?_
    refine K_getR (pc := 60) (i := 38) (j := 0) (d := 161) rfl S_160 rfl (by decide) rfl fw_Plans_11 ?_
    refine K_iload_n (pc := 63) (i := 39) rfl rfl ?_
    refine K_iald (pc := 64) (i := 40) rfl S_161 (by omega) (by omega) (by decide) ?_
    refine K_nm (fun v64 e64 => ?_)
    have r64 := rd_plh hI (x3).toNat
    rw [← e64] at r64
    refine K_cSI (pc := 65) (i := 41) rfl (c_Fleet_linesMeet G (x0 := v33) (x1 := v39) (x2 := v45) (x3 := v52) (x4 := v58) (x5 := v64) (s0 := by omega) (s1 := by omega) (s2 := by omega) (s3 := by omega) (s4 := by omega) (s5 := by omega)) (ls_Plans_114 rfl) rfl rfl rfl rfl (fun v65 h65 q65 => ?_)
    obtain ⟨eh, r65⟩ := q65
    rw [eh]; clear eh
    first | refine K_if_eq 75 (pc := 68) (i := 42) rfl rfl (by omega) (fun b68 => ?_) (fun b68 => ?_) | refine K_if_eq_an 75 (pc := 68) (i := 42) rfl rfl (fun b68 => ?_) (fun b68 => ?_)
    · skip
      refine K_iconst (pc := 75) (i := 45) rfl ?_
      exact K_retZ (pc := 76) (i := 46) rfl rfl (by omega) ⟨rfl, by omega⟩
    · skip
      refine K_iconst (pc := 71) (i := 43) rfl ?_
      refine K_goto 76 (pc := 72) (i := 44) rfl rfl ?_
      exact K_retZ (pc := 76) (i := 46) rfl rfl (by omega) ⟨rfl, by omega⟩
set_option maxHeartbeats 4000000 in
set_option maxRecDepth 100000 in
theorem c_Plans_prepare (G : kG) {g : kGh} {h : kH}  (hI : Gd g h) : Ctr G y_Plans_prepare X_Plans_prepare 4 [.ref (G.2.2.2 160), .ref (G.2.2.2 3)] h (kQv (fun h' => Fx (fun c i => 160 ≤ c ∧ c ≤ 168) h h' ∧ (Gd g h'))) := by
  refine Ctr.ofK (by decide) rfl T_Plans_prepare (Nat.le_of_ble_eq_true rfl) (lo := [(0, .ref (G.2.2.2 160)), (1, .ref (G.2.2.2 3))]) rfl ?_
  have fx : Fx (fun c i => 160 ≤ c ∧ c ≤ 168) h h := Fx.rf
  refine K_aload_n (pc := 0) (i := 0) rfl rfl ?_
  refine K_getR (pc := 1) (i := 1) (j := 0) (d := 6) rfl (S_Sk sk3) rfl (by decide) rfl fw_Plans_44 ?_
  refine K_getI (pc := 4) (i := 2) (j := 6) rfl (S_Fl fl6) rfl (by decide) rfl fw_Plans_77 ?_
  refine K_nm (fun v4 e4 => ?_)
  have r4 := rd_kites hI fl6
  rw [← e4] at r4
  refine K_ist_n (pc := 7) (i := 3) (lo' := [(0, _), (1, _), (2, _)]) rfl rfl rfl rfl ?_
  refine K_iconst (pc := 8) (i := 4) rfl ?_
  refine K_ist_n (pc := 9) (i := 5) (lo' := [(0, _), (1, _), (2, _), (3, _)]) rfl rfl rfl rfl ?_
  have L10 : ∀ (n : Nat) (x3 : Int) (ha : kH), (24 - x3).toNat < n → (Gd g ha) → (Fx (fun c i => 160 ≤ c ∧ c ≤ 168) h ha) → (0 ≤ x3 ∧ x3 ≤ 24) → K X_Plans_prepare G (kZm G 4 (kQv (fun h' => Fx (fun c i => 160 ≤ c ∧ c ≤ 168) h h' ∧ (Gd g h')))) 10 [(0, .ref (G.2.2.2 160)), (1, .ref (G.2.2.2 3)), (2, kI v4), (3, kI x3)] [] ha := by
    intro n
    induction n with
    | zero => intro x3 ha hm; exact absurd hm (Nat.not_lt_zero _)
    | succ n ih10 =>
      intro x3 ha hm10 hI fx hV10
      refine K_iload_n (pc := 10) (i := 6) rfl rfl ?_
      refine K_iload_n (pc := 11) (i := 7) rfl rfl ?_
      refine K_iconst (pc := 12) (i := 8) rfl ?_
      refine K_imul (pc := 13) (i := 9) rfl ?_
      first | refine K_icmp_ge 118 (pc := 14) (i := 10) rfl rfl (by omega) (by omega) (fun b14 => ?_) (fun b14 => ?_) | refine K_icmp_ge_an 118 (pc := 14) (i := 10) rfl rfl (fun b14 => ?_) (fun b14 => ?_)
      · skip
        refine K_iconst (pc := 118) (i := 69) rfl ?_
        refine K_ist_n (pc := 119) (i := 70) (lo' := [(0, _), (1, _), (2, _), (3, _)]) rfl rfl rfl rfl ?_
        have L120 : ∀ (n : Nat) (x3 : Int) (ha : kH), (24 - x3).toNat < n → (Gd g ha) → (Fx (fun c i => 160 ≤ c ∧ c ≤ 168) h ha) → (0 ≤ x3 ∧ x3 ≤ 24) → K X_Plans_prepare G (kZm G 4 (kQv (fun h' => Fx (fun c i => 160 ≤ c ∧ c ≤ 168) h h' ∧ (Gd g h')))) 120 [(0, .ref (G.2.2.2 160)), (1, .ref (G.2.2.2 3)), (2, kI v4), (3, kI x3)] [] ha := by
          intro n
          induction n with
          | zero => intro x3 ha hm; exact absurd hm (Nat.not_lt_zero _)
          | succ n ih120 =>
            intro x3 ha hm120 hI fx hV120
            refine K_iload_n (pc := 120) (i := 71) rfl rfl ?_
            refine K_iload_n (pc := 121) (i := 72) rfl rfl ?_
            refine K_iconst (pc := 122) (i := 73) rfl ?_
            refine K_imul (pc := 123) (i := 74) rfl ?_
            first | refine K_icmp_ge 193 (pc := 124) (i := 75) rfl rfl (by omega) (by omega) (fun b124 => ?_) (fun b124 => ?_) | refine K_icmp_ge_an 193 (pc := 124) (i := 75) rfl rfl (fun b124 => ?_) (fun b124 => ?_)
            · skip
              exact K_retV (pc := 193) (i := 113) rfl rfl ⟨fx, hI⟩
            · skip
              refine K_iconst (pc := 127) (i := 76) rfl ?_
              refine K_ist (pc := 128) (i := 77) (lo' := [(0, _), (1, _), (2, _), (3, _), (4, _)]) rfl rfl rfl rfl ?_
              have L130 : ∀ (n : Nat) (x4 : Int) (ha : kH), (24 - x4).toNat < n → (Gd g ha) → (Fx (fun c i => 160 ≤ c ∧ c ≤ 168) h ha) → (0 ≤ x4 ∧ x4 ≤ 24) → K X_Plans_prepare G (kZm G 4 (kQv (fun h' => Fx (fun c i => 160 ≤ c ∧ c ≤ 168) h h' ∧ (Gd g h')))) 130 [(0, .ref (G.2.2.2 160)), (1, .ref (G.2.2.2 3)), (2, kI v4), (3, kI x3), (4, kI x4)] [] ha := by
                intro n
                induction n with
                | zero => intro x4 ha hm; exact absurd hm (Nat.not_lt_zero _)
                | succ n ih130 =>
                  intro x4 ha hm130 hI fx hV130
                  refine K_iload (pc := 130) (i := 78) rfl rfl ?_
                  refine K_iload_n (pc := 132) (i := 79) rfl rfl ?_
                  refine K_iconst (pc := 133) (i := 80) rfl ?_
                  refine K_imul (pc := 134) (i := 81) rfl ?_
                  first | refine K_icmp_ge 187 (pc := 135) (i := 82) rfl rfl (by omega) (by omega) (fun b135 => ?_) (fun b135 => ?_) | refine K_icmp_ge_an 187 (pc := 135) (i := 82) rfl rfl (fun b135 => ?_) (fun b135 => ?_)
                  · skip
                    refine K_inc (pc := 187) (i := 111) (q := 3) (lo' := [(0, _), (1, _), (2, _), (3, _), (4, _)]) rfl rfl rfl rfl rfl ?_
                    refine K_goto 120 (pc := 190) (i := 112) rfl rfl ?_
                    refine K_drop (lo' := [(0, .ref (G.2.2.2 160)), (1, .ref (G.2.2.2 3)), (2, kI v4), (3, kI (x3 + 1))]) [0, 1, 2, 3] rfl ?_
                    exact ih120 (x3 + 1) _ (by omega) hI fx (by omega)
                  · skip
                    refine K_aload_n (pc := 138) (i := 83) rfl rfl ?_
                    refine K_getR (pc := 139) (i := 84) (j := 2) (d := 163) rfl S_160 rfl (by decide) rfl fw_Plans_18 ?_
                    refine K_iload_n (pc := 142) (i := 85) rfl rfl ?_
                    refine K_iald (pc := 143) (i := 86) rfl S_163 (by omega) (by omega) (by decide) ?_
                    refine K_any (fun v143 r143 => ?_)
                    refine K_aload_n (pc := 144) (i := 87) rfl rfl ?_
                    refine K_getR (pc := 145) (i := 88) (j := 2) (d := 163) rfl S_160 rfl (by decide) rfl fw_Plans_18 ?_
                    refine K_iload (pc := 148) (i := 89) rfl rfl ?_
                    refine K_iald (pc := 150) (i := 90) rfl S_163 (by omega) (by omega) (by decide) ?_
                    refine K_any (fun v150 r150 => ?_)
                    first | refine K_icmp_le 181 (pc := 151) (i := 91) rfl rfl (by omega) (by omega) (fun b151 => ?_) (fun b151 => ?_) | refine K_icmp_le_an 181 (pc := 151) (i := 91) rfl rfl (fun b151 => ?_) (fun b151 => ?_)
                    · skip
                      refine K_inc (pc := 181) (i := 109) (q := 4) (lo' := [(0, _), (1, _), (2, _), (3, _), (4, _)]) rfl rfl rfl rfl rfl ?_
                      refine K_goto 130 (pc := 184) (i := 110) rfl rfl ?_
                      exact ih130 (x4 + 1) _ (by omega) hI fx (by omega)
                    · skip
                      refine K_aload_n (pc := 154) (i := 92) rfl rfl ?_
                      refine K_aload_n (pc := 155) (i := 93) rfl rfl ?_
                      refine K_getR (pc := 156) (i := 94) (j := 0) (d := 6) rfl (S_Sk sk3) rfl (by decide) rfl fw_Plans_44 ?_
                      refine K_iload_n (pc := 159) (i := 95) rfl rfl ?_
                      refine K_iload (pc := 160) (i := 96) rfl rfl ?_
                      refine K_cVI (pc := 162) (i := 97) rfl (c_Plans_mayFight G (f := 6) (hf := fl6) (x2 := x3) (x3 := x4) (hI := hI) (s2 := by omega) (s3 := by omega)) S_160 rfl (lv_Plans_104 rfl) rfl rfl rfl rfl rfl (fun v162 h162 q162 => ?_)
                      obtain ⟨eh, r162⟩ := q162
                      rw [eh]; clear eh
                      first | refine K_if_eq 181 (pc := 165) (i := 98) rfl rfl (by omega) (fun b165 => ?_) (fun b165 => ?_) | refine K_if_eq_an 181 (pc := 165) (i := 98) rfl rfl (fun b165 => ?_) (fun b165 => ?_)
                      · skip
                        refine K_inc (pc := 181) (i := 109) (q := 4) (lo' := [(0, _), (1, _), (2, _), (3, _), (4, _)]) rfl rfl rfl rfl rfl ?_
                        refine K_goto 130 (pc := 184) (i := 110) rfl rfl ?_
                        exact ih130 (x4 + 1) _ (by omega) hI fx (by omega)
                      · skip
                        refine K_aload_n (pc := 168) (i := 99) rfl rfl ?_
                        refine K_getR (pc := 169) (i := 100) (j := 3) (d := 164) rfl S_160 rfl (by decide) rfl fw_Plans_21 ?_
                        refine K_iload_n (pc := 172) (i := 101) rfl rfl ?_
                        refine K_dup2 (pc := 173) (i := 102) rfl rfl rfl ?_
                        refine K_iald (pc := 174) (i := 103) rfl S_164 (by omega) (by omega) (by decide) ?_
                        refine K_any (fun v174 r174 => ?_)
                        refine K_iconst (pc := 175) (i := 104) rfl ?_
                        refine K_iload (pc := 176) (i := 105) rfl rfl ?_
                        refine K_ishl (pc := 178) (i := 106) rfl ?_
                        refine K_any (fun v178 r178 => ?_)
                        refine K_ior (pc := 179) (i := 107) rfl ?_
                        refine K_any (fun v179 r179 => ?_)
                        refine K_iast (pc := 180) (i := 108) rfl S_164 (by omega) (by omega) (by decide) ?_
                        have hI := st_free (c := 164) hI (by decide +kernel) (by decide) (i := (x3).toNat) (v := v179)
                        have fx := Fx.st (c := 164) (i := (x3).toNat) (v := v179) fx (by first | (dsimp only; omega) | omega | exact not_false)
                        refine K_inc (pc := 181) (i := 109) (q := 4) (lo' := [(0, _), (1, _), (2, _), (3, _), (4, _)]) rfl rfl rfl rfl rfl ?_
                        refine K_goto 130 (pc := 184) (i := 110) rfl rfl ?_
                        exact ih130 (x4 + 1) _ (by omega) hI fx (by omega)
              exact L130 _ 0 _ (Nat.lt_succ_self _) hI fx (by omega)
        exact L120 _ 0 _ (Nat.lt_succ_self _) hI fx (by omega)
      · skip
        refine K_iload_n (pc := 17) (i := 11) rfl rfl ?_
        refine K_iconst (pc := 18) (i := 12) rfl ?_
        refine K_idiv (pc := 19) (i := 13) rfl (by omega) (by omega) ?_
        refine K_eq (kDiv_eq (by omega) (by omega) (by omega) (by omega)) ?_
        refine K_ist (pc := 20) (i := 14) (lo' := [(0, _), (1, _), (2, _), (3, _), (4, _)]) rfl rfl rfl rfl ?_
        refine K_iload_n (pc := 22) (i := 15) rfl rfl ?_
        refine K_iconst (pc := 23) (i := 16) rfl ?_
        refine K_irem (pc := 24) (i := 17) rfl (by omega) (by omega) ?_
        refine K_eq (kRem_eq (by omega) (by omega) (by omega) (by omega)) ?_
        refine K_iconst (pc := 25) (i := 18) rfl ?_
        refine K_isub (pc := 26) (i := 19) rfl ?_
        refine K_ist (pc := 27) (i := 20) (lo' := [(0, _), (1, _), (2, _), (3, _), (4, _), (5, _)]) rfl rfl rfl rfl ?_
        refine K_iconst (pc := 29) (i := 21) rfl ?_
        refine K_bipush (pc := 30) (i := 22) rfl rfl ?_
        refine K_aload_n (pc := 32) (i := 23) rfl rfl ?_
        refine K_getR (pc := 33) (i := 24) (j := 0) (d := 6) rfl (S_Sk sk3) rfl (by decide) rfl fw_Plans_44 ?_
        refine K_getR (pc := 36) (i := 25) (j := 3) (d := 10) rfl (S_Fl fl6) rfl (by decide) rfl fw_Plans_80 ?_
        refine K_iload (pc := 39) (i := 26) rfl rfl ?_
        refine K_iald (pc := 41) (i := 27) rfl (S_Fl4 fl6) (by omega) (by omega) (by decide) ?_
        refine K_nm (fun v41 e41 => ?_)
        have r41 := rd_height hI fl6 (x3 / 3).toNat
        rw [← e41] at r41
        refine K_iload (pc := 42) (i := 28) rfl rfl ?_
        refine K_iadd (pc := 44) (i := 29) rfl ?_
        refine K_mmin (pc := 45) (i := 30) rfl mw_Plans_83 (by omega) (by omega) (Nat.le_of_ble_eq_true rfl) ⟨Nat.le_of_ble_eq_true rfl, Nat.le_of_ble_eq_true rfl⟩ ⟨Nat.le_of_ble_eq_true rfl, Nat.le_of_ble_eq_true rfl⟩ ?_
        refine K_nm (fun v45 e45 => ?_)
        refine K_mmax (pc := 48) (i := 31) rfl mw_Plans_89 (by omega) (by omega) (Nat.le_of_ble_eq_true rfl) ⟨Nat.le_of_ble_eq_true rfl, Nat.le_of_ble_eq_true rfl⟩ ⟨Nat.le_of_ble_eq_true rfl, Nat.le_of_ble_eq_true rfl⟩ ?_
        refine K_nm (fun v48 e48 => ?_)
        refine K_ist (pc := 51) (i := 32) (lo' := [(0, _), (1, _), (2, _), (3, _), (4, _), (5, _), (6, _)]) rfl rfl rfl rfl ?_
        refine K_aload_n (pc := 53) (i := 33) rfl rfl ?_
        refine K_getR (pc := 54) (i := 34) (j := 0) (d := 161) rfl S_160 rfl (by decide) rfl fw_Plans_11 ?_
        refine K_iload_n (pc := 57) (i := 35) rfl rfl ?_
        refine K_iload (pc := 58) (i := 36) rfl rfl ?_
        refine K_iast (pc := 60) (i := 37) rfl S_161 (by omega) (by omega) (by decide) ?_
        have hI := st_plh hI (i := (x3).toNat) (v := v48) (by omega)
        have fx := Fx.st (c := 161) (i := (x3).toNat) (v := v48) fx (by first | (dsimp only; omega) | omega | exact not_false)
        refine K_aload_n (pc := 61) (i := 38) rfl rfl ?_
        refine K_getR (pc := 62) (i := 39) (j := 1) (d := 162) rfl S_160 rfl (by decide) rfl fw_Plans_15 ?_
        refine K_iload_n (pc := 65) (i := 40) rfl rfl ?_
        refine K_aload_n (pc := 66) (i := 41) rfl rfl ?_
        refine K_aload_n (pc := 67) (i := 42) rfl rfl ?_
        refine K_getR (pc := 68) (i := 43) (j := 0) (d := 6) rfl (S_Sk sk3) rfl (by decide) rfl fw_Plans_44 ?_
        refine K_getR (pc := 71) (i := 44) (j := 2) (d := 9) rfl (S_Fl fl6) rfl (by decide) rfl fw_Plans_92 ?_
        refine K_iload (pc := 74) (i := 45) rfl rfl ?_
        refine K_iald (pc := 76) (i := 46) rfl (S_Fl3 fl6) (by omega) (by omega) (by decide) ?_
        refine K_nm (fun v76 e76 => ?_)
        have r76 := rd_x hI fl6 (x3 / 3).toNat
        rw [← e76] at r76
        refine K_iload (pc := 77) (i := 47) rfl rfl ?_
        refine K_cVI (pc := 79) (i := 48) rfl (c_Sky_blownX G (s := 3) (hs := sk3) (x1 := v76) (x2 := v48) (hI := hI) (s1 := by omega) (s2 := by omega)) (S_Sk sk3) rfl (lv_Plans_95 rfl) rfl rfl rfl rfl rfl (fun v79 h79 q79 => ?_)
        obtain ⟨eh, r79⟩ := q79
        rw [eh]; clear eh
        refine K_iast (pc := 82) (i := 49) rfl S_162 (by omega) (by omega) (by decide) ?_
        have hI := st_plp hI (i := (x3).toNat) (v := v79) (by omega)
        have fx := Fx.st (c := 162) (i := (x3).toNat) (v := v79) fx (by first | (dsimp only; omega) | omega | exact not_false)
        refine K_aload_n (pc := 83) (i := 50) rfl rfl ?_
        refine K_getR (pc := 84) (i := 51) (j := 2) (d := 163) rfl S_160 rfl (by decide) rfl fw_Plans_18 ?_
        refine K_iload_n (pc := 87) (i := 52) rfl rfl ?_
        refine K_aload_n (pc := 88) (i := 53) rfl rfl ?_
        refine K_aload_n (pc := 89) (i := 54) rfl rfl ?_
        refine K_getR (pc := 90) (i := 55) (j := 0) (d := 6) rfl (S_Sk sk3) rfl (by decide) rfl fw_Plans_44 ?_
        refine K_getR (pc := 93) (i := 56) (j := 4) (d := 11) rfl (S_Fl fl6) rfl (by decide) rfl fw_Plans_98 ?_
        refine K_iload (pc := 96) (i := 57) rfl rfl ?_
        refine K_iald (pc := 98) (i := 58) rfl (S_Fl5 fl6) (by omega) (by omega) (by decide) ?_
        refine K_nm (fun v98 e98 => ?_)
        have r98 := rd_glass hI fl6 (x3 / 3).toNat
        rw [← e98] at r98
        refine K_iload (pc := 99) (i := 59) rfl rfl ?_
        refine K_cVI (pc := 101) (i := 60) rfl (c_Sky_edgeAt G (s := 3) (hs := sk3) (x1 := v98) (x2 := v48) (hI := hI) (s1 := by omega) (s2 := by omega)) (S_Sk sk3) rfl (lv_Plans_101 rfl) rfl rfl rfl rfl rfl (fun v101 h101 q101 => ?_)
        obtain ⟨eh, r101⟩ := q101
        rw [eh]; clear eh
        refine K_iast (pc := 104) (i := 61) rfl S_163 (by omega) (by omega) (by decide) ?_
        have hI := st_free (c := 163) hI (by decide +kernel) (by decide) (i := (x3).toNat) (v := v101)
        have fx := Fx.st (c := 163) (i := (x3).toNat) (v := v101) fx (by first | (dsimp only; omega) | omega | exact not_false)
        refine K_aload_n (pc := 105) (i := 62) rfl rfl ?_
        refine K_getR (pc := 106) (i := 63) (j := 3) (d := 164) rfl S_160 rfl (by decide) rfl fw_Plans_21 ?_
        refine K_iload_n (pc := 109) (i := 64) rfl rfl ?_
        refine K_iconst (pc := 110) (i := 65) rfl ?_
        refine K_iast (pc := 111) (i := 66) rfl S_164 (by omega) (by omega) (by decide) ?_
        have hI := st_free (c := 164) hI (by decide +kernel) (by decide) (i := (x3).toNat) (v := 0)
        have fx := Fx.st (c := 164) (i := (x3).toNat) (v := 0) fx (by first | (dsimp only; omega) | omega | exact not_false)
        refine K_inc (pc := 112) (i := 67) (q := 3) (lo' := [(0, _), (1, _), (2, _), (3, _), (4, _), (5, _), (6, _)]) rfl rfl rfl rfl rfl ?_
        refine K_goto 10 (pc := 115) (i := 68) rfl rfl ?_
        refine K_drop (lo' := [(0, .ref (G.2.2.2 160)), (1, .ref (G.2.2.2 3)), (2, kI v4), (3, kI (x3 + 1))]) [0, 1, 2, 3] rfl ?_
        exact ih10 (x3 + 1) _ (by omega) hI fx (by omega)
  exact L10 _ 0 _ (Nat.lt_succ_self _) hI fx (by omega)
set_option maxHeartbeats 4000000 in
set_option maxRecDepth 100000 in
theorem c_Plans_prepareAnswers (G : kG) {g : kGh} {h : kH} {f : Nat} (hf : f ∈ FL) {x2 : Int} {x3 : Int} (s2 : 0 ≤ x2 ∧ x2 ≤ 1) (hI : Gd g h) : Ctr G y_Plans_prepareAnswers X_Plans_prepareAnswers 3 [.ref (G.2.2.2 160), .ref (G.2.2.2 f), kI x2, kI x3] h (kQv (fun h' => Fx (fun c i => 160 ≤ c ∧ c ≤ 168) h h' ∧ (Gd g h'))) := by
  refine Ctr.ofK (by decide) rfl T_Plans_prepareAnswers (Nat.le_of_ble_eq_true rfl) (lo := [(0, .ref (G.2.2.2 160)), (1, .ref (G.2.2.2 f)), (2, kI x2), (3, kI x3)]) rfl ?_
  have fx : Fx (fun c i => 160 ≤ c ∧ c ≤ 168) h h := Fx.rf
  refine K_aload_n (pc := 0) (i := 0) rfl rfl ?_
  refine K_iload_n (pc := 1) (i := 1) rfl rfl ?_
  refine K_cVI (pc := 2) (i := 2) rfl (c_Fleet_ofTown G (f := f) (hf := hf) (x1 := x2) (hI := hI) (s1 := by omega)) (S_Fl hf) rfl (lv_Plans_54 rfl) rfl rfl rfl rfl rfl (fun v2 h2 q2 => ?_)
  obtain ⟨eh, r2⟩ := q2
  rw [eh]; clear eh
  refine K_ist (pc := 5) (i := 3) (lo' := [(0, _), (1, _), (2, _), (3, _), (4, _)]) rfl rfl rfl rfl ?_
  refine K_aload_n (pc := 7) (i := 4) rfl rfl ?_
  refine K_iload_n (pc := 8) (i := 5) rfl rfl ?_
  first | refine K_if_eq 20 (pc := 9) (i := 6) rfl rfl (by omega) (fun b9 => ?_) (fun b9 => ?_) | refine K_if_eq_an 20 (pc := 9) (i := 6) rfl rfl (fun b9 => ?_) (fun b9 => ?_)
  · skip
    refine K_iconst (pc := 20) (i := 10) rfl ?_
    refine K_putI (pc := 21) (i := 11) (j := 8) rfl S_160 rfl (by decide) rfl rfl rfl fw_Plans_36 ?_
    have hI := st_anscount hI (v := 1) (by omega)
    have fx := Fx.st (c := 160) (i := 8) (v := 1) fx (by first | (dsimp only; omega) | omega | exact not_false)
    refine K_iconst (pc := 24) (i := 12) rfl ?_
    refine K_ist (pc := 25) (i := 13) (lo' := [(0, _), (1, _), (2, _), (3, _), (4, _), (5, _)]) rfl rfl rfl rfl ?_
    have L27 : ∀ (n : Nat) (x5 : Int) (ha : kH), (243 - x5).toNat < n → (Gd g ha) → (Fx (fun c i => 160 ≤ c ∧ c ≤ 168) h ha) → (0 ≤ x5 ∧ x5 ≤ 243) → K X_Plans_prepareAnswers G (kZm G 3 (kQv (fun h' => Fx (fun c i => 160 ≤ c ∧ c ≤ 168) h h' ∧ (Gd g h')))) 27 [(0, .ref (G.2.2.2 160)), (1, .ref (G.2.2.2 f)), (2, kI x2), (3, kI x3), (4, kI v2), (5, kI x5)] [] ha := by
      intro n
      induction n with
      | zero => intro x5 ha hm; exact absurd hm (Nat.not_lt_zero _)
      | succ n ih27 =>
        intro x5 ha hm27 hI fx hV27
        refine K_iload (pc := 27) (i := 14) rfl rfl ?_
        refine K_aload_n (pc := 29) (i := 15) rfl rfl ?_
        refine K_getI (pc := 30) (i := 16) (j := 8) rfl S_160 rfl (by decide) rfl fw_Plans_36 ?_
        refine K_nm (fun v30 e30 => ?_)
        have r30 := rd_anscount hI
        rw [← e30] at r30
        first | refine K_icmp_ge 92 (pc := 33) (i := 17) rfl rfl (by omega) (by omega) (fun b33 => ?_) (fun b33 => ?_) | refine K_icmp_ge_an 92 (pc := 33) (i := 17) rfl rfl (fun b33 => ?_) (fun b33 => ?_)
        · skip
          exact K_retV (pc := 92) (i := 47) rfl rfl ⟨fx, hI⟩
        · skip
          refine K_iload_n (pc := 36) (i := 18) rfl rfl ?_
          first | refine K_if_eq 51 (pc := 37) (i := 19) rfl rfl (by omega) (fun b37 => ?_) (fun b37 => ?_) | refine K_if_eq_an 51 (pc := 37) (i := 19) rfl rfl (fun b37 => ?_) (fun b37 => ?_)
          · skip
            refine K_aload_n (pc := 51) (i := 25) rfl rfl ?_
            refine K_cVV (pc := 52) (i := 26) rfl (c_Plans_takeStay G (hI := hI)) S_160 rfl (lv_Plans_118 rfl) rfl rfl rfl rfl rfl (fun h52 q52 => ?_)
            obtain ⟨fx52, q52⟩ := q52
            have hI := q52
            have fx := fx.tr fx52 (fun c i q => (by first | (dsimp only at q ⊢; omega) | omega))
            refine K_aload_n (pc := 55) (i := 27) rfl rfl ?_
            refine K_getR (pc := 56) (i := 28) (j := 6) (d := 167) rfl S_160 rfl (by decide) rfl fw_Plans_30 ?_
            refine K_iload (pc := 59) (i := 29) rfl rfl ?_
            refine K_aload_n (pc := 61) (i := 30) rfl rfl ?_
            refine K_aload_n (pc := 62) (i := 31) rfl rfl ?_
            refine K_iload_n (pc := 63) (i := 32) rfl rfl ?_
            refine K_cVI (pc := 64) (i := 33) rfl (c_Plans_choices G (f := f) (hf := hf) (x2 := x2) (hI := hI) (s2 := by omega)) S_160 rfl (lv_Plans_121 rfl) rfl rfl rfl rfl rfl (fun v64 h64 q64 => ?_)
            obtain ⟨eh, r64⟩ := q64
            rw [eh]; clear eh
            refine K_iast (pc := 67) (i := 34) rfl S_167 (by omega) (by omega) (by decide) ?_
            have hI := st_free (c := 167) hI (by decide +kernel) (by decide) (i := (x5).toNat) (v := v64)
            have fx := Fx.st (c := 167) (i := (x5).toNat) (v := v64) fx (by first | (dsimp only; omega) | omega | exact not_false)
            refine K_aload_n (pc := 68) (i := 35) rfl rfl ?_
            refine K_getR (pc := 69) (i := 36) (j := 7) (d := 168) rfl S_160 rfl (by decide) rfl fw_Plans_33 ?_
            refine K_iload (pc := 72) (i := 37) rfl rfl ?_
            refine K_aload_n (pc := 74) (i := 38) rfl rfl ?_
            refine K_aload_n (pc := 75) (i := 39) rfl rfl ?_
            refine K_getR (pc := 76) (i := 40) (j := 6) (d := 167) rfl S_160 rfl (by decide) rfl fw_Plans_30 ?_
            refine K_iload (pc := 79) (i := 41) rfl rfl ?_
            refine K_iald (pc := 81) (i := 42) rfl S_167 (by omega) (by omega) (by decide) ?_
            refine K_any (fun v81 r81 => ?_)
            refine K_cVI (pc := 82) (i := 43) rfl (c_Plans_cutBy G (x1 := v81) (hI := hI)) S_160 rfl (lv_Plans_124 rfl) rfl rfl rfl rfl rfl (fun v82 h82 q82 => ?_)
            obtain ⟨eh, r82⟩ := q82
            rw [eh]; clear eh
            refine K_iast (pc := 85) (i := 44) rfl S_168 (by omega) (by omega) (by decide) ?_
            have hI := st_free (c := 168) hI (by decide +kernel) (by decide) (i := (x5).toNat) (v := v82)
            have fx := Fx.st (c := 168) (i := (x5).toNat) (v := v82) fx (by first | (dsimp only; omega) | omega | exact not_false)
            refine K_inc (pc := 86) (i := 45) (q := 5) (lo' := [(0, _), (1, _), (2, _), (3, _), (4, _), (5, _)]) rfl rfl rfl rfl rfl ?_
            refine K_goto 27 (pc := 89) (i := 46) rfl rfl ?_
            exact ih27 (x5 + 1) _ (by omega) hI fx (by omega)
          · skip
            refine K_aload_n (pc := 40) (i := 20) rfl rfl ?_
            refine K_iload (pc := 41) (i := 21) rfl rfl ?_
            refine K_iload (pc := 43) (i := 22) rfl rfl ?_
            refine K_cVV (pc := 45) (i := 23) rfl (c_Plans_takePlan G (x1 := x5) (x2 := v2) (hI := hI) (s1 := by omega) (s2 := by omega)) S_160 rfl (lv_Plans_63 rfl) rfl rfl rfl rfl rfl (fun h45 q45 => ?_)
            obtain ⟨fx45, q45⟩ := q45
            have hI := q45
            have fx := fx.tr fx45 (fun c i q => (by first | (dsimp only at q ⊢; omega) | omega))
            refine K_goto 55 (pc := 48) (i := 24) rfl rfl ?_
            refine K_aload_n (pc := 55) (i := 27) rfl rfl ?_
            refine K_getR (pc := 56) (i := 28) (j := 6) (d := 167) rfl S_160 rfl (by decide) rfl fw_Plans_30 ?_
            refine K_iload (pc := 59) (i := 29) rfl rfl ?_
            refine K_aload_n (pc := 61) (i := 30) rfl rfl ?_
            refine K_aload_n (pc := 62) (i := 31) rfl rfl ?_
            refine K_iload_n (pc := 63) (i := 32) rfl rfl ?_
            refine K_cVI (pc := 64) (i := 33) rfl (c_Plans_choices G (f := f) (hf := hf) (x2 := x2) (hI := hI) (s2 := by omega)) S_160 rfl (lv_Plans_121 rfl) rfl rfl rfl rfl rfl (fun v64 h64 q64 => ?_)
            obtain ⟨eh, r64⟩ := q64
            rw [eh]; clear eh
            refine K_iast (pc := 67) (i := 34) rfl S_167 (by omega) (by omega) (by decide) ?_
            have hI := st_free (c := 167) hI (by decide +kernel) (by decide) (i := (x5).toNat) (v := v64)
            have fx := Fx.st (c := 167) (i := (x5).toNat) (v := v64) fx (by first | (dsimp only; omega) | omega | exact not_false)
            refine K_aload_n (pc := 68) (i := 35) rfl rfl ?_
            refine K_getR (pc := 69) (i := 36) (j := 7) (d := 168) rfl S_160 rfl (by decide) rfl fw_Plans_33 ?_
            refine K_iload (pc := 72) (i := 37) rfl rfl ?_
            refine K_aload_n (pc := 74) (i := 38) rfl rfl ?_
            refine K_aload_n (pc := 75) (i := 39) rfl rfl ?_
            refine K_getR (pc := 76) (i := 40) (j := 6) (d := 167) rfl S_160 rfl (by decide) rfl fw_Plans_30 ?_
            refine K_iload (pc := 79) (i := 41) rfl rfl ?_
            refine K_iald (pc := 81) (i := 42) rfl S_167 (by omega) (by omega) (by decide) ?_
            refine K_any (fun v81 r81 => ?_)
            refine K_cVI (pc := 82) (i := 43) rfl (c_Plans_cutBy G (x1 := v81) (hI := hI)) S_160 rfl (lv_Plans_124 rfl) rfl rfl rfl rfl rfl (fun v82 h82 q82 => ?_)
            obtain ⟨eh, r82⟩ := q82
            rw [eh]; clear eh
            refine K_iast (pc := 85) (i := 44) rfl S_168 (by omega) (by omega) (by decide) ?_
            have hI := st_free (c := 168) hI (by decide +kernel) (by decide) (i := (x5).toNat) (v := v82)
            have fx := Fx.st (c := 168) (i := (x5).toNat) (v := v82) fx (by first | (dsimp only; omega) | omega | exact not_false)
            refine K_inc (pc := 86) (i := 45) (q := 5) (lo' := [(0, _), (1, _), (2, _), (3, _), (4, _), (5, _)]) rfl rfl rfl rfl rfl ?_
            refine K_goto 27 (pc := 89) (i := 46) rfl rfl ?_
            exact ih27 (x5 + 1) _ (by omega) hI fx (by omega)
    exact L27 _ 0 _ (Nat.lt_succ_self _) hI fx (by omega)
  · skip
    refine K_iload (pc := 12) (i := 7) rfl rfl ?_
    refine K_cSI (pc := 14) (i := 8) rfl (c_Plans_planCount G (x0 := v2) (s0 := by omega)) (ls_Plans_60 rfl) rfl rfl rfl rfl (fun v14 h14 q14 => ?_)
    obtain ⟨eh, r14⟩ := q14
    rw [eh]; clear eh
    refine K_goto 21 (pc := 17) (i := 9) rfl rfl ?_
    refine K_putI (pc := 21) (i := 11) (j := 8) rfl S_160 rfl (by decide) rfl rfl rfl fw_Plans_36 ?_
    have hI := st_anscount hI (v := v14) (by omega)
    have fx := Fx.st (c := 160) (i := 8) (v := v14) fx (by first | (dsimp only; omega) | omega | exact not_false)
    refine K_iconst (pc := 24) (i := 12) rfl ?_
    refine K_ist (pc := 25) (i := 13) (lo' := [(0, _), (1, _), (2, _), (3, _), (4, _), (5, _)]) rfl rfl rfl rfl ?_
    have L27 : ∀ (n : Nat) (x5 : Int) (ha : kH), (243 - x5).toNat < n → (Gd g ha) → (Fx (fun c i => 160 ≤ c ∧ c ≤ 168) h ha) → (0 ≤ x5 ∧ x5 ≤ 243) → K X_Plans_prepareAnswers G (kZm G 3 (kQv (fun h' => Fx (fun c i => 160 ≤ c ∧ c ≤ 168) h h' ∧ (Gd g h')))) 27 [(0, .ref (G.2.2.2 160)), (1, .ref (G.2.2.2 f)), (2, kI x2), (3, kI x3), (4, kI v2), (5, kI x5)] [] ha := by
      intro n
      induction n with
      | zero => intro x5 ha hm; exact absurd hm (Nat.not_lt_zero _)
      | succ n ih27 =>
        intro x5 ha hm27 hI fx hV27
        refine K_iload (pc := 27) (i := 14) rfl rfl ?_
        refine K_aload_n (pc := 29) (i := 15) rfl rfl ?_
        refine K_getI (pc := 30) (i := 16) (j := 8) rfl S_160 rfl (by decide) rfl fw_Plans_36 ?_
        refine K_nm (fun v30 e30 => ?_)
        have r30 := rd_anscount hI
        rw [← e30] at r30
        first | refine K_icmp_ge 92 (pc := 33) (i := 17) rfl rfl (by omega) (by omega) (fun b33 => ?_) (fun b33 => ?_) | refine K_icmp_ge_an 92 (pc := 33) (i := 17) rfl rfl (fun b33 => ?_) (fun b33 => ?_)
        · skip
          exact K_retV (pc := 92) (i := 47) rfl rfl ⟨fx, hI⟩
        · skip
          refine K_iload_n (pc := 36) (i := 18) rfl rfl ?_
          first | refine K_if_eq 51 (pc := 37) (i := 19) rfl rfl (by omega) (fun b37 => ?_) (fun b37 => ?_) | refine K_if_eq_an 51 (pc := 37) (i := 19) rfl rfl (fun b37 => ?_) (fun b37 => ?_)
          · skip
            refine K_aload_n (pc := 51) (i := 25) rfl rfl ?_
            refine K_cVV (pc := 52) (i := 26) rfl (c_Plans_takeStay G (hI := hI)) S_160 rfl (lv_Plans_118 rfl) rfl rfl rfl rfl rfl (fun h52 q52 => ?_)
            obtain ⟨fx52, q52⟩ := q52
            have hI := q52
            have fx := fx.tr fx52 (fun c i q => (by first | (dsimp only at q ⊢; omega) | omega))
            refine K_aload_n (pc := 55) (i := 27) rfl rfl ?_
            refine K_getR (pc := 56) (i := 28) (j := 6) (d := 167) rfl S_160 rfl (by decide) rfl fw_Plans_30 ?_
            refine K_iload (pc := 59) (i := 29) rfl rfl ?_
            refine K_aload_n (pc := 61) (i := 30) rfl rfl ?_
            refine K_aload_n (pc := 62) (i := 31) rfl rfl ?_
            refine K_iload_n (pc := 63) (i := 32) rfl rfl ?_
            refine K_cVI (pc := 64) (i := 33) rfl (c_Plans_choices G (f := f) (hf := hf) (x2 := x2) (hI := hI) (s2 := by omega)) S_160 rfl (lv_Plans_121 rfl) rfl rfl rfl rfl rfl (fun v64 h64 q64 => ?_)
            obtain ⟨eh, r64⟩ := q64
            rw [eh]; clear eh
            refine K_iast (pc := 67) (i := 34) rfl S_167 (by omega) (by omega) (by decide) ?_
            have hI := st_free (c := 167) hI (by decide +kernel) (by decide) (i := (x5).toNat) (v := v64)
            have fx := Fx.st (c := 167) (i := (x5).toNat) (v := v64) fx (by first | (dsimp only; omega) | omega | exact not_false)
            refine K_aload_n (pc := 68) (i := 35) rfl rfl ?_
            refine K_getR (pc := 69) (i := 36) (j := 7) (d := 168) rfl S_160 rfl (by decide) rfl fw_Plans_33 ?_
            refine K_iload (pc := 72) (i := 37) rfl rfl ?_
            refine K_aload_n (pc := 74) (i := 38) rfl rfl ?_
            refine K_aload_n (pc := 75) (i := 39) rfl rfl ?_
            refine K_getR (pc := 76) (i := 40) (j := 6) (d := 167) rfl S_160 rfl (by decide) rfl fw_Plans_30 ?_
            refine K_iload (pc := 79) (i := 41) rfl rfl ?_
            refine K_iald (pc := 81) (i := 42) rfl S_167 (by omega) (by omega) (by decide) ?_
            refine K_any (fun v81 r81 => ?_)
            refine K_cVI (pc := 82) (i := 43) rfl (c_Plans_cutBy G (x1 := v81) (hI := hI)) S_160 rfl (lv_Plans_124 rfl) rfl rfl rfl rfl rfl (fun v82 h82 q82 => ?_)
            obtain ⟨eh, r82⟩ := q82
            rw [eh]; clear eh
            refine K_iast (pc := 85) (i := 44) rfl S_168 (by omega) (by omega) (by decide) ?_
            have hI := st_free (c := 168) hI (by decide +kernel) (by decide) (i := (x5).toNat) (v := v82)
            have fx := Fx.st (c := 168) (i := (x5).toNat) (v := v82) fx (by first | (dsimp only; omega) | omega | exact not_false)
            refine K_inc (pc := 86) (i := 45) (q := 5) (lo' := [(0, _), (1, _), (2, _), (3, _), (4, _), (5, _)]) rfl rfl rfl rfl rfl ?_
            refine K_goto 27 (pc := 89) (i := 46) rfl rfl ?_
            exact ih27 (x5 + 1) _ (by omega) hI fx (by omega)
          · skip
            refine K_aload_n (pc := 40) (i := 20) rfl rfl ?_
            refine K_iload (pc := 41) (i := 21) rfl rfl ?_
            refine K_iload (pc := 43) (i := 22) rfl rfl ?_
            refine K_cVV (pc := 45) (i := 23) rfl (c_Plans_takePlan G (x1 := x5) (x2 := v2) (hI := hI) (s1 := by omega) (s2 := by omega)) S_160 rfl (lv_Plans_63 rfl) rfl rfl rfl rfl rfl (fun h45 q45 => ?_)
            obtain ⟨fx45, q45⟩ := q45
            have hI := q45
            have fx := fx.tr fx45 (fun c i q => (by first | (dsimp only at q ⊢; omega) | omega))
            refine K_goto 55 (pc := 48) (i := 24) rfl rfl ?_
            refine K_aload_n (pc := 55) (i := 27) rfl rfl ?_
            refine K_getR (pc := 56) (i := 28) (j := 6) (d := 167) rfl S_160 rfl (by decide) rfl fw_Plans_30 ?_
            refine K_iload (pc := 59) (i := 29) rfl rfl ?_
            refine K_aload_n (pc := 61) (i := 30) rfl rfl ?_
            refine K_aload_n (pc := 62) (i := 31) rfl rfl ?_
            refine K_iload_n (pc := 63) (i := 32) rfl rfl ?_
            refine K_cVI (pc := 64) (i := 33) rfl (c_Plans_choices G (f := f) (hf := hf) (x2 := x2) (hI := hI) (s2 := by omega)) S_160 rfl (lv_Plans_121 rfl) rfl rfl rfl rfl rfl (fun v64 h64 q64 => ?_)
            obtain ⟨eh, r64⟩ := q64
            rw [eh]; clear eh
            refine K_iast (pc := 67) (i := 34) rfl S_167 (by omega) (by omega) (by decide) ?_
            have hI := st_free (c := 167) hI (by decide +kernel) (by decide) (i := (x5).toNat) (v := v64)
            have fx := Fx.st (c := 167) (i := (x5).toNat) (v := v64) fx (by first | (dsimp only; omega) | omega | exact not_false)
            refine K_aload_n (pc := 68) (i := 35) rfl rfl ?_
            refine K_getR (pc := 69) (i := 36) (j := 7) (d := 168) rfl S_160 rfl (by decide) rfl fw_Plans_33 ?_
            refine K_iload (pc := 72) (i := 37) rfl rfl ?_
            refine K_aload_n (pc := 74) (i := 38) rfl rfl ?_
            refine K_aload_n (pc := 75) (i := 39) rfl rfl ?_
            refine K_getR (pc := 76) (i := 40) (j := 6) (d := 167) rfl S_160 rfl (by decide) rfl fw_Plans_30 ?_
            refine K_iload (pc := 79) (i := 41) rfl rfl ?_
            refine K_iald (pc := 81) (i := 42) rfl S_167 (by omega) (by omega) (by decide) ?_
            refine K_any (fun v81 r81 => ?_)
            refine K_cVI (pc := 82) (i := 43) rfl (c_Plans_cutBy G (x1 := v81) (hI := hI)) S_160 rfl (lv_Plans_124 rfl) rfl rfl rfl rfl rfl (fun v82 h82 q82 => ?_)
            obtain ⟨eh, r82⟩ := q82
            rw [eh]; clear eh
            refine K_iast (pc := 85) (i := 44) rfl S_168 (by omega) (by omega) (by decide) ?_
            have hI := st_free (c := 168) hI (by decide +kernel) (by decide) (i := (x5).toNat) (v := v82)
            have fx := Fx.st (c := 168) (i := (x5).toNat) (v := v82) fx (by first | (dsimp only; omega) | omega | exact not_false)
            refine K_inc (pc := 86) (i := 45) (q := 5) (lo' := [(0, _), (1, _), (2, _), (3, _), (4, _), (5, _)]) rfl rfl rfl rfl rfl ?_
            refine K_goto 27 (pc := 89) (i := 46) rfl rfl ?_
            exact ih27 (x5 + 1) _ (by omega) hI fx (by omega)
    exact L27 _ 0 _ (Nat.lt_succ_self _) hI fx (by omega)
set_option maxHeartbeats 4000000 in
set_option maxRecDepth 100000 in
theorem c_Plans_worstLead (G : kG) {g : kGh} {h : kH} {f : Nat} (hf : f ∈ FL) {x2 : Int} (s2 : 0 ≤ x2 ∧ x2 ≤ 1) (hI : Gd g h) : Ctr G y_Plans_worstLead X_Plans_worstLead 2 [.ref (G.2.2.2 160), .ref (G.2.2.2 f), kI x2] h (kQi (fun z h' => h' = h ∧ kR z)) := by
  refine Ctr.ofK (by decide) rfl T_Plans_worstLead (Nat.le_of_ble_eq_true rfl) (lo := [(0, .ref (G.2.2.2 160)), (1, .ref (G.2.2.2 f)), (2, kI x2)]) rfl ?_
  refine K_aload_n (pc := 0) (i := 0) rfl rfl ?_
  refine K_aload_n (pc := 1) (i := 1) rfl rfl ?_
  refine K_iload_n (pc := 2) (i := 2) rfl rfl ?_
  refine K_cVI (pc := 3) (i := 3) rfl (c_Plans_choices G (f := f) (hf := hf) (x2 := x2) (hI := hI) (s2 := by omega)) S_160 rfl (lv_Plans_121 rfl) rfl rfl rfl rfl rfl (fun v3 h3 q3 => ?_)
  obtain ⟨eh, r3⟩ := q3
  rw [eh]; clear eh
  refine K_ist_n (pc := 6) (i := 4) (lo' := [(0, _), (1, _), (2, _), (3, _)]) rfl rfl rfl rfl ?_
  refine K_aload_n (pc := 7) (i := 5) rfl rfl ?_
  refine K_iload_n (pc := 8) (i := 6) rfl rfl ?_
  refine K_cVI (pc := 9) (i := 7) rfl (c_Plans_cutBy G (x1 := v3) (hI := hI)) S_160 rfl (lv_Plans_124 rfl) rfl rfl rfl rfl rfl (fun v9 h9 q9 => ?_)
  obtain ⟨eh, r9⟩ := q9
  rw [eh]; clear eh
  refine K_ist (pc := 12) (i := 8) (lo' := [(0, _), (1, _), (2, _), (3, _), (4, _)]) rfl rfl rfl rfl ?_
  refine K_bipush (pc := 14) (i := 9) rfl rfl ?_
  refine K_ist (pc := 16) (i := 10) (lo' := [(0, _), (1, _), (2, _), (3, _), (4, _), (5, _)]) rfl rfl rfl rfl ?_
  refine K_iconst (pc := 18) (i := 11) rfl ?_
  refine K_ist (pc := 19) (i := 12) (lo' := [(0, _), (1, _), (2, _), (3, _), (4, _), (5, _), (6, _)]) rfl rfl rfl rfl ?_
  have L21 : ∀ (n : Nat) (x5 : Int) (x6 : Int), (243 - x6).toNat < n → ((0 ≤ x6 ∧ x6 ≤ 243) ∧ kR x5) → K X_Plans_worstLead G (kZm G 2 (kQi (fun z h' => h' = h ∧ kR z))) 21 [(0, .ref (G.2.2.2 160)), (1, .ref (G.2.2.2 f)), (2, kI x2), (3, kI v3), (4, kI v9), (5, kI x5), (6, kI x6)] [] h := by
    intro n
    induction n with
    | zero => intro x5 x6 hm; exact absurd hm (Nat.not_lt_zero _)
    | succ n ih21 =>
      intro x5 x6 hm21 hV21
      refine K_iload (pc := 21) (i := 13) rfl rfl ?_
      refine K_aload_n (pc := 23) (i := 14) rfl rfl ?_
      refine K_getI (pc := 24) (i := 15) (j := 8) rfl S_160 rfl (by decide) rfl fw_Plans_36 ?_
      refine K_nm (fun v24 e24 => ?_)
      have r24 := rd_anscount hI
      rw [← e24] at r24
      first | refine K_icmp_ge 77 (pc := 27) (i := 16) rfl rfl (by omega) (by omega) (fun b27 => ?_) (fun b27 => ?_) | refine K_icmp_ge_an 77 (pc := 27) (i := 16) rfl rfl (fun b27 => ?_) (fun b27 => ?_)
      · skip
        refine K_iload (pc := 77) (i := 41) rfl rfl ?_
        exact K_retI (pc := 79) (i := 42) rfl rfl ⟨rfl, by omega⟩
      · skip
        refine K_aload_n (pc := 30) (i := 17) rfl rfl ?_
        refine K_getR (pc := 31) (i := 18) (j := 6) (d := 167) rfl S_160 rfl (by decide) rfl fw_Plans_30 ?_
        refine K_iload (pc := 34) (i := 19) rfl rfl ?_
        refine K_iald (pc := 36) (i := 20) rfl S_167 (by omega) (by omega) (by decide) ?_
        refine K_any (fun v36 r36 => ?_)
        refine K_iload (pc := 37) (i := 21) rfl rfl ?_
        refine K_iand (pc := 39) (i := 22) rfl ?_
        refine K_any (fun v39 r39 => ?_)
        refine K_cSI (pc := 40) (i := 23) rfl (c_Integer_bitCount G (x0 := v39)) (ls_Plans_127 rfl) rfl rfl rfl rfl (fun v40 h40 q40 => ?_)
        obtain ⟨eh, r40⟩ := q40
        rw [eh]; clear eh
        refine K_ist (pc := 43) (i := 24) (lo' := [(0, _), (1, _), (2, _), (3, _), (4, _), (5, _), (6, _), (7, _)]) rfl rfl rfl rfl ?_
        refine K_iload_n (pc := 45) (i := 25) rfl rfl ?_
        refine K_aload_n (pc := 46) (i := 26) rfl rfl ?_
        refine K_getR (pc := 47) (i := 27) (j := 7) (d := 168) rfl S_160 rfl (by decide) rfl fw_Plans_33 ?_
        refine K_iload (pc := 50) (i := 28) rfl rfl ?_
        refine K_iald (pc := 52) (i := 29) rfl S_168 (by omega) (by omega) (by decide) ?_
        refine K_any (fun v52 r52 => ?_)
        refine K_iand (pc := 53) (i := 30) rfl ?_
        refine K_any (fun v53 r53 => ?_)
        refine K_cSI (pc := 54) (i := 31) rfl (c_Integer_bitCount G (x0 := v53)) (ls_Plans_127 rfl) rfl rfl rfl rfl (fun v54 h54 q54 => ?_)
        obtain ⟨eh, r54⟩ := q54
        rw [eh]; clear eh
        refine K_ist (pc := 57) (i := 32) (lo' := [(0, _), (1, _), (2, _), (3, _), (4, _), (5, _), (6, _), (7, _), (8, _)]) rfl rfl rfl rfl ?_
        refine K_iload (pc := 59) (i := 33) rfl rfl ?_
        refine K_iload (pc := 61) (i := 34) rfl rfl ?_
        refine K_iload (pc := 63) (i := 35) rfl rfl ?_
        refine K_isub (pc := 65) (i := 36) rfl ?_
        refine K_any (fun v65 r65 => ?_)
        refine K_mmin (pc := 66) (i := 37) rfl mw_Plans_83 (by omega) (by omega) (Nat.le_of_ble_eq_true rfl) ⟨Nat.le_of_ble_eq_true rfl, Nat.le_of_ble_eq_true rfl⟩ ⟨Nat.le_of_ble_eq_true rfl, Nat.le_of_ble_eq_true rfl⟩ ?_
        refine K_nm (fun v66 e66 => ?_)
        refine K_ist (pc := 69) (i := 38) (lo' := [(0, _), (1, _), (2, _), (3, _), (4, _), (5, _), (6, _), (7, _), (8, _)]) rfl rfl rfl rfl ?_
        refine K_inc (pc := 71) (i := 39) (q := 6) (lo' := [(0, _), (1, _), (2, _), (3, _), (4, _), (5, _), (6, _), (7, _), (8, _)]) rfl rfl rfl rfl rfl ?_
        refine K_goto 21 (pc := 74) (i := 40) rfl rfl ?_
        refine K_drop (lo' := [(0, .ref (G.2.2.2 160)), (1, .ref (G.2.2.2 f)), (2, kI x2), (3, kI v3), (4, kI v9), (5, kI v66), (6, kI (x6 + 1))]) [0, 1, 2, 3, 4, 5, 6] rfl ?_
        exact ih21 v66 (x6 + 1) (by omega) (by omega)
  exact L21 _ 100 0 (Nat.lt_succ_self _) (by omega)
set_option maxHeartbeats 4000000 in
set_option maxRecDepth 100000 in
theorem c_Plans_best (G : kG) {g : kGh} {h : kH} {x2 : Int} {x3 : Int} (s2 : 0 ≤ x2 ∧ x2 ≤ 1) (hI : Gd g h) : Ctr G y_Plans_best X_Plans_best 5 [.ref (G.2.2.2 160), .ref (G.2.2.2 3), kI x2, kI x3] h (kQi (fun z h' => Fx (fun c i => 160 ≤ c ∧ c ≤ 168) h h' ∧ (Gd g h' ∧ kR z))) := by
  refine Ctr.ofK (by decide) rfl T_Plans_best (Nat.le_of_ble_eq_true rfl) (lo := [(0, .ref (G.2.2.2 160)), (1, .ref (G.2.2.2 3)), (2, kI x2), (3, kI x3)]) rfl ?_
  have fx : Fx (fun c i => 160 ≤ c ∧ c ≤ 168) h h := Fx.rf
  refine K_aload_n (pc := 0) (i := 0) rfl rfl ?_
  refine K_aload_n (pc := 1) (i := 1) rfl rfl ?_
  refine K_cVV (pc := 2) (i := 2) rfl (c_Plans_prepare G (hI := hI)) S_160 rfl (lv_Plans_40 rfl) rfl rfl rfl rfl rfl (fun h2 q2 => ?_)
  obtain ⟨fx2, q2⟩ := q2
  have hI := q2
  have fx := fx.tr fx2 (fun c i q => (by first | (dsimp only at q ⊢; omega) | omega))
  refine K_aload_n (pc := 5) (i := 3) rfl rfl ?_
  refine K_aload_n (pc := 6) (i := 4) rfl rfl ?_
  refine K_getR (pc := 7) (i := 5) (j := 0) (d := 6) rfl (S_Sk sk3) rfl (by decide) rfl fw_Plans_44 ?_
  refine K_iconst (pc := 10) (i := 6) rfl ?_
  refine K_iload_n (pc := 11) (i := 7) rfl rfl ?_
  refine K_isub (pc := 12) (i := 8) rfl ?_
  refine K_iload_n (pc := 13) (i := 9) rfl rfl ?_
  refine K_cVV (pc := 14) (i := 10) rfl (c_Plans_prepareAnswers G (f := 6) (hf := fl6) (x2 := 1 - x2) (x3 := x3) (hI := hI) (s2 := by omega)) S_160 rfl (lv_Plans_50 rfl) rfl rfl rfl rfl rfl (fun h14 q14 => ?_)
  obtain ⟨fx14, q14⟩ := q14
  have hI := q14
  have fx := fx.tr fx14 (fun c i q => (by first | (dsimp only at q ⊢; omega) | omega))
  refine K_aload_n (pc := 17) (i := 11) rfl rfl ?_
  refine K_getR (pc := 18) (i := 12) (j := 0) (d := 6) rfl (S_Sk sk3) rfl (by decide) rfl fw_Plans_44 ?_
  refine K_iload_n (pc := 21) (i := 13) rfl rfl ?_
  refine K_cVI (pc := 22) (i := 14) rfl (c_Fleet_ofTown G (f := 6) (hf := fl6) (x1 := x2) (hI := hI) (s1 := by omega)) (S_Fl fl6) rfl (lv_Plans_54 rfl) rfl rfl rfl rfl rfl (fun v22 h22 q22 => ?_)
  obtain ⟨eh, r22⟩ := q22
  rw [eh]; clear eh
  refine K_ist (pc := 25) (i := 15) (lo' := [(0, _), (1, _), (2, _), (3, _), (4, _)]) rfl rfl rfl rfl ?_
  refine K_iload (pc := 27) (i := 16) rfl rfl ?_
  refine K_cSI (pc := 29) (i := 17) rfl (c_Plans_planCount G (x0 := v22) (s0 := by omega)) (ls_Plans_60 rfl) rfl rfl rfl rfl (fun v29 h29 q29 => ?_)
  obtain ⟨eh, r29⟩ := q29
  rw [eh]; clear eh
  refine K_ist (pc := 32) (i := 18) (lo' := [(0, _), (1, _), (2, _), (3, _), (4, _), (5, _)]) rfl rfl rfl rfl ?_
  refine K_bipush (pc := 34) (i := 19) rfl rfl ?_
  refine K_ist (pc := 36) (i := 20) (lo' := [(0, _), (1, _), (2, _), (3, _), (4, _), (5, _), (6, _)]) rfl rfl rfl rfl ?_
  refine K_iconst (pc := 38) (i := 21) rfl ?_
  refine K_ist (pc := 39) (i := 22) (lo' := [(0, _), (1, _), (2, _), (3, _), (4, _), (5, _), (6, _), (7, _)]) rfl rfl rfl rfl ?_
  have L41 : ∀ (n : Nat) (x6 : Int) (x7 : Int) (ha : kH), (243 - x7).toNat < n → (Gd g ha) → (Fx (fun c i => 160 ≤ c ∧ c ≤ 168) h ha) → ((0 ≤ x7 ∧ x7 ≤ 243) ∧ kR x6) → K X_Plans_best G (kZm G 5 (kQi (fun z h' => Fx (fun c i => 160 ≤ c ∧ c ≤ 168) h h' ∧ (Gd g h' ∧ kR z)))) 41 [(0, .ref (G.2.2.2 160)), (1, .ref (G.2.2.2 3)), (2, kI x2), (3, kI x3), (4, kI v22), (5, kI v29), (6, kI x6), (7, kI x7)] [] ha := by
    intro n
    induction n with
    | zero => intro x6 x7 ha hm; exact absurd hm (Nat.not_lt_zero _)
    | succ n ih41 =>
      intro x6 x7 ha hm41 hI fx hV41
      refine K_iload (pc := 41) (i := 23) rfl rfl ?_
      refine K_iload (pc := 43) (i := 24) rfl rfl ?_
      first | refine K_icmp_ge 99 (pc := 45) (i := 25) rfl rfl (by omega) (by omega) (fun b45 => ?_) (fun b45 => ?_) | refine K_icmp_ge_an 99 (pc := 45) (i := 25) rfl rfl (fun b45 => ?_) (fun b45 => ?_)
      · skip
        refine K_iload (pc := 99) (i := 51) rfl rfl ?_
        exact K_retI (pc := 101) (i := 52) rfl rfl ⟨fx, ⟨hI, by omega⟩⟩
      · skip
        refine K_aload_n (pc := 48) (i := 26) rfl rfl ?_
        refine K_iload (pc := 49) (i := 27) rfl rfl ?_
        refine K_iload (pc := 51) (i := 28) rfl rfl ?_
        refine K_cVV (pc := 53) (i := 29) rfl (c_Plans_takePlan G (x1 := x7) (x2 := v22) (hI := hI) (s1 := by omega) (s2 := by omega)) S_160 rfl (lv_Plans_63 rfl) rfl rfl rfl rfl rfl (fun h53 q53 => ?_)
        obtain ⟨fx53, q53⟩ := q53
        have hI := q53
        have fx := fx.tr fx53 (fun c i q => (by first | (dsimp only at q ⊢; omega) | omega))
        refine K_aload_n (pc := 56) (i := 30) rfl rfl ?_
        refine K_aload_n (pc := 57) (i := 31) rfl rfl ?_
        refine K_getR (pc := 58) (i := 32) (j := 0) (d := 6) rfl (S_Sk sk3) rfl (by decide) rfl fw_Plans_44 ?_
        refine K_iload_n (pc := 61) (i := 33) rfl rfl ?_
        refine K_cVI (pc := 62) (i := 34) rfl (c_Plans_worstLead G (f := 6) (hf := fl6) (x2 := x2) (hI := hI) (s2 := by omega)) S_160 rfl (lv_Plans_67 rfl) rfl rfl rfl rfl rfl (fun v62 h62 q62 => ?_)
        obtain ⟨eh, r62⟩ := q62
        rw [eh]; clear eh
        refine K_ist (pc := 65) (i := 35) (lo' := [(0, _), (1, _), (2, _), (3, _), (4, _), (5, _), (6, _), (7, _), (8, _)]) rfl rfl rfl rfl ?_
        refine K_iload (pc := 67) (i := 36) rfl rfl ?_
        refine K_iload (pc := 69) (i := 37) rfl rfl ?_
        first | refine K_icmp_le 93 (pc := 71) (i := 38) rfl rfl (by omega) (by omega) (fun b71 => ?_) (fun b71 => ?_) | refine K_icmp_le_an 93 (pc := 71) (i := 38) rfl rfl (fun b71 => ?_) (fun b71 => ?_)
        · skip
          refine K_inc (pc := 93) (i := 49) (q := 7) (lo' := [(0, _), (1, _), (2, _), (3, _), (4, _), (5, _), (6, _), (7, _), (8, _)]) rfl rfl rfl rfl rfl ?_
          refine K_goto 41 (pc := 96) (i := 50) rfl rfl ?_
          refine K_drop (lo' := [(0, .ref (G.2.2.2 160)), (1, .ref (G.2.2.2 3)), (2, kI x2), (3, kI x3), (4, kI v22), (5, kI v29), (6, kI x6), (7, kI (x7 + 1))]) [0, 1, 2, 3, 4, 5, 6, 7] rfl ?_
          exact ih41 x6 (x7 + 1) _ (by omega) hI fx (by omega)
        · skip
          refine K_iload (pc := 74) (i := 39) rfl rfl ?_
          refine K_ist (pc := 76) (i := 40) (lo' := [(0, _), (1, _), (2, _), (3, _), (4, _), (5, _), (6, _), (7, _), (8, _)]) rfl rfl rfl rfl ?_
          refine K_aload_n (pc := 78) (i := 41) rfl rfl ?_
          refine K_getR (pc := 79) (i := 42) (j := 4) (d := 165) rfl S_160 rfl (by decide) rfl fw_Plans_24 ?_
          refine K_iconst (pc := 82) (i := 43) rfl ?_
          refine K_aload_n (pc := 83) (i := 44) rfl rfl ?_
          refine K_getR (pc := 84) (i := 45) (j := 5) (d := 166) rfl S_160 rfl (by decide) rfl fw_Plans_27 ?_
          refine K_iconst (pc := 87) (i := 46) rfl ?_
          refine K_bipush (pc := 88) (i := 47) rfl rfl ?_
          refine K_copy (pc := 90) (i := 48) rfl S_165 S_166 (by omega) (by omega) (by omega) (by omega) (by omega) (by decide) (by decide) mw_Plans_71 (Nat.le_of_ble_eq_true rfl) ⟨Nat.le_of_ble_eq_true rfl, Nat.le_of_ble_eq_true rfl⟩ ?_
          have hI := cp_free (sp := (0 : Int).toNat) (dp := (0 : Int).toNat) (n := (8 : Int).toNat) (c := 165) (c' := 166) hI (by decide +kernel) (by decide)
          have fx := Fx.cp (c0 := 165) (c1 := 166) (sp := (0 : Int).toNat) (dp := (0 : Int).toNat) (n := (8 : Int).toNat) fx (fun i => (by first | (dsimp only; omega) | omega | exact not_false))
          refine K_inc (pc := 93) (i := 49) (q := 7) (lo' := [(0, _), (1, _), (2, _), (3, _), (4, _), (5, _), (6, _), (7, _), (8, _)]) rfl rfl rfl rfl rfl ?_
          refine K_goto 41 (pc := 96) (i := 50) rfl rfl ?_
          refine K_drop (lo' := [(0, .ref (G.2.2.2 160)), (1, .ref (G.2.2.2 3)), (2, kI x2), (3, kI x3), (4, kI v22), (5, kI v29), (6, kI v62), (7, kI (x7 + 1))]) [0, 1, 2, 3, 4, 5, 6, 7] rfl ?_
          exact ih41 v62 (x7 + 1) _ (by omega) hI fx (by omega)
  exact L41 _ (-100) 0 _ (Nat.lt_succ_self _) hI fx (by omega)
set_option maxHeartbeats 4000000 in
set_option maxRecDepth 100000 in
theorem c_Plans_bestChange (G : kG) {g : kGh} {h : kH} {x1 : Int} (s1 : kR x1) (hI : Gd g h) : Ctr G y_Plans_bestChange X_Plans_bestChange 1 [.ref (G.2.2.2 160), kI x1] h (kQi (fun z h' => h' = h ∧ kR z)) := by
  refine Ctr.ofK (by decide) rfl T_Plans_bestChange (Nat.le_of_ble_eq_true rfl) (lo := [(0, .ref (G.2.2.2 160)), (1, kI x1)]) rfl ?_
  refine K_iload_n (pc := 0) (i := 0) rfl rfl ?_
  first | refine K_if_lt 19 (pc := 1) (i := 1) rfl rfl (by omega) (fun b1 => ?_) (fun b1 => ?_) | refine K_if_lt_an 19 (pc := 1) (i := 1) rfl rfl (fun b1 => ?_) (fun b1 => ?_)
  · skip
    refine K_bipush (pc := 19) (i := 10) rfl rfl ?_
    exact K_retI (pc := 21) (i := 11) rfl rfl ⟨rfl, by omega⟩
  · skip
    refine K_iload_n (pc := 4) (i := 2) rfl rfl ?_
    refine K_bipush (pc := 5) (i := 3) rfl rfl ?_
    first | refine K_icmp_ge 19 (pc := 7) (i := 4) rfl rfl (by omega) (by omega) (fun b7 => ?_) (fun b7 => ?_) | refine K_icmp_ge_an 19 (pc := 7) (i := 4) rfl rfl (fun b7 => ?_) (fun b7 => ?_)
    · skip
      refine K_bipush (pc := 19) (i := 10) rfl rfl ?_
      exact K_retI (pc := 21) (i := 11) rfl rfl ⟨rfl, by omega⟩
    · skip
      refine K_aload_n (pc := 10) (i := 5) rfl rfl ?_
      refine K_getR (pc := 11) (i := 6) (j := 5) (d := 166) rfl S_160 rfl (by decide) rfl fw_Plans_27 ?_
      refine K_iload_n (pc := 14) (i := 7) rfl rfl ?_
      refine K_iald (pc := 15) (i := 8) rfl S_166 (by omega) (by omega) (by decide) ?_
      refine K_any (fun v15 r15 => ?_)
      refine K_goto 21 (pc := 16) (i := 9) rfl rfl ?_
      exact K_retI (pc := 21) (i := 11) rfl rfl ⟨rfl, by omega⟩
end
section
theorem kU4 {h : kH} {n : Nat} {a b c w : Int} : (∀ j, kU (kU (kU (kU h 170 n a) 171 n b) 172 n c) 169 6 w 170 j = if j = n then a else h 170 j) ∧ (∀ j, kU (kU (kU (kU h 170 n a) 171 n b) 172 n c) 169 6 w 171 j = if j = n then b else h 171 j) ∧ (∀ j, kU (kU (kU (kU h 170 n a) 171 n b) 172 n c) 169 6 w 172 j = if j = n then c else h 172 j) ∧ kU (kU (kU (kU h 170 n a) 171 n b) 172 n c) 169 6 w 169 6 = w := by
  refine ⟨fun j => ?_, fun j => ?_, fun j => ?_, ?_⟩ <;> simp [kU]
set_option maxHeartbeats 4000000 in
set_option maxRecDepth 100000 in
theorem c_Seen_add (G : kG) {g : kGh} {h : kH} {x1 : Int} {x2 : Int} {x3 : Int} (s1 : 0 ≤ x1 ∧ x1 ≤ 7) (s2 : 0 ≤ x2 ∧ x2 ≤ 7) (s3 : x3 = 0 ∨ x3 = 1) (hI : Gd g h) : Ctr G y_Seen_add X_Seen_add 2 [.ref (G.2.2.2 169), kI x1, kI x2, kI x3] h (kQi (fun z h' => Fx (fun c i => 169 ≤ c ∧ c ≤ 172) h h' ∧ (Gd g h' ∧ ((z = 0 ∧ 8 ≤ h 169 6 ∧ h' = h) ∨ (z = 1 ∧ h 169 6 < 8 ∧ h' 169 6 = h 169 6 + 1 ∧ (∀ j, h' 170 j = if j = (h 169 6).toNat then min x1 x2 else h 170 j) ∧ (∀ j, h' 171 j = if j = (h 169 6).toNat then max x1 x2 else h 171 j) ∧ ∀ j, h' 172 j = if j = (h 169 6).toNat then x3 else h 172 j))))) := by
  refine Ctr.ofK (by decide) rfl T_Seen_add (Nat.le_of_ble_eq_true rfl) (lo := [(0, .ref (G.2.2.2 169)), (1, kI x1), (2, kI x2), (3, kI x3)]) rfl ?_
  have fx : Fx (fun c i => 169 ≤ c ∧ c ≤ 172) h h := Fx.rf
  refine K_aload_n (pc := 0) (i := 0) rfl rfl ?_
  refine K_getI (pc := 1) (i := 1) (j := 6) rfl S_169 rfl (by decide) rfl fw_Seen_35 ?_
  refine K_nm (fun v1 e1 => ?_)
  have r1 := rd_seensize hI
  rw [← e1] at r1
  refine K_bipush (pc := 4) (i := 2) rfl rfl ?_
  first | refine K_icmp_lt 11 (pc := 6) (i := 3) rfl rfl (by omega) (by omega) (fun b6 => ?_) (fun b6 => ?_) | refine K_icmp_lt_an 11 (pc := 6) (i := 3) rfl rfl (fun b6 => ?_) (fun b6 => ?_)
  · skip
    refine K_aload_n (pc := 11) (i := 6) rfl rfl ?_
    refine K_getR (pc := 12) (i := 7) (j := 0) (d := 170) rfl S_169 rfl (by decide) rfl fw_Seen_9 ?_
    refine K_aload_n (pc := 15) (i := 8) rfl rfl ?_
    refine K_getI (pc := 16) (i := 9) (j := 6) rfl S_169 rfl (by decide) rfl fw_Seen_35 ?_
    refine K_nm (fun v16 e16 => ?_)
    have r16 := rd_seensize hI
    rw [← e16] at r16
    have t16 : v16 = v1 := by rw [e16, e1]; try simp [kU]
    refine K_iload_n (pc := 19) (i := 10) rfl rfl ?_
    refine K_iload_n (pc := 20) (i := 11) rfl rfl ?_
    refine K_mmin (pc := 21) (i := 12) rfl mw_Seen_39 (by omega) (by omega) (Nat.le_of_ble_eq_true rfl) ⟨Nat.le_of_ble_eq_true rfl, Nat.le_of_ble_eq_true rfl⟩ ⟨Nat.le_of_ble_eq_true rfl, Nat.le_of_ble_eq_true rfl⟩ ?_
    refine K_nm (fun v21 e21 => ?_)
    refine K_iast (pc := 24) (i := 13) rfl S_170 (by omega) (by omega) (by decide) ?_
    have hI := st_seenkite hI (i := (v16).toNat) (v := v21) (by omega)
    have fx := Fx.st (c := 170) (i := (v16).toNat) (v := v21) fx (by first | (dsimp only; omega) | omega | exact not_false)
    refine K_aload_n (pc := 25) (i := 14) rfl rfl ?_
    refine K_getR (pc := 26) (i := 15) (j := 1) (d := 171) rfl S_169 rfl (by decide) rfl fw_Seen_15 ?_
    refine K_aload_n (pc := 29) (i := 16) rfl rfl ?_
    refine K_getI (pc := 30) (i := 17) (j := 6) rfl S_169 rfl (by decide) rfl fw_Seen_35 ?_
    refine K_nm (fun v30 e30 => ?_)
    have r30 := rd_seensize hI
    rw [← e30] at r30
    have t30 : v30 = v1 := by rw [e30, e1]; try simp [kU]
    refine K_iload_n (pc := 33) (i := 18) rfl rfl ?_
    refine K_iload_n (pc := 34) (i := 19) rfl rfl ?_
    refine K_mmax (pc := 35) (i := 20) rfl mw_Seen_45 (by omega) (by omega) (Nat.le_of_ble_eq_true rfl) ⟨Nat.le_of_ble_eq_true rfl, Nat.le_of_ble_eq_true rfl⟩ ⟨Nat.le_of_ble_eq_true rfl, Nat.le_of_ble_eq_true rfl⟩ ?_
    refine K_nm (fun v35 e35 => ?_)
    refine K_iast (pc := 38) (i := 21) rfl S_171 (by omega) (by omega) (by decide) ?_
    have hI := st_seenother hI (i := (v30).toNat) (v := v35) (by omega)
    have fx := Fx.st (c := 171) (i := (v30).toNat) (v := v35) fx (by first | (dsimp only; omega) | omega | exact not_false)
    refine K_aload_n (pc := 39) (i := 22) rfl rfl ?_
    refine K_getR (pc := 40) (i := 23) (j := 2) (d := 172) rfl S_169 rfl (by decide) rfl fw_Seen_18 ?_
    refine K_aload_n (pc := 43) (i := 24) rfl rfl ?_
    refine K_getI (pc := 44) (i := 25) (j := 6) rfl S_169 rfl (by decide) rfl fw_Seen_35 ?_
    refine K_nm (fun v44 e44 => ?_)
    have r44 := rd_seensize hI
    rw [← e44] at r44
    have t44 : v44 = v1 := by rw [e44, e1]; try simp [kU]
    refine K_iload_n (pc := 47) (i := 26) rfl rfl ?_
    refine K_bast (pc := 48) (i := 27) rfl S_172 (by omega) (by omega) (by decide) (by omega) ?_
    have hI := st_crossing hI (i := (v44).toNat) (v := x3) (by omega)
    have fx := Fx.st (c := 172) (i := (v44).toNat) (v := x3) fx (by first | (dsimp only; omega) | omega | exact not_false)
    refine K_aload_n (pc := 49) (i := 28) rfl rfl ?_
    refine K_dup (pc := 50) (i := 29) rfl rfl ?_
    refine K_getI (pc := 51) (i := 30) (j := 6) rfl S_169 rfl (by decide) rfl fw_Seen_35 ?_
    refine K_nm (fun v51 e51 => ?_)
    have r51 := rd_seensize hI
    rw [← e51] at r51
    have t51 : v51 = v1 := by rw [e51, e1]; try simp [kU]
    refine K_iconst (pc := 54) (i := 31) rfl ?_
    refine K_iadd (pc := 55) (i := 32) rfl ?_
    refine K_putI (pc := 56) (i := 33) (j := 6) rfl S_169 rfl (by decide) rfl rfl rfl fw_Seen_35 ?_
    have hI := st_seensize hI (v := v51 + 1) (by omega)
    have fx := Fx.st (c := 169) (i := 6) (v := v51 + 1) fx (by first | (dsimp only; omega) | omega | exact not_false)
    refine K_iconst (pc := 59) (i := 34) rfl ?_
    exact K_retZ (pc := 60) (i := 35) rfl rfl (by omega) ⟨fx, ⟨hI, Or.inr ⟨rfl, by omega, by rw [t16, t30, t44, t51, ← e1]; exact kU4.2.2.2, by rw [t16, t30, t44, t51, ← e1, ← e21]; exact kU4.1, by rw [t16, t30, t44, t51, ← e1, ← e35]; exact kU4.2.1, by rw [t16, t30, t44, t51, ← e1]; exact kU4.2.2.1⟩⟩⟩
  · skip
    refine K_iconst (pc := 9) (i := 4) rfl ?_
    exact K_retZ (pc := 10) (i := 5) rfl rfl (by omega) ⟨fx, ⟨hI, Or.inl ⟨rfl, by omega, rfl⟩⟩⟩
set_option maxHeartbeats 4000000 in
set_option maxRecDepth 100000 in
theorem c_Seen_agrees (G : kG) {g : kGh} {h : kH} {x1 : Int} (s1 : 0 ≤ x1 ∧ x1 ≤ 7) (hI : Gd g h) : Ctr G y_Seen_agrees X_Seen_agrees 4 [.ref (G.2.2.2 169), kI x1] h (kQi (fun z h' => h' = h ∧ (z = 0 ∨ z = 1))) := by
  refine Ctr.ofK (by decide) rfl T_Seen_agrees (Nat.le_of_ble_eq_true rfl) (lo := [(0, .ref (G.2.2.2 169)), (1, kI x1)]) rfl ?_
  refine K_iconst (pc := 0) (i := 0) rfl ?_
  refine K_ist_n (pc := 1) (i := 1) (lo' := [(0, _), (1, _), (2, _)]) rfl rfl rfl rfl ?_
  have L2 : ∀ (n : Nat) (x2 : Int), (8 - x2).toNat < n → (0 ≤ x2 ∧ x2 ≤ 8) → K X_Seen_agrees G (kZm G 4 (kQi (fun z h' => h' = h ∧ (z = 0 ∨ z = 1)))) 2 [(0, .ref (G.2.2.2 169)), (1, kI x1), (2, kI x2)] [] h := by
    intro n
    induction n with
    | zero => intro x2 hm; exact absurd hm (Nat.not_lt_zero _)
    | succ n ih2 =>
      intro x2 hm2 hV2
      refine K_iload_n (pc := 2) (i := 2) rfl rfl ?_
      refine K_aload_n (pc := 3) (i := 3) rfl rfl ?_
      refine K_getI (pc := 4) (i := 4) (j := 6) rfl S_169 rfl (by decide) rfl fw_Seen_35 ?_
      refine K_nm (fun v4 e4 => ?_)
      have r4 := rd_seensize hI
      rw [← e4] at r4
      first | refine K_icmp_ge 51 (pc := 7) (i := 5) rfl rfl (by omega) (by omega) (fun b7 => ?_) (fun b7 => ?_) | refine K_icmp_ge_an 51 (pc := 7) (i := 5) rfl rfl (fun b7 => ?_) (fun b7 => ?_)
      · skip
        refine K_iconst (pc := 51) (i := 29) rfl ?_
        exact K_retZ (pc := 52) (i := 30) rfl rfl (by omega) ⟨rfl, by omega⟩
      · skip
        refine K_aload_n (pc := 10) (i := 6) rfl rfl ?_
        refine K_getR (pc := 11) (i := 7) (j := 1) (d := 171) rfl S_169 rfl (by decide) rfl fw_Seen_15 ?_
        refine K_iload_n (pc := 14) (i := 8) rfl rfl ?_
        refine K_iald (pc := 15) (i := 9) rfl S_171 (by omega) (by omega) (by decide) ?_
        refine K_nm (fun v15 e15 => ?_)
        have r15 := rd_seenother hI (x2).toNat
        rw [← e15] at r15
        refine K_iload_n (pc := 16) (i := 10) rfl rfl ?_
        first | refine K_icmp_ne 45 (pc := 17) (i := 11) rfl rfl (by omega) (by omega) (fun b17 => ?_) (fun b17 => ?_) | refine K_icmp_ne_an 45 (pc := 17) (i := 11) rfl rfl (fun b17 => ?_) (fun b17 => ?_)
        · skip
          refine K_inc (pc := 45) (i := 27) (q := 2) (lo' := [(0, _), (1, _), (2, _)]) rfl rfl rfl rfl rfl ?_
          refine K_goto 2 (pc := 48) (i := 28) rfl rfl ?_
          exact ih2 (x2 + 1) (by omega) (by omega)
        · skip
          refine K_aload_n (pc := 20) (i := 12) rfl rfl ?_
          refine K_getR (pc := 21) (i := 13) (j := 3) (d := 173) rfl S_169 rfl (by decide) rfl fw_Seen_25 ?_
          refine K_aload_n (pc := 24) (i := 14) rfl rfl ?_
          refine K_getR (pc := 25) (i := 15) (j := 0) (d := 170) rfl S_169 rfl (by decide) rfl fw_Seen_9 ?_
          refine K_iload_n (pc := 28) (i := 16) rfl rfl ?_
          refine K_iald (pc := 29) (i := 17) rfl S_170 (by omega) (by omega) (by decide) ?_
          refine K_nm (fun v29 e29 => ?_)
          have r29 := rd_seenkite hI (x2).toNat
          rw [← e29] at r29
          refine K_iload_n (pc := 30) (i := 18) rfl rfl ?_
          refine K_cVI (pc := 31) (i := 19) rfl (c_Fleet_meet G (f := 173) (hf := fl173) (x1 := v29) (x2 := x1) (hI := hI) (s1 := by omega) (s2 := by omega)) (S_Fl fl173) rfl (lv_Seen_66 rfl) rfl rfl rfl rfl rfl (fun v31 h31 q31 => ?_)
          obtain ⟨eh, r31⟩ := q31
          rw [eh]; clear eh
          refine K_aload_n (pc := 34) (i := 20) rfl rfl ?_
          refine K_getR (pc := 35) (i := 21) (j := 2) (d := 172) rfl S_169 rfl (by decide) rfl fw_Seen_18 ?_
          refine K_iload_n (pc := 38) (i := 22) rfl rfl ?_
          refine K_bald (pc := 39) (i := 23) rfl S_172 (by omega) (by omega) (by decide) ?_
          refine K_nm (fun v39 e39 => ?_)
          have r39 := rd_crossing hI (x2).toNat
          rw [← e39] at r39
          first | refine K_icmp_eq 45 (pc := 40) (i := 24) rfl rfl (by omega) (by omega) (fun b40 => ?_) (fun b40 => ?_) | refine K_icmp_eq_an 45 (pc := 40) (i := 24) rfl rfl (fun b40 => ?_) (fun b40 => ?_)
          · skip
            refine K_inc (pc := 45) (i := 27) (q := 2) (lo' := [(0, _), (1, _), (2, _)]) rfl rfl rfl rfl rfl ?_
            refine K_goto 2 (pc := 48) (i := 28) rfl rfl ?_
            exact ih2 (x2 + 1) (by omega) (by omega)
          · skip
            refine K_iconst (pc := 43) (i := 25) rfl ?_
            exact K_retZ (pc := 44) (i := 26) rfl rfl (by omega) ⟨rfl, by omega⟩
  exact L2 _ 0 (Nat.lt_succ_self _) (by omega)
set_option maxHeartbeats 4000000 in
set_option maxRecDepth 100000 in
theorem c_Seen_rowsFrom4 (G : kG) {g : kGh} {h : kH} {x1 : Int} {x2 : Int} (s1 : 4 ≤ x1 ∧ x1 ≤ 4) (s2 : kR x2) (hI : Gd g h) : Ctr G y_Seen_rowsFrom X_Seen_rowsFrom 6 [.ref (G.2.2.2 169), kI x1, kI x2] h (kQi (fun z h' => Fx (fun c i => 173 ≤ c ∧ c ≤ 181) h h' ∧ (Gd g h' ∧ kR z))) := by
  refine Ctr.ofK (by decide) rfl T_Seen_rowsFrom (Nat.le_of_ble_eq_true rfl) (lo := [(0, .ref (G.2.2.2 169)), (1, kI x1), (2, kI x2)]) rfl ?_
  have fx : Fx (fun c i => 173 ≤ c ∧ c ≤ 181) h h := Fx.rf
  refine K_iload_n (pc := 0) (i := 0) rfl rfl ?_
  refine K_iload_n (pc := 1) (i := 1) rfl rfl ?_
  first | refine K_icmp_ge 10 (pc := 2) (i := 2) rfl rfl (by omega) (by omega) (fun b2 => ?_) (fun b2 => ?_) | refine K_icmp_ge_an 10 (pc := 2) (i := 2) rfl rfl (fun b2 => ?_) (fun b2 => ?_)
  · skip
    refine K_iconst (pc := 10) (i := 6) rfl ?_
    refine K_any (fun v11 r11 => ?_)
    exact K_retI (pc := 11) (i := 7) rfl rfl ⟨fx, ⟨hI, by omega⟩⟩
  · skip
    refine K_iload_n (pc := 5) (i := 3) rfl rfl ?_
    refine K_iconst (pc := 6) (i := 4) rfl ?_
    first | refine K_icmp_lt 12 (pc := 7) (i := 5) rfl rfl (by omega) (by omega) (fun b7 => ?_) (fun b7 => ?_) | refine K_icmp_lt_an 12 (pc := 7) (i := 5) rfl rfl (fun b7 => ?_) (fun b7 => ?_)
    · skip
      exact absurd b7 (by omega)
    · skip
      refine K_iconst (pc := 10) (i := 6) rfl ?_
      refine K_any (fun v11 r11 => ?_)
      exact K_retI (pc := 11) (i := 7) rfl rfl ⟨fx, ⟨hI, by omega⟩⟩
set_option maxHeartbeats 4000000 in
set_option maxRecDepth 100000 in
theorem c_Seen_rowsFrom3 (G : kG) {g : kGh} {h : kH} {x1 : Int} {x2 : Int} (s1 : 3 ≤ x1 ∧ x1 ≤ 4) (s2 : kR x2) (hI : Gd g h) : Ctr G y_Seen_rowsFrom X_Seen_rowsFrom 7 [.ref (G.2.2.2 169), kI x1, kI x2] h (kQi (fun z h' => Fx (fun c i => 173 ≤ c ∧ c ≤ 181) h h' ∧ (Gd g h' ∧ kR z))) := by
  refine Ctr.ofK (by decide) rfl T_Seen_rowsFrom (Nat.le_of_ble_eq_true rfl) (lo := [(0, .ref (G.2.2.2 169)), (1, kI x1), (2, kI x2)]) rfl ?_
  have fx : Fx (fun c i => 173 ≤ c ∧ c ≤ 181) h h := Fx.rf
  refine K_iload_n (pc := 0) (i := 0) rfl rfl ?_
  refine K_iload_n (pc := 1) (i := 1) rfl rfl ?_
  first | refine K_icmp_ge 10 (pc := 2) (i := 2) rfl rfl (by omega) (by omega) (fun b2 => ?_) (fun b2 => ?_) | refine K_icmp_ge_an 10 (pc := 2) (i := 2) rfl rfl (fun b2 => ?_) (fun b2 => ?_)
  · skip
    refine K_iconst (pc := 10) (i := 6) rfl ?_
    refine K_any (fun v11 r11 => ?_)
    exact K_retI (pc := 11) (i := 7) rfl rfl ⟨fx, ⟨hI, by omega⟩⟩
  · skip
    refine K_iload_n (pc := 5) (i := 3) rfl rfl ?_
    refine K_iconst (pc := 6) (i := 4) rfl ?_
    first | refine K_icmp_lt 12 (pc := 7) (i := 5) rfl rfl (by omega) (by omega) (fun b7 => ?_) (fun b7 => ?_) | refine K_icmp_lt_an 12 (pc := 7) (i := 5) rfl rfl (fun b7 => ?_) (fun b7 => ?_)
    · skip
      refine K_iconst (pc := 12) (i := 8) rfl ?_
      refine K_ist_n (pc := 13) (i := 9) (lo' := [(0, _), (1, _), (2, _), (3, _)]) rfl rfl rfl rfl ?_
      refine K_iconst (pc := 14) (i := 10) rfl ?_
      refine K_ist (pc := 15) (i := 11) (lo' := [(0, _), (1, _), (2, _), (3, _), (4, _)]) rfl rfl rfl rfl ?_
      have L17 : ∀ (n : Nat) (x3 : Int) (x4 : Int) (ha : kH), (10 - x4).toNat < n → (Gd g ha) → (Fx (fun c i => 173 ≤ c ∧ c ≤ 181) h ha) → (1 ≤ x4 ∧ x4 ≤ 10) → K X_Seen_rowsFrom G (kZm G 7 (kQi (fun z h' => Fx (fun c i => 173 ≤ c ∧ c ≤ 181) h h' ∧ (Gd g h' ∧ kR z)))) 17 [(0, .ref (G.2.2.2 169)), (1, kI x1), (2, kI x2), (3, kI x3), (4, kI x4)] [] ha := by
        intro n
        induction n with
        | zero => intro x3 x4 ha hm; exact absurd hm (Nat.not_lt_zero _)
        | succ n ih17 =>
          intro x3 x4 ha hm17 hI fx hV17
          refine K_iload (pc := 17) (i := 12) rfl rfl ?_
          refine K_bipush (pc := 19) (i := 13) rfl rfl ?_
          first | refine K_icmp_gt 107 (pc := 21) (i := 14) rfl rfl (by omega) (by omega) (fun b21 => ?_) (fun b21 => ?_) | refine K_icmp_gt_an 107 (pc := 21) (i := 14) rfl rfl (fun b21 => ?_) (fun b21 => ?_)
          · skip
            refine K_iload_n (pc := 107) (i := 62) rfl rfl ?_
            refine K_any (fun v108 r108 => ?_)
            exact K_retI (pc := 108) (i := 63) rfl rfl ⟨fx, ⟨hI, by omega⟩⟩
          · skip
            refine K_aload_n (pc := 24) (i := 15) rfl rfl ?_
            refine K_getR (pc := 25) (i := 16) (j := 3) (d := 173) rfl S_169 rfl (by decide) rfl fw_Seen_25 ?_
            refine K_getR (pc := 28) (i := 17) (j := 3) (d := 177) rfl (S_Fl fl173) rfl (by decide) rfl fw_Seen_59 ?_
            refine K_iload_n (pc := 31) (i := 18) rfl rfl ?_
            refine K_iload (pc := 32) (i := 19) rfl rfl ?_
            refine K_iast (pc := 34) (i := 20) rfl (S_Fl4 fl173) (by omega) (by omega) (by decide) ?_
            have hI := st_height hI fl173 (i := (x1).toNat) (v := x4) (by omega)
            have fx := Fx.st (c := 177) (i := (x1).toNat) (v := x4) fx (by first | (dsimp only; omega) | omega | exact not_false)
            refine K_aload_n (pc := 35) (i := 21) rfl rfl ?_
            refine K_iload_n (pc := 36) (i := 22) rfl rfl ?_
            refine K_cVI (pc := 37) (i := 23) rfl (c_Seen_agrees G (x1 := x1) (hI := hI) (s1 := by omega)) S_169 rfl (lv_Seen_62 rfl) rfl rfl rfl rfl rfl (fun v37 h37 q37 => ?_)
            obtain ⟨eh, r37⟩ := q37
            rw [eh]; clear eh
            first | refine K_if_eq 54 (pc := 40) (i := 24) rfl rfl (by omega) (fun b40 => ?_) (fun b40 => ?_) | refine K_if_eq_an 54 (pc := 40) (i := 24) rfl rfl (fun b40 => ?_) (fun b40 => ?_)
            · skip
              refine K_iconst (pc := 54) (i := 32) rfl ?_
              refine K_ist (pc := 55) (i := 33) (lo' := [(0, _), (1, _), (2, _), (3, _), (4, _), (5, _)]) rfl rfl rfl rfl ?_
              refine K_iload (pc := 57) (i := 34) rfl rfl ?_
              refine K_if_le 101 (pc := 59) (i := 35) rfl rfl (by omega) (fun _ => ?_) (fun b59 => False.elim (by omega))
              refine K_inc (pc := 101) (i := 60) (q := 4) (lo' := [(0, _), (1, _), (2, _), (3, _), (4, _), (5, _)]) rfl rfl rfl rfl rfl ?_
              refine K_goto 17 (pc := 104) (i := 61) rfl rfl ?_
              refine K_drop (lo' := [(0, .ref (G.2.2.2 169)), (1, kI x1), (2, kI x2), (3, kI x3), (4, kI (x4 + 1))]) [0, 1, 2, 3, 4] rfl ?_
              exact ih17 x3 (x4 + 1) _ (by omega) hI fx (by omega)
            · skip
              refine K_aload_n (pc := 43) (i := 25) rfl rfl ?_
              refine K_iload_n (pc := 44) (i := 26) rfl rfl ?_
              refine K_iconst (pc := 45) (i := 27) rfl ?_
              refine K_iadd (pc := 46) (i := 28) rfl ?_
              refine K_iload_n (pc := 47) (i := 29) rfl rfl ?_
              refine K_cSI (pc := 48) (i := 30) rfl (c_Seen_rowsFrom4 G (x1 := x1 + 1) (x2 := x2) (hI := hI) (s1 := by omega) (s2 := by omega)) (ls_Seen_55 rfl) rfl rfl rfl rfl (fun v48 h48 q48 => ?_)
              obtain ⟨fx48, q48⟩ := q48
              obtain ⟨hI, r48⟩ := q48
              have fx := fx.tr fx48 (fun c i q => (by first | (dsimp only at q ⊢; omega) | omega))
              refine K_goto 55 (pc := 51) (i := 31) rfl rfl ?_
              refine K_ist (pc := 55) (i := 33) (lo' := [(0, _), (1, _), (2, _), (3, _), (4, _), (5, _)]) rfl rfl rfl rfl ?_
              refine K_iload (pc := 57) (i := 34) rfl rfl ?_
              first | refine K_if_le 101 (pc := 59) (i := 35) rfl rfl (by omega) (fun b59 => ?_) (fun b59 => ?_) | refine K_if_le_an 101 (pc := 59) (i := 35) rfl rfl (fun b59 => ?_) (fun b59 => ?_)
              · skip
                refine K_inc (pc := 101) (i := 60) (q := 4) (lo' := [(0, _), (1, _), (2, _), (3, _), (4, _), (5, _)]) rfl rfl rfl rfl rfl ?_
                refine K_goto 17 (pc := 104) (i := 61) rfl rfl ?_
                refine K_drop (lo' := [(0, .ref (G.2.2.2 169)), (1, kI x1), (2, kI x2), (3, kI x3), (4, kI (x4 + 1))]) [0, 1, 2, 3, 4] rfl ?_
                exact ih17 x3 (x4 + 1) _ (by omega) hI fx (by omega)
              · skip
                refine K_iload_n (pc := 62) (i := 36) rfl rfl ?_
                refine K_iload (pc := 63) (i := 37) rfl rfl ?_
                refine K_iadd (pc := 65) (i := 38) rfl ?_
                refine K_ist_n (pc := 66) (i := 39) (lo' := [(0, _), (1, _), (2, _), (3, _), (4, _), (5, _)]) rfl rfl rfl rfl ?_
                refine K_aload_n (pc := 67) (i := 40) rfl rfl ?_
                refine K_getR (pc := 68) (i := 41) (j := 4) (d := 180) rfl S_169 rfl (by decide) rfl fw_Seen_29 ?_
                refine K_iload_n (pc := 71) (i := 42) rfl rfl ?_
                refine K_aload_n (pc := 72) (i := 43) rfl rfl ?_
                refine K_getR (pc := 73) (i := 44) (j := 4) (d := 180) rfl S_169 rfl (by decide) rfl fw_Seen_29 ?_
                refine K_iload_n (pc := 76) (i := 45) rfl rfl ?_
                refine K_iald (pc := 77) (i := 46) rfl S_180 (by omega) (by omega) (by decide) ?_
                refine K_any (fun v77 r77 => ?_)
                refine K_iload (pc := 78) (i := 47) rfl rfl ?_
                refine K_mmin (pc := 80) (i := 48) rfl mw_Seen_39 (by omega) (by omega) (Nat.le_of_ble_eq_true rfl) ⟨Nat.le_of_ble_eq_true rfl, Nat.le_of_ble_eq_true rfl⟩ ⟨Nat.le_of_ble_eq_true rfl, Nat.le_of_ble_eq_true rfl⟩ ?_
                refine K_nm (fun v80 e80 => ?_)
                refine K_iast (pc := 83) (i := 49) rfl S_180 (by omega) (by omega) (by decide) ?_
                have hI := st_free (c := 180) hI (by decide +kernel) (by decide) (i := (x1).toNat) (v := v80)
                have fx := Fx.st (c := 180) (i := (x1).toNat) (v := v80) fx (by first | (dsimp only; omega) | omega | exact not_false)
                refine K_aload_n (pc := 84) (i := 50) rfl rfl ?_
                refine K_getR (pc := 85) (i := 51) (j := 5) (d := 181) rfl S_169 rfl (by decide) rfl fw_Seen_32 ?_
                refine K_iload_n (pc := 88) (i := 52) rfl rfl ?_
                refine K_aload_n (pc := 89) (i := 53) rfl rfl ?_
                refine K_getR (pc := 90) (i := 54) (j := 5) (d := 181) rfl S_169 rfl (by decide) rfl fw_Seen_32 ?_
                refine K_iload_n (pc := 93) (i := 55) rfl rfl ?_
                refine K_iald (pc := 94) (i := 56) rfl S_181 (by omega) (by omega) (by decide) ?_
                refine K_any (fun v94 r94 => ?_)
                refine K_iload (pc := 95) (i := 57) rfl rfl ?_
                refine K_mmax (pc := 97) (i := 58) rfl mw_Seen_45 (by omega) (by omega) (Nat.le_of_ble_eq_true rfl) ⟨Nat.le_of_ble_eq_true rfl, Nat.le_of_ble_eq_true rfl⟩ ⟨Nat.le_of_ble_eq_true rfl, Nat.le_of_ble_eq_true rfl⟩ ?_
                refine K_nm (fun v97 e97 => ?_)
                refine K_iast (pc := 100) (i := 59) rfl S_181 (by omega) (by omega) (by decide) ?_
                have hI := st_free (c := 181) hI (by decide +kernel) (by decide) (i := (x1).toNat) (v := v97)
                have fx := Fx.st (c := 181) (i := (x1).toNat) (v := v97) fx (by first | (dsimp only; omega) | omega | exact not_false)
                refine K_inc (pc := 101) (i := 60) (q := 4) (lo' := [(0, _), (1, _), (2, _), (3, _), (4, _), (5, _)]) rfl rfl rfl rfl rfl ?_
                refine K_goto 17 (pc := 104) (i := 61) rfl rfl ?_
                refine K_drop (lo' := [(0, .ref (G.2.2.2 169)), (1, kI x1), (2, kI x2), (3, kI (x3 + v48)), (4, kI (x4 + 1))]) [0, 1, 2, 3, 4] rfl ?_
                exact ih17 (x3 + v48) (x4 + 1) _ (by omega) hI fx (by omega)
      exact L17 _ 0 1 _ (Nat.lt_succ_self _) hI fx (by omega)
    · skip
      refine K_iconst (pc := 10) (i := 6) rfl ?_
      refine K_any (fun v11 r11 => ?_)
      exact K_retI (pc := 11) (i := 7) rfl rfl ⟨fx, ⟨hI, by omega⟩⟩
set_option maxHeartbeats 4000000 in
set_option maxRecDepth 100000 in
theorem c_Seen_rowsFrom2 (G : kG) {g : kGh} {h : kH} {x1 : Int} {x2 : Int} (s1 : 2 ≤ x1 ∧ x1 ≤ 4) (s2 : kR x2) (hI : Gd g h) : Ctr G y_Seen_rowsFrom X_Seen_rowsFrom 8 [.ref (G.2.2.2 169), kI x1, kI x2] h (kQi (fun z h' => Fx (fun c i => 173 ≤ c ∧ c ≤ 181) h h' ∧ (Gd g h' ∧ kR z))) := by
  refine Ctr.ofK (by decide) rfl T_Seen_rowsFrom (Nat.le_of_ble_eq_true rfl) (lo := [(0, .ref (G.2.2.2 169)), (1, kI x1), (2, kI x2)]) rfl ?_
  have fx : Fx (fun c i => 173 ≤ c ∧ c ≤ 181) h h := Fx.rf
  refine K_iload_n (pc := 0) (i := 0) rfl rfl ?_
  refine K_iload_n (pc := 1) (i := 1) rfl rfl ?_
  first | refine K_icmp_ge 10 (pc := 2) (i := 2) rfl rfl (by omega) (by omega) (fun b2 => ?_) (fun b2 => ?_) | refine K_icmp_ge_an 10 (pc := 2) (i := 2) rfl rfl (fun b2 => ?_) (fun b2 => ?_)
  · skip
    refine K_iconst (pc := 10) (i := 6) rfl ?_
    refine K_any (fun v11 r11 => ?_)
    exact K_retI (pc := 11) (i := 7) rfl rfl ⟨fx, ⟨hI, by omega⟩⟩
  · skip
    refine K_iload_n (pc := 5) (i := 3) rfl rfl ?_
    refine K_iconst (pc := 6) (i := 4) rfl ?_
    first | refine K_icmp_lt 12 (pc := 7) (i := 5) rfl rfl (by omega) (by omega) (fun b7 => ?_) (fun b7 => ?_) | refine K_icmp_lt_an 12 (pc := 7) (i := 5) rfl rfl (fun b7 => ?_) (fun b7 => ?_)
    · skip
      refine K_iconst (pc := 12) (i := 8) rfl ?_
      refine K_ist_n (pc := 13) (i := 9) (lo' := [(0, _), (1, _), (2, _), (3, _)]) rfl rfl rfl rfl ?_
      refine K_iconst (pc := 14) (i := 10) rfl ?_
      refine K_ist (pc := 15) (i := 11) (lo' := [(0, _), (1, _), (2, _), (3, _), (4, _)]) rfl rfl rfl rfl ?_
      have L17 : ∀ (n : Nat) (x3 : Int) (x4 : Int) (ha : kH), (10 - x4).toNat < n → (Gd g ha) → (Fx (fun c i => 173 ≤ c ∧ c ≤ 181) h ha) → (1 ≤ x4 ∧ x4 ≤ 10) → K X_Seen_rowsFrom G (kZm G 8 (kQi (fun z h' => Fx (fun c i => 173 ≤ c ∧ c ≤ 181) h h' ∧ (Gd g h' ∧ kR z)))) 17 [(0, .ref (G.2.2.2 169)), (1, kI x1), (2, kI x2), (3, kI x3), (4, kI x4)] [] ha := by
        intro n
        induction n with
        | zero => intro x3 x4 ha hm; exact absurd hm (Nat.not_lt_zero _)
        | succ n ih17 =>
          intro x3 x4 ha hm17 hI fx hV17
          refine K_iload (pc := 17) (i := 12) rfl rfl ?_
          refine K_bipush (pc := 19) (i := 13) rfl rfl ?_
          first | refine K_icmp_gt 107 (pc := 21) (i := 14) rfl rfl (by omega) (by omega) (fun b21 => ?_) (fun b21 => ?_) | refine K_icmp_gt_an 107 (pc := 21) (i := 14) rfl rfl (fun b21 => ?_) (fun b21 => ?_)
          · skip
            refine K_iload_n (pc := 107) (i := 62) rfl rfl ?_
            refine K_any (fun v108 r108 => ?_)
            exact K_retI (pc := 108) (i := 63) rfl rfl ⟨fx, ⟨hI, by omega⟩⟩
          · skip
            refine K_aload_n (pc := 24) (i := 15) rfl rfl ?_
            refine K_getR (pc := 25) (i := 16) (j := 3) (d := 173) rfl S_169 rfl (by decide) rfl fw_Seen_25 ?_
            refine K_getR (pc := 28) (i := 17) (j := 3) (d := 177) rfl (S_Fl fl173) rfl (by decide) rfl fw_Seen_59 ?_
            refine K_iload_n (pc := 31) (i := 18) rfl rfl ?_
            refine K_iload (pc := 32) (i := 19) rfl rfl ?_
            refine K_iast (pc := 34) (i := 20) rfl (S_Fl4 fl173) (by omega) (by omega) (by decide) ?_
            have hI := st_height hI fl173 (i := (x1).toNat) (v := x4) (by omega)
            have fx := Fx.st (c := 177) (i := (x1).toNat) (v := x4) fx (by first | (dsimp only; omega) | omega | exact not_false)
            refine K_aload_n (pc := 35) (i := 21) rfl rfl ?_
            refine K_iload_n (pc := 36) (i := 22) rfl rfl ?_
            refine K_cVI (pc := 37) (i := 23) rfl (c_Seen_agrees G (x1 := x1) (hI := hI) (s1 := by omega)) S_169 rfl (lv_Seen_62 rfl) rfl rfl rfl rfl rfl (fun v37 h37 q37 => ?_)
            obtain ⟨eh, r37⟩ := q37
            rw [eh]; clear eh
            first | refine K_if_eq 54 (pc := 40) (i := 24) rfl rfl (by omega) (fun b40 => ?_) (fun b40 => ?_) | refine K_if_eq_an 54 (pc := 40) (i := 24) rfl rfl (fun b40 => ?_) (fun b40 => ?_)
            · skip
              refine K_iconst (pc := 54) (i := 32) rfl ?_
              refine K_ist (pc := 55) (i := 33) (lo' := [(0, _), (1, _), (2, _), (3, _), (4, _), (5, _)]) rfl rfl rfl rfl ?_
              refine K_iload (pc := 57) (i := 34) rfl rfl ?_
              refine K_if_le 101 (pc := 59) (i := 35) rfl rfl (by omega) (fun _ => ?_) (fun b59 => False.elim (by omega))
              refine K_inc (pc := 101) (i := 60) (q := 4) (lo' := [(0, _), (1, _), (2, _), (3, _), (4, _), (5, _)]) rfl rfl rfl rfl rfl ?_
              refine K_goto 17 (pc := 104) (i := 61) rfl rfl ?_
              refine K_drop (lo' := [(0, .ref (G.2.2.2 169)), (1, kI x1), (2, kI x2), (3, kI x3), (4, kI (x4 + 1))]) [0, 1, 2, 3, 4] rfl ?_
              exact ih17 x3 (x4 + 1) _ (by omega) hI fx (by omega)
            · skip
              refine K_aload_n (pc := 43) (i := 25) rfl rfl ?_
              refine K_iload_n (pc := 44) (i := 26) rfl rfl ?_
              refine K_iconst (pc := 45) (i := 27) rfl ?_
              refine K_iadd (pc := 46) (i := 28) rfl ?_
              refine K_iload_n (pc := 47) (i := 29) rfl rfl ?_
              refine K_cSI (pc := 48) (i := 30) rfl (c_Seen_rowsFrom3 G (x1 := x1 + 1) (x2 := x2) (hI := hI) (s1 := by omega) (s2 := by omega)) (ls_Seen_55 rfl) rfl rfl rfl rfl (fun v48 h48 q48 => ?_)
              obtain ⟨fx48, q48⟩ := q48
              obtain ⟨hI, r48⟩ := q48
              have fx := fx.tr fx48 (fun c i q => (by first | (dsimp only at q ⊢; omega) | omega))
              refine K_goto 55 (pc := 51) (i := 31) rfl rfl ?_
              refine K_ist (pc := 55) (i := 33) (lo' := [(0, _), (1, _), (2, _), (3, _), (4, _), (5, _)]) rfl rfl rfl rfl ?_
              refine K_iload (pc := 57) (i := 34) rfl rfl ?_
              first | refine K_if_le 101 (pc := 59) (i := 35) rfl rfl (by omega) (fun b59 => ?_) (fun b59 => ?_) | refine K_if_le_an 101 (pc := 59) (i := 35) rfl rfl (fun b59 => ?_) (fun b59 => ?_)
              · skip
                refine K_inc (pc := 101) (i := 60) (q := 4) (lo' := [(0, _), (1, _), (2, _), (3, _), (4, _), (5, _)]) rfl rfl rfl rfl rfl ?_
                refine K_goto 17 (pc := 104) (i := 61) rfl rfl ?_
                refine K_drop (lo' := [(0, .ref (G.2.2.2 169)), (1, kI x1), (2, kI x2), (3, kI x3), (4, kI (x4 + 1))]) [0, 1, 2, 3, 4] rfl ?_
                exact ih17 x3 (x4 + 1) _ (by omega) hI fx (by omega)
              · skip
                refine K_iload_n (pc := 62) (i := 36) rfl rfl ?_
                refine K_iload (pc := 63) (i := 37) rfl rfl ?_
                refine K_iadd (pc := 65) (i := 38) rfl ?_
                refine K_ist_n (pc := 66) (i := 39) (lo' := [(0, _), (1, _), (2, _), (3, _), (4, _), (5, _)]) rfl rfl rfl rfl ?_
                refine K_aload_n (pc := 67) (i := 40) rfl rfl ?_
                refine K_getR (pc := 68) (i := 41) (j := 4) (d := 180) rfl S_169 rfl (by decide) rfl fw_Seen_29 ?_
                refine K_iload_n (pc := 71) (i := 42) rfl rfl ?_
                refine K_aload_n (pc := 72) (i := 43) rfl rfl ?_
                refine K_getR (pc := 73) (i := 44) (j := 4) (d := 180) rfl S_169 rfl (by decide) rfl fw_Seen_29 ?_
                refine K_iload_n (pc := 76) (i := 45) rfl rfl ?_
                refine K_iald (pc := 77) (i := 46) rfl S_180 (by omega) (by omega) (by decide) ?_
                refine K_any (fun v77 r77 => ?_)
                refine K_iload (pc := 78) (i := 47) rfl rfl ?_
                refine K_mmin (pc := 80) (i := 48) rfl mw_Seen_39 (by omega) (by omega) (Nat.le_of_ble_eq_true rfl) ⟨Nat.le_of_ble_eq_true rfl, Nat.le_of_ble_eq_true rfl⟩ ⟨Nat.le_of_ble_eq_true rfl, Nat.le_of_ble_eq_true rfl⟩ ?_
                refine K_nm (fun v80 e80 => ?_)
                refine K_iast (pc := 83) (i := 49) rfl S_180 (by omega) (by omega) (by decide) ?_
                have hI := st_free (c := 180) hI (by decide +kernel) (by decide) (i := (x1).toNat) (v := v80)
                have fx := Fx.st (c := 180) (i := (x1).toNat) (v := v80) fx (by first | (dsimp only; omega) | omega | exact not_false)
                refine K_aload_n (pc := 84) (i := 50) rfl rfl ?_
                refine K_getR (pc := 85) (i := 51) (j := 5) (d := 181) rfl S_169 rfl (by decide) rfl fw_Seen_32 ?_
                refine K_iload_n (pc := 88) (i := 52) rfl rfl ?_
                refine K_aload_n (pc := 89) (i := 53) rfl rfl ?_
                refine K_getR (pc := 90) (i := 54) (j := 5) (d := 181) rfl S_169 rfl (by decide) rfl fw_Seen_32 ?_
                refine K_iload_n (pc := 93) (i := 55) rfl rfl ?_
                refine K_iald (pc := 94) (i := 56) rfl S_181 (by omega) (by omega) (by decide) ?_
                refine K_any (fun v94 r94 => ?_)
                refine K_iload (pc := 95) (i := 57) rfl rfl ?_
                refine K_mmax (pc := 97) (i := 58) rfl mw_Seen_45 (by omega) (by omega) (Nat.le_of_ble_eq_true rfl) ⟨Nat.le_of_ble_eq_true rfl, Nat.le_of_ble_eq_true rfl⟩ ⟨Nat.le_of_ble_eq_true rfl, Nat.le_of_ble_eq_true rfl⟩ ?_
                refine K_nm (fun v97 e97 => ?_)
                refine K_iast (pc := 100) (i := 59) rfl S_181 (by omega) (by omega) (by decide) ?_
                have hI := st_free (c := 181) hI (by decide +kernel) (by decide) (i := (x1).toNat) (v := v97)
                have fx := Fx.st (c := 181) (i := (x1).toNat) (v := v97) fx (by first | (dsimp only; omega) | omega | exact not_false)
                refine K_inc (pc := 101) (i := 60) (q := 4) (lo' := [(0, _), (1, _), (2, _), (3, _), (4, _), (5, _)]) rfl rfl rfl rfl rfl ?_
                refine K_goto 17 (pc := 104) (i := 61) rfl rfl ?_
                refine K_drop (lo' := [(0, .ref (G.2.2.2 169)), (1, kI x1), (2, kI x2), (3, kI (x3 + v48)), (4, kI (x4 + 1))]) [0, 1, 2, 3, 4] rfl ?_
                exact ih17 (x3 + v48) (x4 + 1) _ (by omega) hI fx (by omega)
      exact L17 _ 0 1 _ (Nat.lt_succ_self _) hI fx (by omega)
    · skip
      refine K_iconst (pc := 10) (i := 6) rfl ?_
      refine K_any (fun v11 r11 => ?_)
      exact K_retI (pc := 11) (i := 7) rfl rfl ⟨fx, ⟨hI, by omega⟩⟩
set_option maxHeartbeats 4000000 in
set_option maxRecDepth 100000 in
theorem c_Seen_rowsFrom1 (G : kG) {g : kGh} {h : kH} {x1 : Int} {x2 : Int} (s1 : 1 ≤ x1 ∧ x1 ≤ 4) (s2 : kR x2) (hI : Gd g h) : Ctr G y_Seen_rowsFrom X_Seen_rowsFrom 9 [.ref (G.2.2.2 169), kI x1, kI x2] h (kQi (fun z h' => Fx (fun c i => 173 ≤ c ∧ c ≤ 181) h h' ∧ (Gd g h' ∧ kR z))) := by
  refine Ctr.ofK (by decide) rfl T_Seen_rowsFrom (Nat.le_of_ble_eq_true rfl) (lo := [(0, .ref (G.2.2.2 169)), (1, kI x1), (2, kI x2)]) rfl ?_
  have fx : Fx (fun c i => 173 ≤ c ∧ c ≤ 181) h h := Fx.rf
  refine K_iload_n (pc := 0) (i := 0) rfl rfl ?_
  refine K_iload_n (pc := 1) (i := 1) rfl rfl ?_
  first | refine K_icmp_ge 10 (pc := 2) (i := 2) rfl rfl (by omega) (by omega) (fun b2 => ?_) (fun b2 => ?_) | refine K_icmp_ge_an 10 (pc := 2) (i := 2) rfl rfl (fun b2 => ?_) (fun b2 => ?_)
  · skip
    refine K_iconst (pc := 10) (i := 6) rfl ?_
    refine K_any (fun v11 r11 => ?_)
    exact K_retI (pc := 11) (i := 7) rfl rfl ⟨fx, ⟨hI, by omega⟩⟩
  · skip
    refine K_iload_n (pc := 5) (i := 3) rfl rfl ?_
    refine K_iconst (pc := 6) (i := 4) rfl ?_
    first | refine K_icmp_lt 12 (pc := 7) (i := 5) rfl rfl (by omega) (by omega) (fun b7 => ?_) (fun b7 => ?_) | refine K_icmp_lt_an 12 (pc := 7) (i := 5) rfl rfl (fun b7 => ?_) (fun b7 => ?_)
    · skip
      refine K_iconst (pc := 12) (i := 8) rfl ?_
      refine K_ist_n (pc := 13) (i := 9) (lo' := [(0, _), (1, _), (2, _), (3, _)]) rfl rfl rfl rfl ?_
      refine K_iconst (pc := 14) (i := 10) rfl ?_
      refine K_ist (pc := 15) (i := 11) (lo' := [(0, _), (1, _), (2, _), (3, _), (4, _)]) rfl rfl rfl rfl ?_
      have L17 : ∀ (n : Nat) (x3 : Int) (x4 : Int) (ha : kH), (10 - x4).toNat < n → (Gd g ha) → (Fx (fun c i => 173 ≤ c ∧ c ≤ 181) h ha) → (1 ≤ x4 ∧ x4 ≤ 10) → K X_Seen_rowsFrom G (kZm G 9 (kQi (fun z h' => Fx (fun c i => 173 ≤ c ∧ c ≤ 181) h h' ∧ (Gd g h' ∧ kR z)))) 17 [(0, .ref (G.2.2.2 169)), (1, kI x1), (2, kI x2), (3, kI x3), (4, kI x4)] [] ha := by
        intro n
        induction n with
        | zero => intro x3 x4 ha hm; exact absurd hm (Nat.not_lt_zero _)
        | succ n ih17 =>
          intro x3 x4 ha hm17 hI fx hV17
          refine K_iload (pc := 17) (i := 12) rfl rfl ?_
          refine K_bipush (pc := 19) (i := 13) rfl rfl ?_
          first | refine K_icmp_gt 107 (pc := 21) (i := 14) rfl rfl (by omega) (by omega) (fun b21 => ?_) (fun b21 => ?_) | refine K_icmp_gt_an 107 (pc := 21) (i := 14) rfl rfl (fun b21 => ?_) (fun b21 => ?_)
          · skip
            refine K_iload_n (pc := 107) (i := 62) rfl rfl ?_
            refine K_any (fun v108 r108 => ?_)
            exact K_retI (pc := 108) (i := 63) rfl rfl ⟨fx, ⟨hI, by omega⟩⟩
          · skip
            refine K_aload_n (pc := 24) (i := 15) rfl rfl ?_
            refine K_getR (pc := 25) (i := 16) (j := 3) (d := 173) rfl S_169 rfl (by decide) rfl fw_Seen_25 ?_
            refine K_getR (pc := 28) (i := 17) (j := 3) (d := 177) rfl (S_Fl fl173) rfl (by decide) rfl fw_Seen_59 ?_
            refine K_iload_n (pc := 31) (i := 18) rfl rfl ?_
            refine K_iload (pc := 32) (i := 19) rfl rfl ?_
            refine K_iast (pc := 34) (i := 20) rfl (S_Fl4 fl173) (by omega) (by omega) (by decide) ?_
            have hI := st_height hI fl173 (i := (x1).toNat) (v := x4) (by omega)
            have fx := Fx.st (c := 177) (i := (x1).toNat) (v := x4) fx (by first | (dsimp only; omega) | omega | exact not_false)
            refine K_aload_n (pc := 35) (i := 21) rfl rfl ?_
            refine K_iload_n (pc := 36) (i := 22) rfl rfl ?_
            refine K_cVI (pc := 37) (i := 23) rfl (c_Seen_agrees G (x1 := x1) (hI := hI) (s1 := by omega)) S_169 rfl (lv_Seen_62 rfl) rfl rfl rfl rfl rfl (fun v37 h37 q37 => ?_)
            obtain ⟨eh, r37⟩ := q37
            rw [eh]; clear eh
            first | refine K_if_eq 54 (pc := 40) (i := 24) rfl rfl (by omega) (fun b40 => ?_) (fun b40 => ?_) | refine K_if_eq_an 54 (pc := 40) (i := 24) rfl rfl (fun b40 => ?_) (fun b40 => ?_)
            · skip
              refine K_iconst (pc := 54) (i := 32) rfl ?_
              refine K_ist (pc := 55) (i := 33) (lo' := [(0, _), (1, _), (2, _), (3, _), (4, _), (5, _)]) rfl rfl rfl rfl ?_
              refine K_iload (pc := 57) (i := 34) rfl rfl ?_
              refine K_if_le 101 (pc := 59) (i := 35) rfl rfl (by omega) (fun _ => ?_) (fun b59 => False.elim (by omega))
              refine K_inc (pc := 101) (i := 60) (q := 4) (lo' := [(0, _), (1, _), (2, _), (3, _), (4, _), (5, _)]) rfl rfl rfl rfl rfl ?_
              refine K_goto 17 (pc := 104) (i := 61) rfl rfl ?_
              refine K_drop (lo' := [(0, .ref (G.2.2.2 169)), (1, kI x1), (2, kI x2), (3, kI x3), (4, kI (x4 + 1))]) [0, 1, 2, 3, 4] rfl ?_
              exact ih17 x3 (x4 + 1) _ (by omega) hI fx (by omega)
            · skip
              refine K_aload_n (pc := 43) (i := 25) rfl rfl ?_
              refine K_iload_n (pc := 44) (i := 26) rfl rfl ?_
              refine K_iconst (pc := 45) (i := 27) rfl ?_
              refine K_iadd (pc := 46) (i := 28) rfl ?_
              refine K_iload_n (pc := 47) (i := 29) rfl rfl ?_
              refine K_cSI (pc := 48) (i := 30) rfl (c_Seen_rowsFrom2 G (x1 := x1 + 1) (x2 := x2) (hI := hI) (s1 := by omega) (s2 := by omega)) (ls_Seen_55 rfl) rfl rfl rfl rfl (fun v48 h48 q48 => ?_)
              obtain ⟨fx48, q48⟩ := q48
              obtain ⟨hI, r48⟩ := q48
              have fx := fx.tr fx48 (fun c i q => (by first | (dsimp only at q ⊢; omega) | omega))
              refine K_goto 55 (pc := 51) (i := 31) rfl rfl ?_
              refine K_ist (pc := 55) (i := 33) (lo' := [(0, _), (1, _), (2, _), (3, _), (4, _), (5, _)]) rfl rfl rfl rfl ?_
              refine K_iload (pc := 57) (i := 34) rfl rfl ?_
              first | refine K_if_le 101 (pc := 59) (i := 35) rfl rfl (by omega) (fun b59 => ?_) (fun b59 => ?_) | refine K_if_le_an 101 (pc := 59) (i := 35) rfl rfl (fun b59 => ?_) (fun b59 => ?_)
              · skip
                refine K_inc (pc := 101) (i := 60) (q := 4) (lo' := [(0, _), (1, _), (2, _), (3, _), (4, _), (5, _)]) rfl rfl rfl rfl rfl ?_
                refine K_goto 17 (pc := 104) (i := 61) rfl rfl ?_
                refine K_drop (lo' := [(0, .ref (G.2.2.2 169)), (1, kI x1), (2, kI x2), (3, kI x3), (4, kI (x4 + 1))]) [0, 1, 2, 3, 4] rfl ?_
                exact ih17 x3 (x4 + 1) _ (by omega) hI fx (by omega)
              · skip
                refine K_iload_n (pc := 62) (i := 36) rfl rfl ?_
                refine K_iload (pc := 63) (i := 37) rfl rfl ?_
                refine K_iadd (pc := 65) (i := 38) rfl ?_
                refine K_ist_n (pc := 66) (i := 39) (lo' := [(0, _), (1, _), (2, _), (3, _), (4, _), (5, _)]) rfl rfl rfl rfl ?_
                refine K_aload_n (pc := 67) (i := 40) rfl rfl ?_
                refine K_getR (pc := 68) (i := 41) (j := 4) (d := 180) rfl S_169 rfl (by decide) rfl fw_Seen_29 ?_
                refine K_iload_n (pc := 71) (i := 42) rfl rfl ?_
                refine K_aload_n (pc := 72) (i := 43) rfl rfl ?_
                refine K_getR (pc := 73) (i := 44) (j := 4) (d := 180) rfl S_169 rfl (by decide) rfl fw_Seen_29 ?_
                refine K_iload_n (pc := 76) (i := 45) rfl rfl ?_
                refine K_iald (pc := 77) (i := 46) rfl S_180 (by omega) (by omega) (by decide) ?_
                refine K_any (fun v77 r77 => ?_)
                refine K_iload (pc := 78) (i := 47) rfl rfl ?_
                refine K_mmin (pc := 80) (i := 48) rfl mw_Seen_39 (by omega) (by omega) (Nat.le_of_ble_eq_true rfl) ⟨Nat.le_of_ble_eq_true rfl, Nat.le_of_ble_eq_true rfl⟩ ⟨Nat.le_of_ble_eq_true rfl, Nat.le_of_ble_eq_true rfl⟩ ?_
                refine K_nm (fun v80 e80 => ?_)
                refine K_iast (pc := 83) (i := 49) rfl S_180 (by omega) (by omega) (by decide) ?_
                have hI := st_free (c := 180) hI (by decide +kernel) (by decide) (i := (x1).toNat) (v := v80)
                have fx := Fx.st (c := 180) (i := (x1).toNat) (v := v80) fx (by first | (dsimp only; omega) | omega | exact not_false)
                refine K_aload_n (pc := 84) (i := 50) rfl rfl ?_
                refine K_getR (pc := 85) (i := 51) (j := 5) (d := 181) rfl S_169 rfl (by decide) rfl fw_Seen_32 ?_
                refine K_iload_n (pc := 88) (i := 52) rfl rfl ?_
                refine K_aload_n (pc := 89) (i := 53) rfl rfl ?_
                refine K_getR (pc := 90) (i := 54) (j := 5) (d := 181) rfl S_169 rfl (by decide) rfl fw_Seen_32 ?_
                refine K_iload_n (pc := 93) (i := 55) rfl rfl ?_
                refine K_iald (pc := 94) (i := 56) rfl S_181 (by omega) (by omega) (by decide) ?_
                refine K_any (fun v94 r94 => ?_)
                refine K_iload (pc := 95) (i := 57) rfl rfl ?_
                refine K_mmax (pc := 97) (i := 58) rfl mw_Seen_45 (by omega) (by omega) (Nat.le_of_ble_eq_true rfl) ⟨Nat.le_of_ble_eq_true rfl, Nat.le_of_ble_eq_true rfl⟩ ⟨Nat.le_of_ble_eq_true rfl, Nat.le_of_ble_eq_true rfl⟩ ?_
                refine K_nm (fun v97 e97 => ?_)
                refine K_iast (pc := 100) (i := 59) rfl S_181 (by omega) (by omega) (by decide) ?_
                have hI := st_free (c := 181) hI (by decide +kernel) (by decide) (i := (x1).toNat) (v := v97)
                have fx := Fx.st (c := 181) (i := (x1).toNat) (v := v97) fx (by first | (dsimp only; omega) | omega | exact not_false)
                refine K_inc (pc := 101) (i := 60) (q := 4) (lo' := [(0, _), (1, _), (2, _), (3, _), (4, _), (5, _)]) rfl rfl rfl rfl rfl ?_
                refine K_goto 17 (pc := 104) (i := 61) rfl rfl ?_
                refine K_drop (lo' := [(0, .ref (G.2.2.2 169)), (1, kI x1), (2, kI x2), (3, kI (x3 + v48)), (4, kI (x4 + 1))]) [0, 1, 2, 3, 4] rfl ?_
                exact ih17 (x3 + v48) (x4 + 1) _ (by omega) hI fx (by omega)
      exact L17 _ 0 1 _ (Nat.lt_succ_self _) hI fx (by omega)
    · skip
      refine K_iconst (pc := 10) (i := 6) rfl ?_
      refine K_any (fun v11 r11 => ?_)
      exact K_retI (pc := 11) (i := 7) rfl rfl ⟨fx, ⟨hI, by omega⟩⟩
set_option maxHeartbeats 4000000 in
set_option maxRecDepth 100000 in
theorem c_Seen_rowsFrom0 (G : kG) {g : kGh} {h : kH} {x1 : Int} {x2 : Int} (s1 : 0 ≤ x1 ∧ x1 ≤ 4) (s2 : kR x2) (hI : Gd g h) : Ctr G y_Seen_rowsFrom X_Seen_rowsFrom 10 [.ref (G.2.2.2 169), kI x1, kI x2] h (kQi (fun z h' => Fx (fun c i => 173 ≤ c ∧ c ≤ 181) h h' ∧ (Gd g h' ∧ kR z))) := by
  refine Ctr.ofK (by decide) rfl T_Seen_rowsFrom (Nat.le_of_ble_eq_true rfl) (lo := [(0, .ref (G.2.2.2 169)), (1, kI x1), (2, kI x2)]) rfl ?_
  have fx : Fx (fun c i => 173 ≤ c ∧ c ≤ 181) h h := Fx.rf
  refine K_iload_n (pc := 0) (i := 0) rfl rfl ?_
  refine K_iload_n (pc := 1) (i := 1) rfl rfl ?_
  first | refine K_icmp_ge 10 (pc := 2) (i := 2) rfl rfl (by omega) (by omega) (fun b2 => ?_) (fun b2 => ?_) | refine K_icmp_ge_an 10 (pc := 2) (i := 2) rfl rfl (fun b2 => ?_) (fun b2 => ?_)
  · skip
    refine K_iconst (pc := 10) (i := 6) rfl ?_
    refine K_any (fun v11 r11 => ?_)
    exact K_retI (pc := 11) (i := 7) rfl rfl ⟨fx, ⟨hI, by omega⟩⟩
  · skip
    refine K_iload_n (pc := 5) (i := 3) rfl rfl ?_
    refine K_iconst (pc := 6) (i := 4) rfl ?_
    first | refine K_icmp_lt 12 (pc := 7) (i := 5) rfl rfl (by omega) (by omega) (fun b7 => ?_) (fun b7 => ?_) | refine K_icmp_lt_an 12 (pc := 7) (i := 5) rfl rfl (fun b7 => ?_) (fun b7 => ?_)
    · skip
      refine K_iconst (pc := 12) (i := 8) rfl ?_
      refine K_ist_n (pc := 13) (i := 9) (lo' := [(0, _), (1, _), (2, _), (3, _)]) rfl rfl rfl rfl ?_
      refine K_iconst (pc := 14) (i := 10) rfl ?_
      refine K_ist (pc := 15) (i := 11) (lo' := [(0, _), (1, _), (2, _), (3, _), (4, _)]) rfl rfl rfl rfl ?_
      have L17 : ∀ (n : Nat) (x3 : Int) (x4 : Int) (ha : kH), (10 - x4).toNat < n → (Gd g ha) → (Fx (fun c i => 173 ≤ c ∧ c ≤ 181) h ha) → (1 ≤ x4 ∧ x4 ≤ 10) → K X_Seen_rowsFrom G (kZm G 10 (kQi (fun z h' => Fx (fun c i => 173 ≤ c ∧ c ≤ 181) h h' ∧ (Gd g h' ∧ kR z)))) 17 [(0, .ref (G.2.2.2 169)), (1, kI x1), (2, kI x2), (3, kI x3), (4, kI x4)] [] ha := by
        intro n
        induction n with
        | zero => intro x3 x4 ha hm; exact absurd hm (Nat.not_lt_zero _)
        | succ n ih17 =>
          intro x3 x4 ha hm17 hI fx hV17
          refine K_iload (pc := 17) (i := 12) rfl rfl ?_
          refine K_bipush (pc := 19) (i := 13) rfl rfl ?_
          first | refine K_icmp_gt 107 (pc := 21) (i := 14) rfl rfl (by omega) (by omega) (fun b21 => ?_) (fun b21 => ?_) | refine K_icmp_gt_an 107 (pc := 21) (i := 14) rfl rfl (fun b21 => ?_) (fun b21 => ?_)
          · skip
            refine K_iload_n (pc := 107) (i := 62) rfl rfl ?_
            refine K_any (fun v108 r108 => ?_)
            exact K_retI (pc := 108) (i := 63) rfl rfl ⟨fx, ⟨hI, by omega⟩⟩
          · skip
            refine K_aload_n (pc := 24) (i := 15) rfl rfl ?_
            refine K_getR (pc := 25) (i := 16) (j := 3) (d := 173) rfl S_169 rfl (by decide) rfl fw_Seen_25 ?_
            refine K_getR (pc := 28) (i := 17) (j := 3) (d := 177) rfl (S_Fl fl173) rfl (by decide) rfl fw_Seen_59 ?_
            refine K_iload_n (pc := 31) (i := 18) rfl rfl ?_
            refine K_iload (pc := 32) (i := 19) rfl rfl ?_
            refine K_iast (pc := 34) (i := 20) rfl (S_Fl4 fl173) (by omega) (by omega) (by decide) ?_
            have hI := st_height hI fl173 (i := (x1).toNat) (v := x4) (by omega)
            have fx := Fx.st (c := 177) (i := (x1).toNat) (v := x4) fx (by first | (dsimp only; omega) | omega | exact not_false)
            refine K_aload_n (pc := 35) (i := 21) rfl rfl ?_
            refine K_iload_n (pc := 36) (i := 22) rfl rfl ?_
            refine K_cVI (pc := 37) (i := 23) rfl (c_Seen_agrees G (x1 := x1) (hI := hI) (s1 := by omega)) S_169 rfl (lv_Seen_62 rfl) rfl rfl rfl rfl rfl (fun v37 h37 q37 => ?_)
            obtain ⟨eh, r37⟩ := q37
            rw [eh]; clear eh
            first | refine K_if_eq 54 (pc := 40) (i := 24) rfl rfl (by omega) (fun b40 => ?_) (fun b40 => ?_) | refine K_if_eq_an 54 (pc := 40) (i := 24) rfl rfl (fun b40 => ?_) (fun b40 => ?_)
            · skip
              refine K_iconst (pc := 54) (i := 32) rfl ?_
              refine K_ist (pc := 55) (i := 33) (lo' := [(0, _), (1, _), (2, _), (3, _), (4, _), (5, _)]) rfl rfl rfl rfl ?_
              refine K_iload (pc := 57) (i := 34) rfl rfl ?_
              refine K_if_le 101 (pc := 59) (i := 35) rfl rfl (by omega) (fun _ => ?_) (fun b59 => False.elim (by omega))
              refine K_inc (pc := 101) (i := 60) (q := 4) (lo' := [(0, _), (1, _), (2, _), (3, _), (4, _), (5, _)]) rfl rfl rfl rfl rfl ?_
              refine K_goto 17 (pc := 104) (i := 61) rfl rfl ?_
              refine K_drop (lo' := [(0, .ref (G.2.2.2 169)), (1, kI x1), (2, kI x2), (3, kI x3), (4, kI (x4 + 1))]) [0, 1, 2, 3, 4] rfl ?_
              exact ih17 x3 (x4 + 1) _ (by omega) hI fx (by omega)
            · skip
              refine K_aload_n (pc := 43) (i := 25) rfl rfl ?_
              refine K_iload_n (pc := 44) (i := 26) rfl rfl ?_
              refine K_iconst (pc := 45) (i := 27) rfl ?_
              refine K_iadd (pc := 46) (i := 28) rfl ?_
              refine K_iload_n (pc := 47) (i := 29) rfl rfl ?_
              refine K_cSI (pc := 48) (i := 30) rfl (c_Seen_rowsFrom1 G (x1 := x1 + 1) (x2 := x2) (hI := hI) (s1 := by omega) (s2 := by omega)) (ls_Seen_55 rfl) rfl rfl rfl rfl (fun v48 h48 q48 => ?_)
              obtain ⟨fx48, q48⟩ := q48
              obtain ⟨hI, r48⟩ := q48
              have fx := fx.tr fx48 (fun c i q => (by first | (dsimp only at q ⊢; omega) | omega))
              refine K_goto 55 (pc := 51) (i := 31) rfl rfl ?_
              refine K_ist (pc := 55) (i := 33) (lo' := [(0, _), (1, _), (2, _), (3, _), (4, _), (5, _)]) rfl rfl rfl rfl ?_
              refine K_iload (pc := 57) (i := 34) rfl rfl ?_
              first | refine K_if_le 101 (pc := 59) (i := 35) rfl rfl (by omega) (fun b59 => ?_) (fun b59 => ?_) | refine K_if_le_an 101 (pc := 59) (i := 35) rfl rfl (fun b59 => ?_) (fun b59 => ?_)
              · skip
                refine K_inc (pc := 101) (i := 60) (q := 4) (lo' := [(0, _), (1, _), (2, _), (3, _), (4, _), (5, _)]) rfl rfl rfl rfl rfl ?_
                refine K_goto 17 (pc := 104) (i := 61) rfl rfl ?_
                refine K_drop (lo' := [(0, .ref (G.2.2.2 169)), (1, kI x1), (2, kI x2), (3, kI x3), (4, kI (x4 + 1))]) [0, 1, 2, 3, 4] rfl ?_
                exact ih17 x3 (x4 + 1) _ (by omega) hI fx (by omega)
              · skip
                refine K_iload_n (pc := 62) (i := 36) rfl rfl ?_
                refine K_iload (pc := 63) (i := 37) rfl rfl ?_
                refine K_iadd (pc := 65) (i := 38) rfl ?_
                refine K_ist_n (pc := 66) (i := 39) (lo' := [(0, _), (1, _), (2, _), (3, _), (4, _), (5, _)]) rfl rfl rfl rfl ?_
                refine K_aload_n (pc := 67) (i := 40) rfl rfl ?_
                refine K_getR (pc := 68) (i := 41) (j := 4) (d := 180) rfl S_169 rfl (by decide) rfl fw_Seen_29 ?_
                refine K_iload_n (pc := 71) (i := 42) rfl rfl ?_
                refine K_aload_n (pc := 72) (i := 43) rfl rfl ?_
                refine K_getR (pc := 73) (i := 44) (j := 4) (d := 180) rfl S_169 rfl (by decide) rfl fw_Seen_29 ?_
                refine K_iload_n (pc := 76) (i := 45) rfl rfl ?_
                refine K_iald (pc := 77) (i := 46) rfl S_180 (by omega) (by omega) (by decide) ?_
                refine K_any (fun v77 r77 => ?_)
                refine K_iload (pc := 78) (i := 47) rfl rfl ?_
                refine K_mmin (pc := 80) (i := 48) rfl mw_Seen_39 (by omega) (by omega) (Nat.le_of_ble_eq_true rfl) ⟨Nat.le_of_ble_eq_true rfl, Nat.le_of_ble_eq_true rfl⟩ ⟨Nat.le_of_ble_eq_true rfl, Nat.le_of_ble_eq_true rfl⟩ ?_
                refine K_nm (fun v80 e80 => ?_)
                refine K_iast (pc := 83) (i := 49) rfl S_180 (by omega) (by omega) (by decide) ?_
                have hI := st_free (c := 180) hI (by decide +kernel) (by decide) (i := (x1).toNat) (v := v80)
                have fx := Fx.st (c := 180) (i := (x1).toNat) (v := v80) fx (by first | (dsimp only; omega) | omega | exact not_false)
                refine K_aload_n (pc := 84) (i := 50) rfl rfl ?_
                refine K_getR (pc := 85) (i := 51) (j := 5) (d := 181) rfl S_169 rfl (by decide) rfl fw_Seen_32 ?_
                refine K_iload_n (pc := 88) (i := 52) rfl rfl ?_
                refine K_aload_n (pc := 89) (i := 53) rfl rfl ?_
                refine K_getR (pc := 90) (i := 54) (j := 5) (d := 181) rfl S_169 rfl (by decide) rfl fw_Seen_32 ?_
                refine K_iload_n (pc := 93) (i := 55) rfl rfl ?_
                refine K_iald (pc := 94) (i := 56) rfl S_181 (by omega) (by omega) (by decide) ?_
                refine K_any (fun v94 r94 => ?_)
                refine K_iload (pc := 95) (i := 57) rfl rfl ?_
                refine K_mmax (pc := 97) (i := 58) rfl mw_Seen_45 (by omega) (by omega) (Nat.le_of_ble_eq_true rfl) ⟨Nat.le_of_ble_eq_true rfl, Nat.le_of_ble_eq_true rfl⟩ ⟨Nat.le_of_ble_eq_true rfl, Nat.le_of_ble_eq_true rfl⟩ ?_
                refine K_nm (fun v97 e97 => ?_)
                refine K_iast (pc := 100) (i := 59) rfl S_181 (by omega) (by omega) (by decide) ?_
                have hI := st_free (c := 181) hI (by decide +kernel) (by decide) (i := (x1).toNat) (v := v97)
                have fx := Fx.st (c := 181) (i := (x1).toNat) (v := v97) fx (by first | (dsimp only; omega) | omega | exact not_false)
                refine K_inc (pc := 101) (i := 60) (q := 4) (lo' := [(0, _), (1, _), (2, _), (3, _), (4, _), (5, _)]) rfl rfl rfl rfl rfl ?_
                refine K_goto 17 (pc := 104) (i := 61) rfl rfl ?_
                refine K_drop (lo' := [(0, .ref (G.2.2.2 169)), (1, kI x1), (2, kI x2), (3, kI (x3 + v48)), (4, kI (x4 + 1))]) [0, 1, 2, 3, 4] rfl ?_
                exact ih17 (x3 + v48) (x4 + 1) _ (by omega) hI fx (by omega)
      exact L17 _ 0 1 _ (Nat.lt_succ_self _) hI fx (by omega)
    · skip
      refine K_iconst (pc := 10) (i := 6) rfl ?_
      refine K_any (fun v11 r11 => ?_)
      exact K_retI (pc := 11) (i := 7) rfl rfl ⟨fx, ⟨hI, by omega⟩⟩
set_option maxHeartbeats 4000000 in
set_option maxRecDepth 100000 in
theorem c_Seen_countRows (G : kG) {g : kGh} {h : kH} {f : Nat} (hf : f ∈ FL) (hr : f + 7 ≤ 160) (hI : Gd g h) : Ctr G y_Seen_countRows X_Seen_countRows 11 [.ref (G.2.2.2 169), .ref (G.2.2.2 f)] h (kQi (fun z h' => Fx (fun c i => 173 ≤ c ∧ c ≤ 181) h h' ∧ (Gd g h' ∧ kR z))) := by
  refine Ctr.ofK (by decide) rfl T_Seen_countRows (Nat.le_of_ble_eq_true rfl) (lo := [(0, .ref (G.2.2.2 169)), (1, .ref (G.2.2.2 f))]) rfl ?_
  have fx : Fx (fun c i => 173 ≤ c ∧ c ≤ 181) h h := Fx.rf
  refine K_aload_n (pc := 0) (i := 0) rfl rfl ?_
  refine K_getR (pc := 1) (i := 1) (j := 3) (d := 173) rfl S_169 rfl (by decide) rfl fw_Seen_25 ?_
  refine K_aload_n (pc := 4) (i := 2) rfl rfl ?_
  refine K_cVV (pc := 5) (i := 3) rfl (c_Fleet_copyFrom G (f := 173) (hf := fl173) (f2 := f) (hf2 := hf) (hI := hI) (dj := by omega)) (S_Fl fl173) rfl (lv_Seen_48 rfl) rfl rfl rfl rfl rfl (fun h5 q5 => ?_)
  obtain ⟨fx5, q5⟩ := q5
  obtain ⟨hI, fr5, fc5⟩ := q5
  have fx := fx.tr fx5 (fun c i q => (by first | (dsimp only at q ⊢; omega) | omega))
  refine K_iconst (pc := 8) (i := 4) rfl ?_
  refine K_ist_n (pc := 9) (i := 5) (lo' := [(0, _), (1, _), (2, _)]) rfl rfl rfl rfl ?_
  have L10 : ∀ (n : Nat) (x2 : Int) (ha : kH), (4 - x2).toNat < n → (Gd g ha) → (Fx (fun c i => 173 ≤ c ∧ c ≤ 181) h ha) → (0 ≤ x2 ∧ x2 ≤ 4) → K X_Seen_countRows G (kZm G 11 (kQi (fun z h' => Fx (fun c i => 173 ≤ c ∧ c ≤ 181) h h' ∧ (Gd g h' ∧ kR z)))) 10 [(0, .ref (G.2.2.2 169)), (1, .ref (G.2.2.2 f)), (2, kI x2)] [] ha := by
    intro n
    induction n with
    | zero => intro x2 ha hm; exact absurd hm (Nat.not_lt_zero _)
    | succ n ih10 =>
      intro x2 ha hm10 hI fx hV10
      refine K_iload_n (pc := 10) (i := 6) rfl rfl ?_
      refine K_iconst (pc := 11) (i := 7) rfl ?_
      first | refine K_icmp_ge 36 (pc := 12) (i := 8) rfl rfl (by omega) (by omega) (fun b12 => ?_) (fun b12 => ?_) | refine K_icmp_ge_an 36 (pc := 12) (i := 8) rfl rfl (fun b12 => ?_) (fun b12 => ?_)
      · skip
        refine K_aload_n (pc := 36) (i := 21) rfl rfl ?_
        refine K_iconst (pc := 37) (i := 22) rfl ?_
        refine K_iconst (pc := 38) (i := 23) rfl ?_
        refine K_aload_n (pc := 39) (i := 24) rfl rfl ?_
        refine K_getI (pc := 40) (i := 25) (j := 6) rfl (S_Fl hf) rfl (by decide) rfl fw_Seen_52 ?_
        refine K_nm (fun v40 e40 => ?_)
        have r40 := rd_kites hI hf
        rw [← e40] at r40
        refine K_mmin (pc := 43) (i := 26) rfl mw_Seen_39 (by omega) (by omega) (Nat.le_of_ble_eq_true rfl) ⟨Nat.le_of_ble_eq_true rfl, Nat.le_of_ble_eq_true rfl⟩ ⟨Nat.le_of_ble_eq_true rfl, Nat.le_of_ble_eq_true rfl⟩ ?_
        refine K_nm (fun v43 e43 => ?_)
        refine K_cSI (pc := 46) (i := 27) rfl (c_Seen_rowsFrom0 G (x1 := 0) (x2 := v43) (hI := hI) (s1 := by omega) (s2 := by omega)) (ls_Seen_55 rfl) rfl rfl rfl rfl (fun v46 h46 q46 => ?_)
        obtain ⟨fx46, q46⟩ := q46
        obtain ⟨hI, r46⟩ := q46
        have fx := fx.tr fx46 (fun c i q => (by first | (dsimp only at q ⊢; omega) | omega))
        exact K_retI (pc := 49) (i := 28) rfl rfl ⟨fx, ⟨hI, by omega⟩⟩
      · skip
        refine K_aload_n (pc := 15) (i := 9) rfl rfl ?_
        refine K_getR (pc := 16) (i := 10) (j := 4) (d := 180) rfl S_169 rfl (by decide) rfl fw_Seen_29 ?_
        refine K_iload_n (pc := 19) (i := 11) rfl rfl ?_
        refine K_bipush (pc := 20) (i := 12) rfl rfl ?_
        refine K_iast (pc := 22) (i := 13) rfl S_180 (by omega) (by omega) (by decide) ?_
        have hI := st_free (c := 180) hI (by decide +kernel) (by decide) (i := (x2).toNat) (v := 9)
        have fx := Fx.st (c := 180) (i := (x2).toNat) (v := 9) fx (by first | (dsimp only; omega) | omega | exact not_false)
        refine K_aload_n (pc := 23) (i := 14) rfl rfl ?_
        refine K_getR (pc := 24) (i := 15) (j := 5) (d := 181) rfl S_169 rfl (by decide) rfl fw_Seen_32 ?_
        refine K_iload_n (pc := 27) (i := 16) rfl rfl ?_
        refine K_iconst (pc := 28) (i := 17) rfl ?_
        refine K_iast (pc := 29) (i := 18) rfl S_181 (by omega) (by omega) (by decide) ?_
        have hI := st_free (c := 181) hI (by decide +kernel) (by decide) (i := (x2).toNat) (v := 1)
        have fx := Fx.st (c := 181) (i := (x2).toNat) (v := 1) fx (by first | (dsimp only; omega) | omega | exact not_false)
        refine K_inc (pc := 30) (i := 19) (q := 2) (lo' := [(0, _), (1, _), (2, _)]) rfl rfl rfl rfl rfl ?_
        refine K_goto 10 (pc := 33) (i := 20) rfl rfl ?_
        exact ih10 (x2 + 1) _ (by omega) hI fx (by omega)
  exact L10 _ 0 _ (Nat.lt_succ_self _) hI fx (by omega)
end
section
/-! what the class's calls answer and do -/
/-- the act is remembered -/
def AR (h h' : kH) : Prop := (h' 23 1 = (h 23 1 + 1) % 16 ∧ h' 23 2 = min 16 (h 23 2 + 1)) ∧ FC h' (25 + 7 * (h 23 1).toNat) h 6 ∧ ∀ c, 25 ≤ c → c < 137 → c < 25 + 7 * (h 23 1).toNat ∨ 32 + 7 * (h 23 1).toNat ≤ c → h' c = h c
theorem AR.of {h h1 h2 : kH} (a : AR h h1) (hr : 0 ≤ h 23 1 ∧ h 23 1 ≤ 15) (e : ∀ c, 23 ≤ c → c < 137 → h2 c = h1 c) : AR h h2 := by
  obtain ⟨⟨a1, a2⟩, a3, a4⟩ := a
  exact ⟨⟨by rw [e 23 (by omega) (by omega)]; exact a1, by rw [e 23 (by omega) (by omega)]; exact a2⟩, a3.tr (FC.same (fun c q r => e c (by omega) (by omega))), fun c q r s => (e c (by omega) r).trans (a4 c q r s)⟩
theorem FA.of {h h1 h' : kH} {x1 x2 x3 x4 x5 : Int} (a : FA h1 h' 6 x1 x2 x3 x4 x5) (e : ∀ c, c < 23 → h1 c = h c) : FA h h' 6 x1 x2 x3 x4 x5 := by
  obtain ⟨a1, a2, a3, a4⟩ := a
  rw [e 6 (by omega)] at a1 a3
  refine ⟨a1, fun i c hi hc => ?_, a3, fun i => ?_⟩
  · rw [← e (6 + 1 + c) (by omega)]; exact a2 i c (by rw [e 6 (by omega)]; exact hi) hc
  · rw [← e (6 + 6) (by omega)]; exact a4 i
theorem FD.of {h h1 h' : kH} {p : Nat → Bool} (a : FD h1 h' 6 p) (e : ∀ c, c < 23 → h1 c = h c) : FD h h' 6 p := by
  obtain ⟨a1, a2, a3⟩ := a
  rw [e 6 (by omega)] at a1
  refine ⟨a1, fun i c hi hp hc => ?_, fun i => ?_⟩
  · rw [← e (6 + 1 + c) (by omega)]; exact a2 i c (by rw [e 6 (by omega)]; exact hi) hp hc
  · rw [← e (6 + 6) (by omega)]; exact a3 i
theorem BLW.of {h h1 h' : kH} {z : Int} (a : BLW h1 h' 3 z) (e : ∀ c, c < 23 → h1 c = h c) : BLW h h' 3 z := by
  obtain ⟨hx, ⟨a1, a2⟩, a3, a4, a5, a6⟩ := a
  have e4 := e (3 + 1) (by omega)
  have e6 := e (3 + 3) (by omega)
  have e7 := e (3 + 3 + 1) (by omega)
  have e9 := e (3 + 3 + 3) (by omega)
  have e10 := e (3 + 3 + 4) (by omega)
  have e12 := e (3 + 3 + 6) (by omega)
  have eb : ∀ k, blX h1 3 k = blX h 3 k := fun k => by unfold blX; rw [e9, e4, e10]
  rw [e6] at a2 a3 a4 a5 a6
  refine ⟨hx, ⟨fun c hc hn => (a1 c hc hn).trans (e c (by omega)), fun k hk => by rw [← eb]; exact a2 k hk⟩, a3, a4, a5, fun t ht => ?_⟩
  rw [a6 t ht, e12, e7]
theorem LF.of {h h1 h2 : kH} {x : Int} (a : LF h h1 x) (e : ∀ c, 6 ≤ c → c ≤ 12 → h2 c = h1 c) : LF h h2 x := by
  unfold LF
  rw [e 6 (by omega) (by omega), e 7 (by omega) (by omega), e 8 (by omega) (by omega), e 9 (by omega) (by omega), e 10 (by omega) (by omega), e 11 (by omega) (by omega), e 12 (by omega) (by omega)]
  exact a
def ktF (n : Int) (v : Nat → Nat → Int) (e : Nat → Int) (x y : Int) : Int := if 0 ≤ x ∧ x < n then (if 0 ≤ y ∧ y ≤ 4 then v x.toNat y.toNat else if y = 5 then e x.toNat else -2) else -1
section Kt
variable {n : Int} {v : Nat → Nat → Int} {e : Nat → Int} {x y z : Int}
theorem ktF_no (h : ¬ (0 ≤ x ∧ x < n)) (hz : z = -1) : z = ktF n v e x y := by unfold ktF; rw [if_neg h, hz]
theorem ktF_at (h : 0 ≤ x ∧ x < n) (h2 : 0 ≤ y ∧ y ≤ 4) (hz : z = v x.toNat y.toNat) : z = ktF n v e x y := by unfold ktF; rw [if_pos h, if_pos h2, hz]
theorem ktF_e (h : 0 ≤ x ∧ x < n) (h2 : y = 5) (hz : z = e x.toNat) : z = ktF n v e x y := by unfold ktF; rw [if_pos h, if_neg (by omega), if_pos h2, hz]
theorem ktF_o (h : 0 ≤ x ∧ x < n) (h2 : ¬ (0 ≤ y ∧ y ≤ 5)) (hz : z = -2) : z = ktF n v e x y := by unfold ktF; rw [if_pos h, if_neg (by omega), if_neg (by omega), hz]
end Kt
def CWwind (h h' : kH) (x w z : Int) : Prop :=
  ((1 ≤ x ∧ x ≤ 9 ∧ -3 ≤ w ∧ w ≤ 3) ∧ z = h 4 x.toNat + 3 ∧ ∀ j, h' 4 j = if j = x.toNat then w else h 4 j) ∨ (¬ (1 ≤ x ∧ x ≤ 9 ∧ -3 ≤ w ∧ w ≤ 3) ∧ z = -2 ∧ h' = h)
def CWrise (h h' : kH) (x n z : Int) : Prop :=
  (¬ (0 ≤ x ∧ x < h 6 6) ∧ z = -1 ∧ h' = h) ∨ ((0 ≤ x ∧ x < h 6 6) ∧ ¬ (-8 ≤ n ∧ n ≤ 8 ∧ 1 ≤ h 10 x.toNat + n ∧ h 10 x.toNat + n ≤ 9) ∧ z = -2 ∧ h' = h) ∨
  ((0 ≤ x ∧ x < h 6 6) ∧ (-8 ≤ n ∧ n ≤ 8 ∧ 1 ≤ h 10 x.toNat + n ∧ h 10 x.toNat + n ≤ 9) ∧ z = h 10 x.toNat + n ∧ AR h h' ∧ (∀ c, 6 ≤ c → c ≤ 12 → c ≠ 10 → h' c = h c) ∧ ∀ j, h' 10 j = if j = x.toNat then h 10 x.toNat + n else h 10 j)
def CWrun (h h' : kH) (x s z : Int) : Prop :=
  (¬ (0 ≤ x ∧ x < h 6 6) ∧ z = -1 ∧ h' = h) ∨ ((0 ≤ x ∧ x < h 6 6) ∧ ¬ (0 ≤ s ∧ s ≤ 40) ∧ z = -2 ∧ h' = h) ∨ ((0 ≤ x ∧ x < h 6 6) ∧ (0 ≤ s ∧ s ≤ 40) ∧ hsF h 6 s ∧ z = -3 ∧ h' = h) ∨
  ((0 ≤ x ∧ x < h 6 6) ∧ (0 ≤ s ∧ s ≤ 40) ∧ ¬ hsF h 6 s ∧ z = kAbs (s - h 8 x.toNat) ∧ AR h h' ∧ (∀ c, 6 ≤ c → c ≤ 12 → c ≠ 8 → h' c = h c) ∧ ∀ j, h' 8 j = if j = x.toNat then s else h 8 j)
def CWlaunch (h h' : kH) (t s e gl z : Int) : Prop :=
  (¬ ((0 ≤ t ∧ t ≤ 1) ∧ (0 ≤ s ∧ s ≤ 40) ∧ (1 ≤ e ∧ e ≤ 9) ∧ 0 ≤ gl ∧ gl ≤ 9) ∧ z = -2 ∧ h' = h) ∨ (((0 ≤ t ∧ t ≤ 1) ∧ (0 ≤ s ∧ s ≤ 40) ∧ (1 ≤ e ∧ e ≤ 9) ∧ 0 ≤ gl ∧ gl ≤ 9) ∧ hsF h 6 s ∧ z = -3 ∧ h' = h) ∨
  (((0 ≤ t ∧ t ≤ 1) ∧ (0 ≤ s ∧ s ≤ 40) ∧ (1 ≤ e ∧ e ≤ 9) ∧ 0 ≤ gl ∧ gl ≤ 9) ∧ ¬ hsF h 6 s ∧ 8 ≤ h 6 6 ∧ z = -4 ∧ h' = h) ∨
  (((0 ≤ t ∧ t ≤ 1) ∧ (0 ≤ s ∧ s ≤ 40) ∧ (1 ≤ e ∧ e ≤ 9) ∧ 0 ≤ gl ∧ gl ≤ 9) ∧ ¬ hsF h 6 s ∧ h 6 6 < 8 ∧ z = h 6 6 ∧ AR h h' ∧ FA h h' 6 t s s e gl)
def CWtakeIn (h h' : kH) (x z : Int) : Prop := (¬ (0 ≤ x ∧ x < h 6 6) ∧ z = -1 ∧ h' = h) ∨ ((0 ≤ x ∧ x < h 6 6) ∧ z = h' 6 6 ∧ AR h h' ∧ FD h h' 6 (pB (kShl 1 x)))
def CWgust (h h' : kH) (z : Int) : Prop := kR z ∧ AR h h' ∧ BLW h h' 3 z
def CWundo (h h' : kH) (z : Int) : Prop := (h 23 2 = 0 ∧ z = -3 ∧ h' = h) ∨ (h 23 2 ≠ 0 ∧ z = h 23 2 - 1 ∧ h' 23 1 = (h 23 1 + 15) % 16 ∧ h' 23 2 = h 23 2 - 1 ∧ FC h' 6 h (25 + 7 * ((h 23 1 + 15) % 16).toNat))
def CWwar (h h' : kH) (z : Int) : Prop := ∃ fl : Int, FaultIs (h 2) (h 1 1) fl ∧ ((fl ≠ -9 ∧ z = -3 ∧ h' = h) ∨ (fl = -9 ∧ z = h' 6 6 ∧ LW h h' 10 ∧ LF h h' ((h 1 1 - 10) / 8) ∧ h' 23 2 = 0 ∧ ∀ s : Nat, s < 2 → h' (138 + 11 * s) 1 = 0))
def CWkeep (h h' : kH) (x z : Int) : Prop := (¬ (0 ≤ x ∧ x ≤ 1) ∧ z = -1 ∧ h' = h) ∨
  ((0 ≤ x ∧ x ≤ 1) ∧ z = h 6 6 ∧ h' (138 + 11 * x.toNat) 1 = 1 ∧ FC h' (142 + 11 * x.toNat) h 6 ∧ (∀ i, i < 10 → h' (140 + 11 * x.toNat) i = h 4 i) ∧ ∀ c, c < 138 + 11 * x.toNat ∨ 149 + 11 * x.toNat ≤ c → h' c = h c)
def CWagain (h h' : kH) (x z : Int) : Prop := (¬ (0 ≤ x ∧ x ≤ 1) ∧ z = -1 ∧ h' = h) ∨ ((0 ≤ x ∧ x ≤ 1) ∧ h (138 + 11 * x.toNat) 1 = 0 ∧ z = -3 ∧ h' = h) ∨
  ((0 ≤ x ∧ x ≤ 1) ∧ h (138 + 11 * x.toNat) 1 ≠ 0 ∧ z = h' 6 6 ∧ FC h' 6 h (142 + 11 * x.toNat) ∧ (∀ i, h' 4 i = if i < 10 then h (140 + 11 * x.toNat) i else h 4 i) ∧ h' 23 2 = 0 ∧ h' 23 1 = h 23 1)
def CWsee (h h' : kH) (x y b z : Int) : Prop := (¬ ((0 ≤ x ∧ x < h 6 6 ∧ x < 4) ∧ (0 ≤ y ∧ y < h 6 6 ∧ y < 4)) ∧ z = -1 ∧ h' = h) ∨ (((0 ≤ x ∧ x < h 6 6 ∧ x < 4) ∧ (0 ≤ y ∧ y < h 6 6 ∧ y < 4)) ∧ x = y ∧ z = -2 ∧ h' = h) ∨ (((0 ≤ x ∧ x < h 6 6 ∧ x < 4) ∧ (0 ≤ y ∧ y < h 6 6 ∧ y < 4)) ∧ x ≠ y ∧ 8 ≤ h 169 6 ∧ z = -4 ∧ h' = h) ∨
  (((0 ≤ x ∧ x < h 6 6 ∧ x < 4) ∧ (0 ≤ y ∧ y < h 6 6 ∧ y < 4)) ∧ x ≠ y ∧ h 169 6 < 8 ∧ z = h 169 6 + 1 ∧ h' 169 6 = h 169 6 + 1 ∧ (∀ j, h' 170 j = if j = (h 169 6).toNat then min x y else h 170 j) ∧ (∀ j, h' 171 j = if j = (h 169 6).toNat then max x y else h 171 j) ∧ ∀ j, h' 172 j = if j = (h 169 6).toNat then b else h 172 j)
def ctF (l n c w0 w1 a s x : Int) : Int := if x = 0 then l else if x = 1 then n else if x = 2 then c else if x = 3 then w0 else if x = 4 then w1 else if x = 5 then a else if x = 6 then s else -2
def CWcross (h : kH) (x y z : Int) : Prop :=
  (¬ ((0 ≤ x ∧ x < h 6 6) ∧ 0 ≤ y ∧ y < h 6 6) ∧ z = -1) ∨ (((0 ≤ x ∧ x < h 6 6) ∧ 0 ≤ y ∧ y < h 6 6) ∧ x = y ∧ z = -2) ∨
  (((0 ≤ x ∧ x < h 6 6) ∧ 0 ≤ y ∧ y < h 6 6) ∧ x ≠ y ∧ ((z = 1 ∧ mt h 6 x.toNat y.toNat) ∨ (z = 0 ∧ ¬ mt h 6 x.toNat y.toNat)))
/-- a wind by the seed -/
theorem shr33 (x c : UInt64) (hc : (c.toBitVec % 64).toNat = 33) : ∃ n : Nat, n < 2147483648 ∧ (x >>> c).toInt64 = lN n := by
  have hx : x.toBitVec.toNat < 18446744073709551616 := x.toBitVec.isLt
  have hd : x.toBitVec.toNat / 8589934592 < 2147483648 := by omega
  refine ⟨x.toBitVec.toNat / 8589934592, hd, ?_⟩
  apply Int64.toBitVec_inj.mp
  apply BitVec.eq_of_toNat_eq
  show (x.toBitVec >>> (c.toBitVec % 64).toNat).toNat = (BitVec.ofNat 64 _).toNat
  rw [hc, BitVec.toNat_ushiftRight, Nat.shiftRight_eq_div_pow, BitVec.toNat_ofNat, Nat.mod_eq_of_lt (by omega)]
theorem wd7 (a : Int) : 0 ≤ kL2i (kLrem (kLushr a 33) 7) ∧ kL2i (kLrem (kLushr a 33) 7) ≤ 6 := by
  unfold kL2i kLrem kLushr
  obtain ⟨n, hn, e⟩ := shr33 (Int64.ofInt a).toUInt64 ((Int32.ofInt 33).toInt64.toUInt64 &&& Int64.toUInt64 63) (by decide +kernel)
  rw [e, Int64.ofInt_toInt, Int64.ofInt_toInt, show Int64.ofInt 7 = lN 7 by decide, pk_lRem (by omega) (by omega) (by omega), lN_i, nI_toInt (by omega)]
  omega
end
section
/-! the best of what is looked at one behind another -/
def TLR (P : Nat → Int → Prop) (fr : Nat → Prop) (m0 p0 : Int) : Nat → Int → Int → Prop
  | 0, m, p => m = m0 ∧ p = p0
  | c + 1, m, p => ∃ m1 p1 : Int, TLR P fr m0 p0 c m1 p1 ∧ ((¬ fr (c / 9) ∧ m = m1 ∧ p = p1) ∨ (fr (c / 9) ∧ ∃ v : Int, P c v ∧ ((m1 < v ∧ m = v ∧ p = 10 * ((c / 9 : Nat) : Int) + (((c % 9 : Nat) : Int) + 1)) ∨ (v ≤ m1 ∧ m = m1 ∧ p = p1))))
section Tl
variable {P P' : Nat → Int → Prop} {fr fr' : Nat → Prop} {m0 p0 m0' p0' : Int}
theorem TLR.no {c : Nat} {m p : Int} (a : TLR P fr m0 p0 c m p) (h : ¬ fr (c / 9)) : TLR P fr m0 p0 (c + 1) m p := ⟨m, p, a, Or.inl ⟨h, rfl, rfl⟩⟩
theorem TLR.skip {s : Nat} {m p : Int} (h : ¬ fr s) (a : TLR P fr m0 p0 (9 * s) m p) : TLR P fr m0 p0 (9 * s + 9) m p := by
  have key : ∀ j, j ≤ 9 → TLR P fr m0 p0 (9 * s + j) m p := by
    intro j
    induction j with
    | zero => intro _; exact a
    | succ j ih =>
      intro hj
      have e : (9 * s + j) / 9 = s := by omega
      exact (ih (by omega)).no (by rw [e]; exact h)
  exact key 9 (Nat.le_refl 9)
theorem TLR.skip2 {s j : Nat} {m p : Int} (h : ¬ fr s) (hj : j ≤ 9) (a : TLR P fr m0 p0 (9 * s + j) m p) : TLR P fr m0 p0 (9 * s + 9) m p := by
  have key : ∀ i, j + i ≤ 9 → TLR P fr m0 p0 (9 * s + (j + i)) m p := by
    intro i
    induction i with
    | zero => intro _; exact a
    | succ i ih =>
      intro hi
      have e : (9 * s + (j + i)) / 9 = s := by omega
      exact (ih (by omega)).no (by rw [e]; exact h)
  have := key (9 - j) (by omega)
  rwa [show j + (9 - j) = 9 by omega] at this
theorem TLR.gt {c : Nat} {m p v q : Int} (a : TLR P fr m0 p0 c m p) (h : fr (c / 9)) (hp : P c v) (hv : m < v) (hq : q = 10 * ((c / 9 : Nat) : Int) + (((c % 9 : Nat) : Int) + 1)) : TLR P fr m0 p0 (c + 1) v q := ⟨m, p, a, Or.inr ⟨h, v, hp, Or.inl ⟨hv, rfl, hq⟩⟩⟩
theorem TLR.le {c : Nat} {m p v : Int} (a : TLR P fr m0 p0 c m p) (h : fr (c / 9)) (hp : P c v) (hv : v ≤ m) : TLR P fr m0 p0 (c + 1) m p := ⟨m, p, a, Or.inr ⟨h, v, hp, Or.inr ⟨hv, rfl, rfl⟩⟩⟩
theorem TLR.rel {N : Nat} (hP : ∀ c v v', c < N → fr (c / 9) → P c v → P' c v' → v = v' ∧ -90 ≤ v) (hf : ∀ s, fr s ↔ fr' s) (h0 : m0 < -90) (h0' : m0' < -90) : ∀ {c : Nat} {m p m' p' : Int}, c ≤ N → TLR P fr m0 p0 c m p → TLR P' fr' m0' p0' c m' p' →
    (m = m' ∧ p = p' ∧ -90 ≤ m) ∨ (m = m0 ∧ m' = m0' ∧ ∀ j, j < c → ¬ fr (j / 9)) := by
  intro c
  induction c with
  | zero =>
    intro m p m' p' _ a b
    exact Or.inr ⟨a.1, b.1, fun j hj => absurd hj (by omega)⟩
  | succ c ih =>
    intro m p m' p' hc a b
    obtain ⟨m1, p1, a1, a2⟩ := a
    obtain ⟨m2, p2, b1, b2⟩ := b
    have i := ih (by omega) a1 b1
    rcases a2 with ⟨a3, a4, a5⟩ | ⟨a3, v, a4, a5⟩ <;> rcases b2 with ⟨b3, b4, b5⟩ | ⟨b3, v', b4, b5⟩
    · rw [a4, a5, b4, b5]
      rcases i with i | i
      · exact Or.inl i
      · refine Or.inr ⟨i.1, i.2.1, fun j hj => ?_⟩
        by_cases e : j = c
        · rw [e]; exact a3
        · exact i.2.2 j (by omega)
    · exact absurd ((hf _).2 b3) a3
    · exact absurd ((hf _).1 a3) b3
    · obtain ⟨ev, hv⟩ := hP c v v' (by omega) a3 a4 b4
      subst ev
      rcases i with ⟨i1, i2, i3⟩ | ⟨i1, i2, i3⟩
      · subst i1; subst i2
        rcases a5 with ⟨a5, a6, a7⟩ | ⟨a5, a6, a7⟩ <;> rcases b5 with ⟨b5, b6, b7⟩ | ⟨b5, b6, b7⟩
        · exact Or.inl ⟨by rw [a6, b6], by rw [a7, b7], by omega⟩
        · omega
        · omega
        · exact Or.inl ⟨by rw [a6, b6], by rw [a7, b7], by omega⟩
      · rcases a5 with ⟨a5, a6, a7⟩ | ⟨a5, a6, a7⟩ <;> rcases b5 with ⟨b5, b6, b7⟩ | ⟨b5, b6, b7⟩
        · exact Or.inl ⟨by rw [a6, b6], by rw [a7, b7], by omega⟩
        · omega
        · omega
        · omega
end Tl
/-- a stake that none has -/
def tot (f : Nat → Int) (n : Nat) : Nat → Int
  | 0 => 0
  | s + 1 => tot f n s + cnt f s n
theorem tot_0 (f : Nat → Int) : ∀ s, tot f 0 s = 0 := by
  intro s
  induction s with
  | zero => rfl
  | succ s ih => rw [tot, ih]; rfl
theorem tot_s (f : Nat → Int) (n : Nat) : ∀ s : Nat, tot f (n + 1) s = tot f n s + (if 0 ≤ f n ∧ f n < s then 1 else 0) := by
  intro s
  induction s with
  | zero => rw [tot, tot, if_neg (by omega)]; rfl
  | succ s ih =>
    rw [tot, tot, ih, cnt]
    by_cases h1 : f n = s
    · rw [if_pos h1, if_neg (by omega), if_pos (by omega)]; omega
    · rw [if_neg h1]
      by_cases h2 : 0 ≤ f n ∧ f n < s
      · rw [if_pos h2, if_pos (by omega)]; omega
      · rw [if_neg h2, if_neg (by omega)]; omega
theorem tot_le (f : Nat → Int) : ∀ n s, tot f n s ≤ n := by
  intro n
  induction n with
  | zero => intro s; rw [tot_0]; exact Int.le_refl 0
  | succ n ih =>
    intro s
    have := ih s
    rw [tot_s]
    split <;> omega
theorem tot_ge (f : Nat → Int) (n : Nat) : ∀ s : Nat, (∀ j, j < s → ∃ i, i < n ∧ f i = j) → (s : Int) ≤ tot f n s := by
  intro s
  induction s with
  | zero => intro _; exact Int.le_refl 0
  | succ s ih =>
    intro h
    have h1 := ih (fun j hj => h j (by omega))
    obtain ⟨i, hi, e⟩ := h s (by omega)
    have pos : ∀ m : Nat, i < m → 1 ≤ cnt f s m := by
      intro m
      induction m with
      | zero => intro q; omega
      | succ m ihm =>
        intro q
        rw [cnt]
        have c0 := cnt_le f s m
        by_cases q2 : i = m
        · rw [← q2, if_pos e]; rw [← q2] at c0; omega
        · have := ihm (by omega)
          split <;> omega
    have := pos n hi
    rw [tot]
    omega
theorem free_ex (f : Nat → Int) (n : Nat) : ∃ s, s ≤ n ∧ ∀ i, i < n → f i ≠ (s : Nat) := by
  apply Classical.byContradiction
  intro hno
  have : ∀ j, j < n + 1 → ∃ i, i < n ∧ f i = (j : Nat) := fun j hj => by
    apply Classical.byContradiction
    intro q
    exact hno ⟨j, by omega, fun i hi e => q ⟨i, hi, e⟩⟩
  have h1 := tot_ge f n (n + 1) this
  have h2 := tot_le f n (n + 1)
  omega
end
