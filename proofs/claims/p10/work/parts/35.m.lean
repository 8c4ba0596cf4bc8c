set_option maxHeartbeats 4000000 in
set_option maxRecDepth 100000 in
theorem c_Model_add (G : kG) {g : kGh} {h : kH} {x1 : Int} {x2 : Int} {x3 : Int} {x4 : Int} (s1 : 0 ≤ x1 ∧ x1 ≤ 1) (s2 : 0 ≤ x2 ∧ x2 ≤ 40) (s3 : 1 ≤ x3 ∧ x3 ≤ 9) (s4 : 0 ≤ x4 ∧ x4 ≤ 9) (hm : h 184 4 ≤ 7) (hf : ¬ hsM h x2) (hI : Gd g h) : Ctr G y_Model_add X_Model_add 1 [.ref (G.2.2.2 184), kI x1, kI x2, kI x3, kI x4] h (kQv (fun h' => Fx (fun c i => c = 187 ∨ (c = 184 ∧ i = 4)) h h' ∧ (Gd g h' ∧ h' 184 4 = h 184 4 + 1 ∧ AK (h 187) (h' 187) (h 184 4).toNat x1 x2 x3 x4))) := by
  refine Ctr.ofK (by decide) rfl T_Model_add (Nat.le_of_ble_eq_true rfl) (lo := [(0, .ref (G.2.2.2 184)), (1, kI x1), (2, kI x2), (3, kI x3), (4, kI x4)]) rfl ?_
  have fx : Fx (fun c i => c = 187 ∨ (c = 184 ∧ i = 4)) h h := Fx.rf
  obtain ⟨m, em⟩ : ∃ m : Nat, h 184 4 = m := Int.eq_ofNat_of_zero_le (rd_many hI).1
  have hG := hI
  have hI := hI.nf
  refine K_iconst (pc := 0) (i := 0) rfl ?_
  refine K_aload_n (pc := 1) (i := 1) rfl rfl ?_
  refine K_getI (pc := 2) (i := 2) (j := 4) rfl S_184 rfl (by decide) rfl fw_Model_59 ?_
  refine K_nm (fun v2 e2 => ?_)
  have r2 := rd_many hI
  rw [← e2] at r2
  have t2 : v2 = m := by rw [e2, em]
  refine K_imul (pc := 5) (i := 3) rfl ?_
  refine K_ist (pc := 6) (i := 4) (lo' := [(0, _), (1, _), (2, _), (3, _), (4, _), (5, _)]) rfl rfl rfl rfl ?_
  refine K_aload_n (pc := 8) (i := 5) rfl rfl ?_
  refine K_getR (pc := 9) (i := 6) (j := 3) (d := 187) rfl S_184 rfl (by decide) rfl fw_Model_16 ?_
  refine K_iload (pc := 12) (i := 7) rfl rfl ?_
  refine K_iload_n (pc := 14) (i := 8) rfl rfl ?_
  refine K_iast (pc := 15) (i := 9) rfl S_187 (by omega) (by omega) (by decide) ?_
  have hI := st_mkites hI (i := (5 * v2).toNat) (v := x1) (by unfold bK; omega) (fun e _ => False.elim e)
  have fx := Fx.st (c := 187) (i := (5 * v2).toNat) (v := x1) fx (by first | (dsimp only; omega) | omega | exact not_false)
  refine K_aload_n (pc := 16) (i := 10) rfl rfl ?_
  refine K_getR (pc := 17) (i := 11) (j := 3) (d := 187) rfl S_184 rfl (by decide) rfl fw_Model_16 ?_
  refine K_iload (pc := 20) (i := 12) rfl rfl ?_
  refine K_iconst (pc := 22) (i := 13) rfl ?_
  refine K_iadd (pc := 23) (i := 14) rfl ?_
  refine K_iload_n (pc := 24) (i := 15) rfl rfl ?_
  refine K_iast (pc := 25) (i := 16) rfl S_187 (by omega) (by omega) (by decide) ?_
  have hI := st_mkites hI (i := ((5 * v2) + 1).toNat) (v := x2) (by unfold bK; omega) (fun e _ => False.elim e)
  have fx := Fx.st (c := 187) (i := ((5 * v2) + 1).toNat) (v := x2) fx (by first | (dsimp only; omega) | omega | exact not_false)
  refine K_aload_n (pc := 26) (i := 17) rfl rfl ?_
  refine K_getR (pc := 27) (i := 18) (j := 3) (d := 187) rfl S_184 rfl (by decide) rfl fw_Model_16 ?_
  refine K_iload (pc := 30) (i := 19) rfl rfl ?_
  refine K_iconst (pc := 32) (i := 20) rfl ?_
  refine K_iadd (pc := 33) (i := 21) rfl ?_
  refine K_iload_n (pc := 34) (i := 22) rfl rfl ?_
  refine K_iast (pc := 35) (i := 23) rfl S_187 (by omega) (by omega) (by decide) ?_
  have hI := st_mkites hI (i := ((5 * v2) + 2).toNat) (v := x2) (by unfold bK; omega) (fun e _ => False.elim e)
  have fx := Fx.st (c := 187) (i := ((5 * v2) + 2).toNat) (v := x2) fx (by first | (dsimp only; omega) | omega | exact not_false)
  refine K_aload_n (pc := 36) (i := 24) rfl rfl ?_
  refine K_getR (pc := 37) (i := 25) (j := 3) (d := 187) rfl S_184 rfl (by decide) rfl fw_Model_16 ?_
  refine K_iload (pc := 40) (i := 26) rfl rfl ?_
  refine K_iconst (pc := 42) (i := 27) rfl ?_
  refine K_iadd (pc := 43) (i := 28) rfl ?_
  refine K_iload_n (pc := 44) (i := 29) rfl rfl ?_
  refine K_iast (pc := 45) (i := 30) rfl S_187 (by omega) (by omega) (by decide) ?_
  have hI := st_mkites hI (i := ((5 * v2) + 3).toNat) (v := x3) (by unfold bK; omega) (fun e _ => False.elim e)
  have fx := Fx.st (c := 187) (i := ((5 * v2) + 3).toNat) (v := x3) fx (by first | (dsimp only; omega) | omega | exact not_false)
  refine K_aload_n (pc := 46) (i := 31) rfl rfl ?_
  refine K_getR (pc := 47) (i := 32) (j := 3) (d := 187) rfl S_184 rfl (by decide) rfl fw_Model_16 ?_
  refine K_iload (pc := 50) (i := 33) rfl rfl ?_
  refine K_iconst (pc := 52) (i := 34) rfl ?_
  refine K_iadd (pc := 53) (i := 35) rfl ?_
  refine K_iload (pc := 54) (i := 36) rfl rfl ?_
  refine K_iast (pc := 56) (i := 37) rfl S_187 (by omega) (by omega) (by decide) ?_
  have hI := st_mkites hI (i := ((5 * v2) + 4).toNat) (v := x4) (by unfold bK; omega) (fun e _ => False.elim e)
  have fx := Fx.st (c := 187) (i := ((5 * v2) + 4).toNat) (v := x4) fx (by first | (dsimp only; omega) | omega | exact not_false)
  refine K_aload_n (pc := 57) (i := 38) rfl rfl ?_
  refine K_dup (pc := 58) (i := 39) rfl rfl ?_
  refine K_getI (pc := 59) (i := 40) (j := 4) rfl S_184 rfl (by decide) rfl fw_Model_59 ?_
  refine K_nm (fun v59 e59 => ?_)
  have r59 := rd_many hI
  rw [← e59] at r59
  have t59 : v59 = m := by rw [e59]; simp only [kU_c _ _ _ _ (show (184 : Nat) ≠ 187 by decide)]; exact em
  refine K_iconst (pc := 62) (i := 41) rfl ?_
  refine K_iadd (pc := 63) (i := 42) rfl ?_
  refine K_putI (pc := 64) (i := 43) (j := 4) rfl S_184 rfl (by decide) rfl rfl rfl fw_Model_59 ?_
  have hI := st_many hI (v := v59 + 1) (by omega) (fun e _ => False.elim e)
  have fx := Fx.st (c := 184) (i := 4) (v := v59 + 1) fx (by first | (dsimp only; omega) | omega | exact not_false)
  exact K_retV (pc := 67) (i := 44) rfl rfl ⟨fx, (by
    have i0 : (5 * v2).toNat = 5 * m := by omega
    have i1 : ((5 * v2) + 1).toNat = 5 * m + 1 := by omega
    have i2 : ((5 * v2) + 2).toNat = 5 * m + 2 := by omega
    have i3 : ((5 * v2) + 3).toNat = 5 * m + 3 := by omega
    have i4 : ((5 * v2) + 4).toNat = 5 * m + 4 := by omega
    have VM : (kU (kU (kU (kU (kU (kU h 187 ((5 * v2).toNat) x1) 187 (((5 * v2) + 1).toNat) x2) 187 (((5 * v2) + 2).toNat) x2) 187 (((5 * v2) + 3).toNat) x3) 187 (((5 * v2) + 4).toNat) x4) 184 4 (v59 + 1)) 184 4 = h 184 4 + 1 := by rw [kU_at, if_pos ⟨rfl, rfl⟩]; omega
    have VC : ∀ c, c ≠ 184 → c ≠ 187 → (kU (kU (kU (kU (kU (kU h 187 ((5 * v2).toNat) x1) 187 (((5 * v2) + 1).toNat) x2) 187 (((5 * v2) + 2).toNat) x2) 187 (((5 * v2) + 3).toNat) x3) 187 (((5 * v2) + 4).toNat) x4) 184 4 (v59 + 1)) c = h c := fun c h1 h2 => by simp only [kU_c _ _ _ _ h1, kU_c _ _ _ _ h2]
    have VK : AK (h 187) ((kU (kU (kU (kU (kU (kU h 187 ((5 * v2).toNat) x1) 187 (((5 * v2) + 1).toNat) x2) 187 (((5 * v2) + 2).toNat) x2) 187 (((5 * v2) + 3).toNat) x3) 187 (((5 * v2) + 4).toNat) x4) 184 4 (v59 + 1)) 187) m x1 x2 x3 x4 := by
      rw [i0, i1, i2, i3, i4]
      refine ⟨fun j hj => ?_, ?_, ?_, ?_, ?_, ?_⟩
      · rw [kU_at, if_neg (by omega), kU_at, if_neg (by omega), kU_at, if_neg (by omega), kU_at, if_neg (by omega), kU_at, if_neg (by omega), kU_at, if_neg (by omega)]
      · rw [kU_at, if_neg (by omega), kU_at, if_neg (by omega), kU_at, if_neg (by omega), kU_at, if_neg (by omega), kU_at, if_neg (by omega), kU_at, if_pos ⟨rfl, rfl⟩]
      · rw [kU_at, if_neg (by omega), kU_at, if_neg (by omega), kU_at, if_neg (by omega), kU_at, if_neg (by omega), kU_at, if_pos ⟨rfl, rfl⟩]
      · rw [kU_at, if_neg (by omega), kU_at, if_neg (by omega), kU_at, if_neg (by omega), kU_at, if_pos ⟨rfl, rfl⟩]
      · rw [kU_at, if_neg (by omega), kU_at, if_neg (by omega), kU_at, if_pos ⟨rfl, rfl⟩]
      · rw [kU_at, if_neg (by omega), kU_at, if_pos ⟨rfl, rfl⟩]
    refine ⟨Gd.fn hI (fun e => ?_), VM, by rw [em]; exact VK⟩
    have b := hG.2.2.2.2.2 e
    obtain ⟨k0, k1, k2, k3, k4, k5⟩ := VK
    unfold MOk
    rw [VM, VC 191 (by decide) (by decide), VC 200 (by decide) (by decide)]
    exact ⟨FK.add (m := m) b.1 em k0 (by rw [k2]; omega) (by rw [k3]; omega) (by rw [k4]; omega) (fun i hi e => hf ⟨i, by omega, by rw [← k2]; exact e⟩), b.2.1, b.2.2⟩)⟩
set_option maxHeartbeats 4000000 in
set_option maxRecDepth 100000 in
theorem c_Model_launch (G : kG) {g : kGh} {h : kH}  (hT : g.2.2.2.2){x1 : Int} {x2 : Int} {x3 : Int} {x4 : Int} (s1 : kR x1) (s2 : kR x2) (s3 : kR x3) (s4 : kR x4) (hI : Gd g h) : Ctr G y_Model_launch X_Model_launch 13 [.ref (G.2.2.2 184), kI x1, kI x2, kI x3, kI x4] h (kQi (fun z h' => Fx (fun c i => c = 187 ∨ c = 191 ∨ (c = 184 ∧ (i = 4 ∨ i = 11 ∨ i = 12))) h h' ∧ (Gd g h' ∧ CMlaunch h h' x1 x2 x3 x4 z))) := by
  refine Ctr.ofK (by decide) rfl T_Model_launch (Nat.le_of_ble_eq_true rfl) (lo := [(0, .ref (G.2.2.2 184)), (1, kI x1), (2, kI x2), (3, kI x3), (4, kI x4)]) rfl ?_
  have fx : Fx (fun c i => c = 187 ∨ c = 191 ∨ (c = 184 ∧ (i = 4 ∨ i = 11 ∨ i = 12))) h h := Fx.rf
  have hk := (hI.2.2.2.2.2 hT).1
  have hm8 := rd_many hI
  refine K_iload_n (pc := 0) (i := 0) rfl rfl ?_
  refine K_i2l (pc := 1) (i := 1) rfl ?_
  refine K_eqJ (kI2l_eq (a := x1) (by omega)) ?_
  refine K_lconst 0 (pc := 2) (i := 2) rfl rfl ?_
  refine K_lconst 1 (pc := 3) (i := 3) rfl rfl ?_
  refine K_cSI (pc := 4) (i := 4) rfl (c_Model_in G (l0 := x1) (l2 := 0) (l4 := 1) (s0 := by omega) (s2 := by omega) (s4 := by omega)) (ls_Model_65 rfl) rfl rfl rfl rfl (fun v4 h4 q4 => ?_)
  obtain ⟨eh, r4⟩ := q4
  rw [eh]; clear eh
  first | refine K_if_eq 47 (pc := 7) (i := 5) rfl rfl (by omega) (fun b7 => ?_) (fun b7 => ?_) | refine K_if_eq_an 47 (pc := 7) (i := 5) rfl rfl (fun b7 => ?_) (fun b7 => ?_)
  · skip
    refine K_bipush (pc := 47) (i := 24) rfl rfl ?_
    exact K_retI (pc := 49) (i := 25) rfl rfl ⟨fx, ⟨hI, Or.inl ⟨by omega, rfl, rfl⟩⟩⟩
  · skip
    refine K_iload_n (pc := 10) (i := 6) rfl rfl ?_
    refine K_i2l (pc := 11) (i := 7) rfl ?_
    refine K_eqJ (kI2l_eq (a := x2) (by omega)) ?_
    refine K_lconst 0 (pc := 12) (i := 8) rfl rfl ?_
    refine K_ldc2 (40) (pc := 13) (i := 9) rfl cl_Model_124 (by decide) ?_
    refine K_cSI (pc := 16) (i := 10) rfl (c_Model_in G (l0 := x2) (l2 := 0) (l4 := 40) (s0 := by omega) (s2 := by omega) (s4 := by omega)) (ls_Model_65 rfl) rfl rfl rfl rfl (fun v16 h16 q16 => ?_)
    obtain ⟨eh, r16⟩ := q16
    rw [eh]; clear eh
    first | refine K_if_eq 47 (pc := 19) (i := 11) rfl rfl (by omega) (fun b19 => ?_) (fun b19 => ?_) | refine K_if_eq_an 47 (pc := 19) (i := 11) rfl rfl (fun b19 => ?_) (fun b19 => ?_)
    · skip
      refine K_bipush (pc := 47) (i := 24) rfl rfl ?_
      exact K_retI (pc := 49) (i := 25) rfl rfl ⟨fx, ⟨hI, Or.inl ⟨by omega, rfl, rfl⟩⟩⟩
    · skip
      refine K_iload_n (pc := 22) (i := 12) rfl rfl ?_
      refine K_i2l (pc := 23) (i := 13) rfl ?_
      refine K_eqJ (kI2l_eq (a := x3) (by omega)) ?_
      refine K_lconst 1 (pc := 24) (i := 14) rfl rfl ?_
      refine K_ldc2 (9) (pc := 25) (i := 15) rfl cl_Model_80 (by decide) ?_
      refine K_cSI (pc := 28) (i := 16) rfl (c_Model_in G (l0 := x3) (l2 := 1) (l4 := 9) (s0 := by omega) (s2 := by omega) (s4 := by omega)) (ls_Model_65 rfl) rfl rfl rfl rfl (fun v28 h28 q28 => ?_)
      obtain ⟨eh, r28⟩ := q28
      rw [eh]; clear eh
      first | refine K_if_eq 47 (pc := 31) (i := 17) rfl rfl (by omega) (fun b31 => ?_) (fun b31 => ?_) | refine K_if_eq_an 47 (pc := 31) (i := 17) rfl rfl (fun b31 => ?_) (fun b31 => ?_)
      · skip
        refine K_bipush (pc := 47) (i := 24) rfl rfl ?_
        exact K_retI (pc := 49) (i := 25) rfl rfl ⟨fx, ⟨hI, Or.inl ⟨by omega, rfl, rfl⟩⟩⟩
      · skip
        refine K_iload (pc := 34) (i := 18) rfl rfl ?_
        refine K_i2l (pc := 36) (i := 19) rfl ?_
        refine K_eqJ (kI2l_eq (a := x4) (by omega)) ?_
        refine K_lconst 0 (pc := 37) (i := 20) rfl rfl ?_
        refine K_ldc2 (9) (pc := 38) (i := 21) rfl cl_Model_80 (by decide) ?_
        refine K_cSI (pc := 41) (i := 22) rfl (c_Model_in G (l0 := x4) (l2 := 0) (l4 := 9) (s0 := by omega) (s2 := by omega) (s4 := by omega)) (ls_Model_65 rfl) rfl rfl rfl rfl (fun v41 h41 q41 => ?_)
        obtain ⟨eh, r41⟩ := q41
        rw [eh]; clear eh
        first | refine K_if_ne 50 (pc := 44) (i := 23) rfl rfl (by omega) (fun b44 => ?_) (fun b44 => ?_) | refine K_if_ne_an 50 (pc := 44) (i := 23) rfl rfl (fun b44 => ?_) (fun b44 => ?_)
        · skip
          refine K_aload_n (pc := 50) (i := 26) rfl rfl ?_
          refine K_iload_n (pc := 51) (i := 27) rfl rfl ?_
          refine K_cVI (pc := 52) (i := 28) rfl (c_Model_isStake G (x1 := x2) (hk := hk) (hI := hI) (s1 := by omega)) S_184 rfl (lv_Model_126 rfl) rfl rfl rfl rfl rfl (fun v52 h52 q52 => ?_)
          obtain ⟨eh, r52⟩ := q52
          rw [eh]; clear eh
          have k52 : v52 = 0 ∨ v52 = 1 := r52.elim (fun q => Or.inr q.1) (fun q => Or.inl q.1)
          first | refine K_if_eq 61 (pc := 55) (i := 29) rfl rfl (by omega) (fun b55 => ?_) (fun b55 => ?_) | refine K_if_eq_an 61 (pc := 55) (i := 29) rfl rfl (fun b55 => ?_) (fun b55 => ?_)
          · skip
            refine K_aload_n (pc := 61) (i := 32) rfl rfl ?_
            refine K_getI (pc := 62) (i := 33) (j := 4) rfl S_184 rfl (by decide) rfl fw_Model_59 ?_
            refine K_nm (fun v62 e62 => ?_)
            have r62 := rd_many hI
            rw [← e62] at r62
            refine K_bipush (pc := 65) (i := 34) rfl rfl ?_
            first | refine K_icmp_ne 73 (pc := 67) (i := 35) rfl rfl (by omega) (by omega) (fun b67 => ?_) (fun b67 => ?_) | refine K_icmp_ne_an 73 (pc := 67) (i := 35) rfl rfl (fun b67 => ?_) (fun b67 => ?_)
            · skip
              refine K_aload_n (pc := 73) (i := 38) rfl rfl ?_
              refine K_cVV (pc := 74) (i := 39) rfl (c_Model_keepAct G (hI := hI)) S_184 rfl (lv_Model_121 rfl) rfl rfl rfl rfl rfl (fun h74 q74 => ?_)
              obtain ⟨fx74, q74⟩ := q74
              obtain ⟨hI, mr74⟩ := q74
              have fx := fx.tr fx74 (fun c i q => (by first | (dsimp only at q ⊢; omega) | omega))
              have n74 : h74 184 4 = h 184 4 := fx74 184 4 (by first | (dsimp only; omega) | omega | exact not_false)
              have k74 : h74 187 = h 187 := fx74.cell 187 (fun i => (by first | (dsimp only; omega) | omega))
              refine K_aload_n (pc := 77) (i := 40) rfl rfl ?_
              refine K_iload_n (pc := 78) (i := 41) rfl rfl ?_
              refine K_iload_n (pc := 79) (i := 42) rfl rfl ?_
              refine K_iload_n (pc := 80) (i := 43) rfl rfl ?_
              refine K_iload (pc := 81) (i := 44) rfl rfl ?_
              refine K_cVV (pc := 83) (i := 45) rfl (c_Model_add G (x1 := x1) (x2 := x2) (x3 := x3) (x4 := x4) (hm := by rw [n74]; omega) (hf := fun ⟨i, a, b⟩ => (r52.elim (fun q => absurd q.1 (by omega)) (fun q => q.2)) ⟨i, by rw [← n74]; exact a, by rw [← k74]; exact b⟩) (hI := hI) (s1 := by omega) (s2 := by omega) (s3 := by omega) (s4 := by omega)) S_184 rfl (lv_Model_129 rfl) rfl rfl rfl rfl rfl (fun h83 q83 => ?_)
              obtain ⟨fx83, q83⟩ := q83
              obtain ⟨hI, ad83, ak83⟩ := q83
              have fx := fx.tr fx83 (fun c i q => (by first | (dsimp only at q ⊢; omega) | omega))
              rw [n74] at ad83
              rw [n74, k74] at ak83
              refine K_aload_n (pc := 86) (i := 46) rfl rfl ?_
              refine K_getI (pc := 87) (i := 47) (j := 4) rfl S_184 rfl (by decide) rfl fw_Model_59 ?_
              refine K_nm (fun v87 e87 => ?_)
              have r87 := rd_many hI
              rw [← e87] at r87
              refine K_iconst (pc := 90) (i := 48) rfl ?_
              refine K_isub (pc := 91) (i := 49) rfl ?_
              exact K_retI (pc := 92) (i := 50) rfl rfl ⟨fx, ⟨hI, Or.inr (Or.inr (Or.inr ⟨by omega, r52.elim (fun q => absurd q.1 (by omega)) (fun q => q.2), by omega, by omega, mr74.of (fx83.cell 191 (fun i => (by first | (dsimp only; omega) | omega))) (fx83 184 11 (by first | (dsimp only; omega) | omega | exact not_false)) (fx83 184 12 (by first | (dsimp only; omega) | omega | exact not_false)), ad83, ak83⟩))⟩⟩
            · skip
              refine K_bipush (pc := 70) (i := 36) rfl rfl ?_
              exact K_retI (pc := 72) (i := 37) rfl rfl ⟨fx, ⟨hI, Or.inr (Or.inr (Or.inl ⟨by omega, r52.elim (fun q => absurd q.1 (by omega)) (fun q => q.2), by omega, rfl, rfl⟩))⟩⟩
          · skip
            refine K_bipush (pc := 58) (i := 30) rfl rfl ?_
            exact K_retI (pc := 60) (i := 31) rfl rfl ⟨fx, ⟨hI, Or.inr (Or.inl ⟨by omega, r52.elim (fun q => q.2) (fun q => absurd q.1 (by omega)), rfl, rfl⟩)⟩⟩
        · skip
          refine K_bipush (pc := 47) (i := 24) rfl rfl ?_
          exact K_retI (pc := 49) (i := 25) rfl rfl ⟨fx, ⟨hI, Or.inl ⟨by omega, rfl, rfl⟩⟩⟩
