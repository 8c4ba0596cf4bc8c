set_option maxHeartbeats 4000000 in
set_option maxRecDepth 100000 in
theorem c_Model_add (G : kG) {g : kGh} {h : kH} {x1 : Int} {x2 : Int} {x3 : Int} {x4 : Int} (s1 : 0 ≤ x1 ∧ x1 ≤ 1) (s2 : 0 ≤ x2 ∧ x2 ≤ 40) (s3 : 1 ≤ x3 ∧ x3 ≤ 9) (s4 : 0 ≤ x4 ∧ x4 ≤ 9) (hm : h 184 4 ≤ 7) (hf : ¬ hsM h x2) (hI : Gd g h) : Ctr G y_Model_add X_Model_add 1 [.ref (G.2.2.2 184), kI x1, kI x2, kI x3, kI x4] h (kQv (fun h' => Fx (fun c i => c = 187 ∨ (c = 184 ∧ i = 4)) h h' ∧ (Gd g h' ∧ h' 184 4 = h 184 4 + 1 ∧ AK (h 187) (h' 187) (h 184 4).toNat x1 x2 x3 x4))) := by
  refine Ctr.ofK (by decide) rfl T_Model_add (Nat.le_of_ble_eq_true rfl) (lo := [(0, .ref (G.2.2.2 184)), (1, kI x1), (2, kI x2), (3, kI x3), (4, kI x4)]) rfl ?_
  have fx : Fx (fun c i => c = 187 ∨ (c = 184 ∧ i = 4)) h h := Fx.rf
  obtain ⟨m, em⟩ : ∃ m : Nat, h 184 4 = m := Int.eq_ofNat_of_zero_le (rd_many hI).1
  have hG := hI
  have hI := hI.nf
  refine K_iconst (pc := 0) (i := 0) rfl ?_
  refine K_aload_n (pc := 1) (i := 1) rfl rfl ?_
  refine K_getI (pc := 2) (i := 2) (j := 4) rfl S_184 rfl (by decide) rfl fw_Model_59 ?_
  refine K_nm (fun v2 e2 => ?_)
  have r2 := rd_many hI
  rw [← e2] at r2
  have t2 : v2 = m := by rw [e2, em]
  refine K_imul (pc := 5) (i := 3) rfl ?_
  refine K_ist (pc := 6) (i := 4) (lo' := [(0, _), (1, _), (2, _), (3, _), (4, _), (5, _)]) rfl rfl rfl rfl ?_
  refine K_aload_n (pc := 8) (i := 5) rfl rfl ?_
  refine K_getR (pc := 9) (i := 6) (j := 3) (d := 187) rfl S_184 rfl (by decide) rfl fw_Model_16 ?_
  refine K_iload (pc := 12) (i := 7) rfl rfl ?_
  refine K_iload_n (pc := 14) (i := 8) rfl rfl ?_
  refine K_iast (pc := 15) (i := 9) rfl S_187 (by omega) (by omega) (by decide) ?_
  have hI := st_mkites hI (i := (5 * v2).toNat) (v := x1) (by unfold bK; omega) (fun e _ => False.elim e)
  have fx := Fx.st (c := 187) (i := (5 * v2).toNat) (v := x1) fx (by first | (dsimp only; omega) | omega | exact not_false)
  refine K_aload_n (pc := 16) (i := 10) rfl rfl ?_
  refine K_getR (pc := 17) (i := 11) (j := 3) (d := 187) rfl S_184 rfl (by decide) rfl fw_Model_16 ?_
  refine K_iload (pc := 20) (i := 12) rfl rfl ?_
  refine K_iconst (pc := 22) (i := 13) rfl ?_
  refine K_iadd (pc := 23) (i := 14) rfl ?_
  refine K_iload_n (pc := 24) (i := 15) rfl rfl ?_
  refine K_iast (pc := 25) (i := 16) rfl S_187 (by omega) (by omega) (by decide) ?_
  have hI := st_mkites hI (i := ((5 * v2) + 1).toNat) (v := x2) (by unfold bK; omega) (fun e _ => False.elim e)
  have fx := Fx.st (c := 187) (i := ((5 * v2) + 1).toNat) (v := x2) fx (by first | (dsimp only; omega) | omega | exact not_false)
  refine K_aload_n (pc := 26) (i := 17) rfl rfl ?_
  refine K_getR (pc := 27) (i := 18) (j := 3) (d := 187) rfl S_184 rfl (by decide) rfl fw_Model_16 ?_
  refine K_iload (pc := 30) (i := 19) rfl rfl ?_
  refine K_iconst (pc := 32) (i := 20) rfl ?_
  refine K_iadd (pc := 33) (i := 21) rfl ?_
  refine K_iload_n (pc := 34) (i := 22) rfl rfl ?_
  refine K_iast (pc := 35) (i := 23) rfl S_187 (by omega) (by omega) (by decide) ?_
  have hI := st_mkites hI (i := ((5 * v2) + 2).toNat) (v := x2) (by unfold bK; omega) (fun e _ => False.elim e)
  have fx := Fx.st (c := 187) (i := ((5 * v2) + 2).toNat) (v := x2) fx (by first | (dsimp only; omega) | omega | exact not_false)
  refine K_aload_n (pc := 36) (i := 24) rfl rfl ?_
  refine K_getR (pc := 37) (i := 25) (j := 3) (d := 187) rfl S_184 rfl (by decide) rfl fw_Model_16 ?_
  refine K_iload (pc := 40) (i := 26) rfl rfl ?_
  refine K_iconst (pc := 42) (i := 27) rfl ?_
  refine K_iadd (pc := 43) (i := 28) rfl ?_
  refine K_iload_n (pc := 44) (i := 29) rfl rfl ?_
  refine K_iast (pc := 45) (i := 30) rfl S_187 (by omega) (by omega) (by decide) ?_
  have hI := st_mkites hI (i := ((5 * v2) + 3).toNat) (v := x3) (by unfold bK; omega) (fun e _ => False.elim e)
  have fx := Fx.st (c := 187) (i := ((5 * v2) + 3).toNat) (v := x3) fx (by first | (dsimp only; omega) | omega | exact not_false)
  refine K_aload_n (pc := 46) (i := 31) rfl rfl ?_
  refine K_getR (pc := 47) (i := 32) (j := 3) (d := 187) rfl S_184 rfl (by decide) rfl fw_Model_16 ?_
  refine K_iload (pc := 50) (i := 33) rfl rfl ?_
  refine K_iconst (pc := 52) (i := 34) rfl ?_
  refine K_iadd (pc := 53) (i := 35) rfl ?_
  refine K_iload (pc := 54) (i := 36) rfl rfl ?_
  refine K_iast (pc := 56) (i := 37) rfl S_187 (by omega) (by omega) (by decide) ?_
  have hI := st_mkites hI (i := ((5 * v2) + 4).toNat) (v := x4) (by unfold bK; omega) (fun e _ => False.elim e)
  have fx := Fx.st (c := 187) (i := ((5 * v2) + 4).toNat) (v := x4) fx (by first | (dsimp only; omega) | omega | exact not_false)
  refine K_aload_n (pc := 57) (i := 38) rfl rfl ?_
  refine K_dup (pc := 58) (i := 39) rfl rfl ?_
  refine K_getI (pc := 59) (i := 40) (j := 4) rfl S_184 rfl (by decide) rfl fw_Model_59 ?_
  refine K_nm (fun v59 e59 => ?_)
  have r59 := rd_many hI
  rw [← e59] at r59
  have t59 : v59 = m := by rw [e59]; simp only [kU_c _ _ _ _ (show (184 : Nat) ≠ 187 by decide)]; exact em
  refine K_iconst (pc := 62) (i := 41) rfl ?_
  refine K_iadd (pc := 63) (i := 42) rfl ?_
  refine K_putI (pc := 64) (i := 43) (j := 4) rfl S_184 rfl (by decide) rfl rfl rfl fw_Model_59 ?_
  have hI := st_many hI (v := v59 + 1) (by omega) (fun e _ => False.elim e)
  have fx := Fx.st (c := 184) (i := 4) (v := v59 + 1) fx (by first | (dsimp only; omega) | omega | exact not_false)
  exact K_retV (pc := 67) (i := 44) rfl rfl ⟨fx, (by
    have i0 : (5 * v2).toNat = 5 * m := by omega
    have i1 : ((5 * v2) + 1).toNat = 5 * m + 1 := by omega
    have i2 : ((5 * v2) + 2).toNat = 5 * m + 2 := by omega
    have i3 : ((5 * v2) + 3).toNat = 5 * m + 3 := by omega
    have i4 : ((5 * v2) + 4).toNat = 5 * m + 4 := by omega
    have VM : (kU (kU (kU (kU (kU (kU h 187 ((5 * v2).toNat) x1) 187 (((5 * v2) + 1).toNat) x2) 187 (((5 * v2) + 2).toNat) x2) 187 (((5 * v2) + 3).toNat) x3) 187 (((5 * v2) + 4).toNat) x4) 184 4 (v59 + 1)) 184 4 = h 184 4 + 1 := by rw [kU_at, if_pos ⟨rfl, rfl⟩]; omega
    have VC : ∀ c, c ≠ 184 → c ≠ 187 → (kU (kU (kU (kU (kU (kU h 187 ((5 * v2).toNat) x1) 187 (((5 * v2) + 1).toNat) x2) 187 (((5 * v2) + 2).toNat) x2) 187 (((5 * v2) + 3).toNat) x3) 187 (((5 * v2) + 4).toNat) x4) 184 4 (v59 + 1)) c = h c := fun c h1 h2 => by simp only [kU_c _ _ _ _ h1, kU_c _ _ _ _ h2]
    have VK : AK (h 187) ((kU (kU (kU (kU (kU (kU h 187 ((5 * v2).toNat) x1) 187 (((5 * v2) + 1).toNat) x2) 187 (((5 * v2) + 2).toNat) x2) 187 (((5 * v2) + 3).toNat) x3) 187 (((5 * v2) + 4).toNat) x4) 184 4 (v59 + 1)) 187) m x1 x2 x3 x4 := by
      rw [i0, i1, i2, i3, i4]
      refine ⟨fun j hj => ?_, ?_, ?_, ?_, ?_, ?_⟩
      · rw [kU_at, if_neg (by omega), kU_at, if_neg (by omega), kU_at, if_neg (by omega), kU_at, if_neg (by omega), kU_at, if_neg (by omega), kU_at, if_neg (by omega)]
      · rw [kU_at, if_neg (by omega), kU_at, if_neg (by omega), kU_at, if_neg (by omega), kU_at, if_neg (by omega), kU_at, if_neg (by omega), kU_at, if_pos ⟨rfl, rfl⟩]
      · rw [kU_at, if_neg (by omega), kU_at, if_neg (by omega), kU_at, if_neg (by omega), kU_at, if_neg (by omega), kU_at, if_pos ⟨rfl, rfl⟩]
      · rw [kU_at, if_neg (by omega), kU_at, if_neg (by omega), kU_at, if_neg (by omega), kU_at, if_pos ⟨rfl, rfl⟩]
      · rw [kU_at, if_neg (by omega), kU_at, if_neg (by omega), kU_at, if_pos ⟨rfl, rfl⟩]
      · rw [kU_at, if_neg (by omega), kU_at, if_pos ⟨rfl, rfl⟩]
    refine ⟨Gd.fn hI (fun e => ?_), VM, by rw [em]; exact VK⟩
    have b := hG.2.2.2.2.2 e
    obtain ⟨k0, k1, k2, k3, k4, k5⟩ := VK
    unfold MOk
    rw [VM, VC 191 (by decide) (by decide), VC 200 (by decide) (by decide)]
    exact ⟨FK.add (m := m) b.1 em k0 (by rw [k2]; omega) (by rw [k3]; omega) (by rw [k4]; omega) (fun i hi e => hf ⟨i, by omega, by rw [← k2]; exact e⟩), b.2.1, b.2.2⟩)⟩
set_option maxHeartbeats 4000000 in
set_option maxRecDepth 100000 in
theorem c_Model_launch (G : kG) {g : kGh} {h : kH}  (hT : g.2.2.2.2){x1 : Int} {x2 : Int} {x3 : Int} {x4 : Int} (s1 : kR x1) (s2 : kR x2) (s3 : kR x3) (s4 : kR x4) (hI : Gd g h) : Ctr G y_Model_launch X_Model_launch 13 [.ref (G.2.2.2 184), kI x1, kI x2, kI x3, kI x4] h (kQi (fun z h' => Fx (fun c i => c = 187 ∨ c = 191 ∨ (c = 184 ∧ (i = 4 ∨ i = 11 ∨ i = 12))) h h' ∧ (Gd g h' ∧ CMlaunch h h' x1 x2 x3 x4 z))) := by
  refine Ctr.ofK (by decide) rfl T_Model_launch (Nat.le_of_ble_eq_true rfl) (lo := [(0, .ref (G.2.2.2 184)), (1, kI x1), (2, kI x2), (3, kI x3), (4, kI x4)]) rfl ?_
  have fx : Fx (fun c i => c = 187 ∨ c = 191 ∨ (c = 184 ∧ (i = 4 ∨ i = 11 ∨ i = 12))) h h := Fx.rf
  have hk := (hI.2.2.2.2.2 hT).1
  have hm8 := rd_many hI
  refine K_iload_n (pc := 0) (i := 0) rfl rfl ?_
  refine K_i2l (pc := 1) (i := 1) rfl ?_
  refine K_eqJ (kI2l_eq (a := x1) (by omega)) ?_
  refine K_lconst 0 (pc := 2) (i := 2) rfl rfl ?_
  refine K_lconst 1 (pc := 3) (i := 3) rfl rfl ?_
  refine K_cSI (pc := 4) (i := 4) rfl (c_Model_in G (l0 := x1) (l2 := 0) (l4 := 1) (s0 := by omega) (s2 := by omega) (s4 := by omega)) (ls_Model_65 rfl) rfl rfl rfl rfl (fun v4 h4 q4 => ?_)
  obtain ⟨eh, r4⟩ := q4
  rw [eh]; clear eh
  first | refine K_if_eq 47 (pc := 7) (i := 5) rfl rfl (by omega) (fun b7 => ?_) (fun b7 => ?_) | refine K_if_eq_an 47 (pc := 7) (i := 5) rfl rfl (fun b7 => ?_) (fun b7 => ?_)
  · skip
    refine K_bipush (pc := 47) (i := 24) rfl rfl ?_
    exact K_retI (pc := 49) (i := 25) rfl rfl ⟨fx, ⟨hI, Or.inl ⟨by omega, rfl, rfl⟩⟩⟩
  · skip
    refine K_iload_n (pc := 10) (i := 6) rfl rfl ?_
    refine K_i2l (pc := 11) (i := 7) rfl ?_
    refine K_eqJ (kI2l_eq (a := x2) (by omega)) ?_
    refine K_lconst 0 (pc := 12) (i := 8) rfl rfl ?_
    refine K_ldc2 (40) (pc := 13) (i := 9) rfl cl_Model_124 (by decide) ?_
    refine K_cSI (pc := 16) (i := 10) rfl (c_Model_in G (l0 := x2) (l2 := 0) (l4 := 40) (s0 := by omega) (s2 := by omega) (s4 := by omega)) (ls_Model_65 rfl) rfl rfl rfl rfl (fun v16 h16 q16 => ?_)
    obtain ⟨eh, r16⟩ := q16
    rw [eh]; clear eh
    first | refine K_if_eq 47 (pc := 19) (i := 11) rfl rfl (by omega) (fun b19 => ?_) (fun b19 => ?_) | refine K_if_eq_an 47 (pc := 19) (i := 11) rfl rfl (fun b19 => ?_) (fun b19 => ?_)
    · skip
      refine K_bipush (pc := 47) (i := 24) rfl rfl ?_
      exact K_retI (pc := 49) (i := 25) rfl rfl ⟨fx, ⟨hI, Or.inl ⟨by omega, rfl, rfl⟩⟩⟩
    · skip
      refine K_iload_n (pc := 22) (i := 12) rfl rfl ?_
      refine K_i2l (pc := 23) (i := 13) rfl ?_
      refine K_eqJ (kI2l_eq (a := x3) (by omega)) ?_
      refine K_lconst 1 (pc := 24) (i := 14) rfl rfl ?_
      refine K_ldc2 (9) (pc := 25) (i := 15) rfl cl_Model_80 (by decide) ?_
      refine K_cSI (pc := 28) (i := 16) rfl (c_Model_in G (l0 := x3) (l2 := 1) (l4 := 9) (s0 := by omega) (s2 := by omega) (s4 := by omega)) (ls_Model_65 rfl) rfl rfl rfl rfl (fun v28 h28 q28 => ?_)
      obtain ⟨eh, r28⟩ := q28
      rw [eh]; clear eh
      first | refine K_if_eq 47 (pc := 31) (i := 17) rfl rfl (by omega) (fun b31 => ?_) (fun b31 => ?_) | refine K_if_eq_an 47 (pc := 31) (i := 17) rfl rfl (fun b31 => ?_) (fun b31 => ?_)
      · skip
        refine K_bipush (pc := 47) (i := 24) rfl rfl ?_
        exact K_retI (pc := 49) (i := 25) rfl rfl ⟨fx, ⟨hI, Or.inl ⟨by omega, rfl, rfl⟩⟩⟩
      · skip
        refine K_iload (pc := 34) (i := 18) rfl rfl ?_
        refine K_i2l (pc := 36) (i := 19) rfl ?_
        refine K_eqJ (kI2l_eq (a := x4) (by omega)) ?_
        refine K_lconst 0 (pc := 37) (i := 20) rfl rfl ?_
        refine K_ldc2 (9) (pc := 38) (i := 21) rfl cl_Model_80 (by decide) ?_
        refine K_cSI (pc := 41) (i := 22) rfl (c_Model_in G (l0 := x4) (l2 := 0) (l4 := 9) (s0 := by omega) (s2 := by omega) (s4 := by omega)) (ls_Model_65 rfl) rfl rfl rfl rfl (fun v41 h41 q41 => ?_)
        obtain ⟨eh, r41⟩ := q41
        rw [eh]; clear eh
        first | refine K_if_ne 50 (pc := 44) (i := 23) rfl rfl (by omega) (fun b44 => ?_) (fun b44 => ?_) | refine K_if_ne_an 50 (pc := 44) (i := 23) rfl rfl (fun b44 => ?_) (fun b44 => ?_)
        · skip
          refine K_aload_n (pc := 50) (i := 26) rfl rfl ?_
          refine K_iload_n (pc := 51) (i := 27) rfl rfl ?_
          refine K_cVI (pc := 52) (i := 28) rfl (c_Model_isStake G (x1 := x2) (hk := hk) (hI := hI) (s1 := by omega)) S_184 rfl (lv_Model_126 rfl) rfl rfl rfl rfl rfl (fun v52 h52 q52 => ?_)
          obtain ⟨eh, r52⟩ := q52
          rw [eh]; clear eh
          have k52 : v52 = 0 ∨ v52 = 1 := r52.elim (fun q => Or.inr q.1) (fun q => Or.inl q.1)
          first | refine K_if_eq 61 (pc := 55) (i := 29) rfl rfl (by omega) (fun b55 => ?_) (fun b55 => ?_) | refine K_if_eq_an 61 (pc := 55) (i := 29) rfl rfl (fun b55 => ?_) (fun b55 => ?_)
          · skip
            refine K_aload_n (pc := 61) (i := 32) rfl rfl ?_
            refine K_getI (pc := 62) (i := 33) (j := 4) rfl S_184 rfl (by decide) rfl fw_Model_59 ?_
            refine K_nm (fun v62 e62 => ?_)
            have r62 := rd_many hI
            rw [← e62] at r62
            refine K_bipush (pc := 65) (i := 34) rfl rfl ?_
            first | refine K_icmp_ne 73 (pc := 67) (i := 35) rfl rfl (by omega) (by omega) (fun b67 => ?_) (fun b67 => ?_) | refine K_icmp_ne_an 73 (pc := 67) (i := 35) rfl rfl (fun b67 => ?_) (fun b67 => ?_)
            · skip
              refine K_aload_n (pc := 73) (i := 38) rfl rfl ?_
              refine K_cVV (pc := 74) (i := 39) rfl (c_Model_keepAct G (hI := hI)) S_184 rfl (lv_Model_121 rfl) rfl rfl rfl rfl rfl (fun h74 q74 => ?_)
              obtain ⟨fx74, q74⟩ := q74
              obtain ⟨hI, mr74⟩ := q74
              have fx := fx.tr fx74 (fun c i q => (by first | (dsimp only at q ⊢; omega) | omega))
              have n74 : h74 184 4 = h 184 4 := fx74 184 4 (by first | (dsimp only; omega) | omega | exact not_false)
              have k74 : h74 187 = h 187 := fx74.cell 187 (fun i => (by first | (dsimp only; omega) | omega))
              refine K_aload_n (pc := 77) (i := 40) rfl rfl ?_
              refine K_iload_n (pc := 78) (i := 41) rfl rfl ?_
              refine K_iload_n (pc := 79) (i := 42) rfl rfl ?_
              refine K_iload_n (pc := 80) (i := 43) rfl rfl ?_
              refine K_iload (pc := 81) (i := 44) rfl rfl ?_
              refine K_cVV (pc := 83) (i := 45) rfl (c_Model_add G (x1 := x1) (x2 := x2) (x3 := x3) (x4 := x4) (hm := by rw [n74]; omega) (hf := fun ⟨i, a, b⟩ => (r52.elim (fun q => absurd q.1 (by omega)) (fun q => q.2)) ⟨i, by rw [← n74]; exact a, by rw [← k74]; exact b⟩) (hI := hI) (s1 := by omega) (s2 := by omega) (s3 := by omega) (s4 := by omega)) S_184 rfl (lv_Model_129 rfl) rfl rfl rfl rfl rfl (fun h83 q83 => ?_)
              obtain ⟨fx83, q83⟩ := q83
              obtain ⟨hI, ad83, ak83⟩ := q83
              have fx := fx.tr fx83 (fun c i q => (by first | (dsimp only at q ⊢; omega) | omega))
              rw [n74] at ad83
              rw [n74, k74] at ak83
              refine K_aload_n (pc := 86) (i := 46) rfl rfl ?_
              refine K_getI (pc := 87) (i := 47) (j := 4) rfl S_184 rfl (by decide) rfl fw_Model_59 ?_
              refine K_nm (fun v87 e87 => ?_)
              have r87 := rd_many hI
              rw [← e87] at r87
              refine K_iconst (pc := 90) (i := 48) rfl ?_
              refine K_isub (pc := 91) (i := 49) rfl ?_
              exact K_retI (pc := 92) (i := 50) rfl rfl ⟨fx, ⟨hI, Or.inr (Or.inr (Or.inr ⟨by omega, r52.elim (fun q => absurd q.1 (by omega)) (fun q => q.2), by omega, by omega, mr74.of (fx83.cell 191 (fun i => (by first | (dsimp only; omega) | omega))) (fx83 184 11 (by first | (dsimp only; omega) | omega | exact not_false)) (fx83 184 12 (by first | (dsimp only; omega) | omega | exact not_false)), ad83, ak83⟩))⟩⟩
            · skip
              refine K_bipush (pc := 70) (i := 36) rfl rfl ?_
              exact K_retI (pc := 72) (i := 37) rfl rfl ⟨fx, ⟨hI, Or.inr (Or.inr (Or.inl ⟨by omega, r52.elim (fun q => absurd q.1 (by omega)) (fun q => q.2), by omega, rfl, rfl⟩))⟩⟩
          · skip
            refine K_bipush (pc := 58) (i := 30) rfl rfl ?_
            exact K_retI (pc := 60) (i := 31) rfl rfl ⟨fx, ⟨hI, Or.inr (Or.inl ⟨by omega, r52.elim (fun q => q.2) (fun q => absurd q.1 (by omega)), rfl, rfl⟩)⟩⟩
        · skip
          refine K_bipush (pc := 47) (i := 24) rfl rfl ?_
          exact K_retI (pc := 49) (i := 25) rfl rfl ⟨fx, ⟨hI, Or.inl ⟨by omega, rfl, rfl⟩⟩⟩
set_option maxHeartbeats 4000000 in
set_option maxRecDepth 100000 in
theorem c_Model_toLaunch (G : kG) {g : kGh} {h : kH}  (hT : g.2.2.2.2){x1 : Int} {x2 : Int} {x3 : Int} (s1 : kR x1) (s2 : kR x2) (s3 : kR x3) (hI : Gd g h) : Ctr G y_Model_toLaunch X_Model_toLaunch 13 [.ref (G.2.2.2 184), kI x1, kI x2, kI x3] h (kQi (fun z h' => Fx (fun c i => c = 187 ∨ c = 192 ∨ (c = 184 ∧ i = 4)) h h' ∧ (Gd g h' ∧ h' 184 4 = h 184 4 ∧ (∀ j : Nat, (j : Int) < 5 * h 184 4 → h' 187 j = h 187 j)))) := by
  refine Ctr.ofK (by decide) rfl T_Model_toLaunch (Nat.le_of_ble_eq_true rfl) (lo := [(0, .ref (G.2.2.2 184)), (1, kI x1), (2, kI x2), (3, kI x3)]) rfl ?_
  have fx : Fx (fun c i => c = 187 ∨ c = 192 ∨ (c = 184 ∧ i = 4)) h h := Fx.rf
  have hm8 := rd_many hI
  refine K_iload_n (pc := 0) (i := 0) rfl rfl ?_
  refine K_i2l (pc := 1) (i := 1) rfl ?_
  refine K_eqJ (kI2l_eq (a := x1) (by omega)) ?_
  refine K_lconst 0 (pc := 2) (i := 2) rfl rfl ?_
  refine K_lconst 1 (pc := 3) (i := 3) rfl rfl ?_
  refine K_cSI (pc := 4) (i := 4) rfl (c_Model_in G (l0 := x1) (l2 := 0) (l4 := 1) (s0 := by omega) (s2 := by omega) (s4 := by omega)) (ls_Model_65 rfl) rfl rfl rfl rfl (fun v4 h4 q4 => ?_)
  obtain ⟨eh, r4⟩ := q4
  rw [eh]; clear eh
  first | refine K_if_eq 34 (pc := 7) (i := 5) rfl rfl (by omega) (fun b7 => ?_) (fun b7 => ?_) | refine K_if_eq_an 34 (pc := 7) (i := 5) rfl rfl (fun b7 => ?_) (fun b7 => ?_)
  · skip
    refine K_bipush (pc := 34) (i := 18) rfl rfl ?_
    exact K_retI (pc := 36) (i := 19) rfl rfl ⟨fx, ⟨hI, rfl, fun _ _ => rfl⟩⟩
  · skip
    refine K_iload_n (pc := 10) (i := 6) rfl rfl ?_
    refine K_i2l (pc := 11) (i := 7) rfl ?_
    refine K_eqJ (kI2l_eq (a := x2) (by omega)) ?_
    refine K_lconst 0 (pc := 12) (i := 8) rfl rfl ?_
    refine K_ldc2 (9) (pc := 13) (i := 9) rfl cl_Model_80 (by decide) ?_
    refine K_cSI (pc := 16) (i := 10) rfl (c_Model_in G (l0 := x2) (l2 := 0) (l4 := 9) (s0 := by omega) (s2 := by omega) (s4 := by omega)) (ls_Model_65 rfl) rfl rfl rfl rfl (fun v16 h16 q16 => ?_)
    obtain ⟨eh, r16⟩ := q16
    rw [eh]; clear eh
    first | refine K_if_eq 34 (pc := 19) (i := 11) rfl rfl (by omega) (fun b19 => ?_) (fun b19 => ?_) | refine K_if_eq_an 34 (pc := 19) (i := 11) rfl rfl (fun b19 => ?_) (fun b19 => ?_)
    · skip
      refine K_bipush (pc := 34) (i := 18) rfl rfl ?_
      exact K_retI (pc := 36) (i := 19) rfl rfl ⟨fx, ⟨hI, rfl, fun _ _ => rfl⟩⟩
    · skip
      refine K_iload_n (pc := 22) (i := 12) rfl rfl ?_
      refine K_i2l (pc := 23) (i := 13) rfl ?_
      refine K_eqJ (kI2l_eq (a := x3) (by omega)) ?_
      refine K_lconst 1 (pc := 24) (i := 14) rfl rfl ?_
      refine K_ldc2 (5) (pc := 25) (i := 15) rfl cl_Model_190 (by decide) ?_
      refine K_cSI (pc := 28) (i := 16) rfl (c_Model_in G (l0 := x3) (l2 := 1) (l4 := 5) (s0 := by omega) (s2 := by omega) (s4 := by omega)) (ls_Model_65 rfl) rfl rfl rfl rfl (fun v28 h28 q28 => ?_)
      obtain ⟨eh, r28⟩ := q28
      rw [eh]; clear eh
      first | refine K_if_ne 37 (pc := 31) (i := 17) rfl rfl (by omega) (fun b31 => ?_) (fun b31 => ?_) | refine K_if_ne_an 37 (pc := 31) (i := 17) rfl rfl (fun b31 => ?_) (fun b31 => ?_)
      · skip
        refine K_aload_n (pc := 37) (i := 20) rfl rfl ?_
        refine K_getI (pc := 38) (i := 21) (j := 4) rfl S_184 rfl (by decide) rfl fw_Model_59 ?_
        refine K_nm (fun v38 e38 => ?_)
        have r38 := rd_many hI
        rw [← e38] at r38
        refine K_bipush (pc := 41) (i := 22) rfl rfl ?_
        first | refine K_icmp_ne 49 (pc := 43) (i := 23) rfl rfl (by omega) (by omega) (fun b43 => ?_) (fun b43 => ?_) | refine K_icmp_ne_an 49 (pc := 43) (i := 23) rfl rfl (fun b43 => ?_) (fun b43 => ?_)
        · skip
          refine K_bipush (pc := 49) (i := 26) rfl rfl ?_
          refine K_ist (pc := 51) (i := 27) (lo' := [(0, _), (1, _), (2, _), (3, _), (4, _)]) rfl rfl rfl rfl ?_
          refine K_bipush (pc := 53) (i := 28) rfl rfl ?_
          refine K_ist (pc := 55) (i := 29) (lo' := [(0, _), (1, _), (2, _), (3, _), (4, _), (5, _)]) rfl rfl rfl rfl ?_
          refine K_iconst (pc := 57) (i := 30) rfl ?_
          refine K_ist (pc := 58) (i := 31) (lo' := [(0, _), (1, _), (2, _), (3, _), (4, _), (5, _), (6, _)]) rfl rfl rfl rfl ?_
          have L60 : ∀ (n : Nat) (x4 : Int) (x5 : Int) (x6 : Int) (ha : kH), (41 - x6).toNat < n → (Gd g ha) → (Fx (fun c i => c = 187 ∨ c = 192 ∨ (c = 184 ∧ i = 4)) h ha) → ((0 ≤ x6 ∧ x6 ≤ 41) ∧ ha 184 4 = h 184 4 ∧ (∀ j : Nat, (j : Int) < 5 * h 184 4 → ha 187 j = h 187 j)) → K X_Model_toLaunch G (kZm G 13 (kQi (fun z h' => Fx (fun c i => c = 187 ∨ c = 192 ∨ (c = 184 ∧ i = 4)) h h' ∧ (Gd g h' ∧ h' 184 4 = h 184 4 ∧ (∀ j : Nat, (j : Int) < 5 * h 184 4 → h' 187 j = h 187 j))))) 60 [(0, .ref (G.2.2.2 184)), (1, kI x1), (2, kI x2), (3, kI x3), (4, kI x4), (5, kI x5), (6, kI x6)] [] ha := by
            intro n
            induction n with
            | zero => intro x4 x5 x6 ha hm; exact absurd hm (Nat.not_lt_zero _)
            | succ n ih60 =>
              intro x4 x5 x6 ha hm60 hI fx hV60
              refine K_iload (pc := 60) (i := 32) rfl rfl ?_
              refine K_bipush (pc := 62) (i := 33) rfl rfl ?_
              first | refine K_icmp_ge 186 (pc := 64) (i := 34) rfl rfl (by omega) (by omega) (fun b64 => ?_) (fun b64 => ?_) | refine K_icmp_ge_an 186 (pc := 64) (i := 34) rfl rfl (fun b64 => ?_) (fun b64 => ?_)
              · skip
                refine K_iload (pc := 186) (i := 97) rfl rfl ?_
                exact K_retI (pc := 188) (i := 98) rfl rfl ⟨fx, ⟨hI, hV60.2⟩⟩
              · skip
                refine K_iconst (pc := 67) (i := 35) rfl ?_
                refine K_ist (pc := 68) (i := 36) (lo' := [(0, _), (1, _), (2, _), (3, _), (4, _), (5, _), (6, _), (7, _)]) rfl rfl rfl rfl ?_
                have L70 : ∀ (n : Nat) (x4 : Int) (x5 : Int) (x7 : Int) (hb : kH), (10 - x7).toNat < n → (Gd g hb) → (Fx (fun c i => c = 187 ∨ c = 192 ∨ (c = 184 ∧ i = 4)) h hb) → ((1 ≤ x7 ∧ x7 ≤ 10) ∧ hb 184 4 = h 184 4 ∧ (∀ j : Nat, (j : Int) < 5 * h 184 4 → hb 187 j = h 187 j)) → K X_Model_toLaunch G (kZm G 13 (kQi (fun z h' => Fx (fun c i => c = 187 ∨ c = 192 ∨ (c = 184 ∧ i = 4)) h h' ∧ (Gd g h' ∧ h' 184 4 = h 184 4 ∧ (∀ j : Nat, (j : Int) < 5 * h 184 4 → h' 187 j = h 187 j))))) 70 [(0, .ref (G.2.2.2 184)), (1, kI x1), (2, kI x2), (3, kI x3), (4, kI x4), (5, kI x5), (6, kI x6), (7, kI x7)] [] hb := by
                  intro n
                  induction n with
                  | zero => intro x4 x5 x7 hb hm; exact absurd hm (Nat.not_lt_zero _)
                  | succ n ih70 =>
                    intro x4 x5 x7 hb hm70 hI fx hV70
                    refine K_iload (pc := 70) (i := 37) rfl rfl ?_
                    refine K_bipush (pc := 72) (i := 38) rfl rfl ?_
                    first | refine K_icmp_ge 180 (pc := 74) (i := 39) rfl rfl (by omega) (by omega) (fun b74 => ?_) (fun b74 => ?_) | refine K_icmp_ge_an 180 (pc := 74) (i := 39) rfl rfl (fun b74 => ?_) (fun b74 => ?_)
                    · skip
                      refine K_inc (pc := 180) (i := 95) (q := 6) (lo' := [(0, _), (1, _), (2, _), (3, _), (4, _), (5, _), (6, _), (7, _)]) rfl rfl rfl rfl rfl ?_
                      refine K_goto 60 (pc := 183) (i := 96) rfl rfl ?_
                      refine K_drop (lo' := [(0, .ref (G.2.2.2 184)), (1, kI x1), (2, kI x2), (3, kI x3), (4, kI x4), (5, kI x5), (6, kI (x6 + 1))]) [0, 1, 2, 3, 4, 5, 6] rfl ?_
                      exact ih60 x4 x5 (x6 + 1) _ (by omega) hI fx ⟨by omega, hV70.2⟩
                    · skip
                      refine K_aload_n (pc := 77) (i := 40) rfl rfl ?_
                      refine K_iload (pc := 78) (i := 41) rfl rfl ?_
                      refine K_cVI (pc := 80) (i := 42) rfl (c_Model_isStake G (x1 := x6) (hk := (hI.2.2.2.2.2 hT).1) (hI := hI) (s1 := by omega)) S_184 rfl (lv_Model_126 rfl) rfl rfl rfl rfl rfl (fun v80 h80 q80 => ?_)
                      obtain ⟨eh, r80⟩ := q80
                      rw [eh]; clear eh
                      have k80 : v80 = 0 ∨ v80 = 1 := r80.elim (fun q => Or.inr q.1) (fun q => Or.inl q.1)
                      first | refine K_if_ne 180 (pc := 83) (i := 43) rfl rfl (by omega) (fun b83 => ?_) (fun b83 => ?_) | refine K_if_ne_an 180 (pc := 83) (i := 43) rfl rfl (fun b83 => ?_) (fun b83 => ?_)
                      · skip
                        refine K_inc (pc := 180) (i := 95) (q := 6) (lo' := [(0, _), (1, _), (2, _), (3, _), (4, _), (5, _), (6, _), (7, _)]) rfl rfl rfl rfl rfl ?_
                        refine K_goto 60 (pc := 183) (i := 96) rfl rfl ?_
                        refine K_drop (lo' := [(0, .ref (G.2.2.2 184)), (1, kI x1), (2, kI x2), (3, kI x3), (4, kI x4), (5, kI x5), (6, kI (x6 + 1))]) [0, 1, 2, 3, 4, 5, 6] rfl ?_
                        exact ih60 x4 x5 (x6 + 1) _ (by omega) hI fx ⟨by omega, hV70.2⟩
                      · skip
                        refine K_aload_n (pc := 86) (i := 44) rfl rfl ?_
                        refine K_iload_n (pc := 87) (i := 45) rfl rfl ?_
                        refine K_iload (pc := 88) (i := 46) rfl rfl ?_
                        refine K_iload (pc := 90) (i := 47) rfl rfl ?_
                        refine K_iload_n (pc := 92) (i := 48) rfl rfl ?_
                        refine K_cVV (pc := 93) (i := 49) rfl (c_Model_add G (x1 := x1) (x2 := x6) (x3 := x7) (x4 := x2) (hm := by rw [hV70.2.1]; omega) (hf := r80.elim (fun q => absurd q.1 (by omega)) (fun q => q.2)) (hI := hI) (s1 := by omega) (s2 := by omega) (s3 := by omega) (s4 := by omega)) S_184 rfl (lv_Model_129 rfl) rfl rfl rfl rfl rfl (fun h93 q93 => ?_)
                        obtain ⟨fx93, q93⟩ := q93
                        obtain ⟨hI, ad93, ak93⟩ := q93
                        have fx := fx.tr fx93 (fun c i q => (by first | (dsimp only at q ⊢; omega) | omega))
                        have hJ := hI
                        refine K_aload_n (pc := 96) (i := 50) rfl rfl ?_
                        refine K_cVV (pc := 97) (i := 51) rfl (c_Model_copy G (hI := hI)) S_184 rfl (lv_Model_165 rfl) rfl rfl rfl rfl rfl (fun h97 q97 => ?_)
                        obtain ⟨fx97, q97⟩ := q97
                        obtain ⟨hI, cp97⟩ := q97
                        have fx := fx.tr fx97 (fun c i q => (by first | (dsimp only at q ⊢; omega) | omega))
                        have fk97 : FK (kap h97 40) (h97 184 4) := by rw [fx97 184 4 (by first | (dsimp only; omega) | omega | exact not_false)]; exact FK.copy (hJ.2.2.2.2.2 hT).1 (rd_many hJ).2 cp97
                        have t97 : h97 184 4 = h 184 4 + 1 := by rw [fx97 184 4 (by first | (dsimp only; omega) | omega | exact not_false), ad93, hV70.2.1]
                        refine K_aload_n (pc := 100) (i := 52) rfl rfl ?_
                        refine K_aload_n (pc := 101) (i := 53) rfl rfl ?_
                        refine K_getI (pc := 102) (i := 54) (j := 4) rfl S_184 rfl (by decide) rfl fw_Model_59 ?_
                        refine K_nm (fun v102 e102 => ?_)
                        have r102 := rd_many hI
                        rw [← e102] at r102
                        refine K_iload_n (pc := 105) (i := 55) rfl rfl ?_
                        refine K_cVV (pc := 106) (i := 56) rfl (c_Model_blowAll G (x1 := v102) (x2 := x3) (hk := by rw [e102]; exact fk97) (hI := hI) (s1 := by omega) (s2 := by omega)) S_184 rfl (lv_Model_168 rfl) rfl rfl rfl rfl rfl (fun h106 q106 => ?_)
                        obtain ⟨fx106, q106⟩ := q106
                        obtain ⟨hI, ga106, mt106⟩ := q106
                        have fx := fx.tr fx106 (fun c i q => (by first | (dsimp only at q ⊢; omega) | omega))
                        refine K_aload_n (pc := 109) (i := 57) rfl rfl ?_
                        refine K_dup (pc := 110) (i := 58) rfl rfl ?_
                        refine K_getI (pc := 111) (i := 59) (j := 4) rfl S_184 rfl (by decide) rfl fw_Model_59 ?_
                        refine K_nm (fun v111 e111 => ?_)
                        have r111 := rd_many hI
                        rw [← e111] at r111
                        have t111 : v111 = h 184 4 + 1 := by rw [e111, fx106 184 4 (by first | (dsimp only; omega) | omega | exact not_false), t97]
                        refine K_iconst (pc := 114) (i := 60) rfl ?_
                        refine K_isub (pc := 115) (i := 61) rfl ?_
                        refine K_putI (pc := 116) (i := 62) (j := 4) rfl S_184 rfl (by decide) rfl rfl rfl fw_Model_59 ?_
                        have hI := st_many hI (v := v111 - 1) (by omega) (fun _ a => a.many (by omega))
                        have fx := Fx.st (c := 184) (i := 4) (v := v111 - 1) fx (by first | (dsimp only; omega) | omega | exact not_false)
                        have t116 : (kU h106 184 4 (v111 - 1)) 184 4 = h 184 4 := by rw [kU_at, if_pos ⟨rfl, rfl⟩]; omega
                        have s116 : ∀ j : Nat, (j : Int) < 5 * h 184 4 → (kU h106 184 4 (v111 - 1)) 187 j = h 187 j := fun j hj => by rw [kU_c _ _ _ _ (by decide), fx106 187 j (by first | (dsimp only; omega) | omega | exact not_false), fx97 187 j (by first | (dsimp only; omega) | omega | exact not_false), ak93.1 j (by omega)]; exact hV70.2.2 j hj
                        refine K_aload_n (pc := 119) (i := 63) rfl rfl ?_
                        refine K_getR (pc := 120) (i := 64) (j := 14) (d := 192) rfl S_184 rfl (by decide) rfl fw_Model_31 ?_
                        refine K_iload_n (pc := 123) (i := 65) rfl rfl ?_
                        refine K_iald (pc := 124) (i := 66) rfl S_192 (by omega) (by omega) (by decide) ?_
                        refine K_nm (fun v124 e124 => ?_)
                        have y124 : v124 = h106 192 x1.toNat := by rw [e124, kU_c _ _ _ _ (by decide)]
                        have u124 := ga106 x1.toNat (by omega)
                        rw [← y124] at u124
                        refine K_aload_n (pc := 125) (i := 67) rfl rfl ?_
                        refine K_getR (pc := 126) (i := 68) (j := 14) (d := 192) rfl S_184 rfl (by decide) rfl fw_Model_31 ?_
                        refine K_iconst (pc := 129) (i := 69) rfl ?_
                        refine K_iload_n (pc := 130) (i := 70) rfl rfl ?_
                        refine K_isub (pc := 131) (i := 71) rfl ?_
                        refine K_iald (pc := 132) (i := 72) rfl S_192 (by omega) (by omega) (by decide) ?_
                        refine K_nm (fun v132 e132 => ?_)
                        have y132 : v132 = h106 192 (1 - x1).toNat := by rw [e132, kU_c _ _ _ _ (by decide)]
                        have u132 := ga106 (1 - x1).toNat (by omega)
                        rw [← y132] at u132
                        refine K_isub (pc := 133) (i := 73) rfl ?_
                        refine K_ist (pc := 134) (i := 74) (lo' := [(0, _), (1, _), (2, _), (3, _), (4, _), (5, _), (6, _), (7, _), (8, _)]) rfl rfl rfl rfl ?_
                        refine K_iload (pc := 136) (i := 75) rfl rfl ?_
                        refine K_iload (pc := 138) (i := 76) rfl rfl ?_
                        first | refine K_icmp_le 154 (pc := 140) (i := 77) rfl rfl (by omega) (by omega) (fun b140 => ?_) (fun b140 => ?_) | refine K_icmp_le_an 154 (pc := 140) (i := 77) rfl rfl (fun b140 => ?_) (fun b140 => ?_)
                        · skip
                          refine K_iload (pc := 154) (i := 84) rfl rfl ?_
                          refine K_ist (pc := 156) (i := 85) (lo' := [(0, _), (1, _), (2, _), (3, _), (4, _), (5, _), (6, _), (7, _), (8, _)]) rfl rfl rfl rfl ?_
                          refine K_iload (pc := 158) (i := 86) rfl rfl ?_
                          refine K_iload (pc := 160) (i := 87) rfl rfl ?_
                          first | refine K_icmp_le 170 (pc := 162) (i := 88) rfl rfl (by omega) (by omega) (fun b162 => ?_) (fun b162 => ?_) | refine K_icmp_le_an 170 (pc := 162) (i := 88) rfl rfl (fun b162 => ?_) (fun b162 => ?_)
                          · skip
                            refine K_iload (pc := 170) (i := 91) rfl rfl ?_
                            refine K_ist (pc := 172) (i := 92) (lo' := [(0, _), (1, _), (2, _), (3, _), (4, _), (5, _), (6, _), (7, _), (8, _)]) rfl rfl rfl rfl ?_
                            refine K_inc (pc := 174) (i := 93) (q := 7) (lo' := [(0, _), (1, _), (2, _), (3, _), (4, _), (5, _), (6, _), (7, _), (8, _)]) rfl rfl rfl rfl rfl ?_
                            refine K_goto 70 (pc := 177) (i := 94) rfl rfl ?_
                            refine K_drop (lo' := [(0, .ref (G.2.2.2 184)), (1, kI x1), (2, kI x2), (3, kI x3), (4, kI x4), (5, kI x5), (6, kI x6), (7, kI (x7 + 1))]) [0, 1, 2, 3, 4, 5, 6, 7] rfl ?_
                            exact ih70 x4 x5 (x7 + 1) _ (by omega) hI fx ⟨by omega, t116, s116⟩
                          · skip
                            refine K_iload (pc := 165) (i := 89) rfl rfl ?_
                            refine K_goto 172 (pc := 167) (i := 90) rfl rfl ?_
                            refine K_ist (pc := 172) (i := 92) (lo' := [(0, _), (1, _), (2, _), (3, _), (4, _), (5, _), (6, _), (7, _), (8, _)]) rfl rfl rfl rfl ?_
                            refine K_inc (pc := 174) (i := 93) (q := 7) (lo' := [(0, _), (1, _), (2, _), (3, _), (4, _), (5, _), (6, _), (7, _), (8, _)]) rfl rfl rfl rfl rfl ?_
                            refine K_goto 70 (pc := 177) (i := 94) rfl rfl ?_
                            refine K_drop (lo' := [(0, .ref (G.2.2.2 184)), (1, kI x1), (2, kI x2), (3, kI x3), (4, kI x4), (5, kI (v124 - v132)), (6, kI x6), (7, kI (x7 + 1))]) [0, 1, 2, 3, 4, 5, 6, 7] rfl ?_
                            exact ih70 x4 (v124 - v132) (x7 + 1) _ (by omega) hI fx ⟨by omega, t116, s116⟩
                        · skip
                          refine K_bipush (pc := 143) (i := 78) rfl rfl ?_
                          refine K_iload (pc := 145) (i := 79) rfl rfl ?_
                          refine K_imul (pc := 147) (i := 80) rfl ?_
                          refine K_iload (pc := 148) (i := 81) rfl rfl ?_
                          refine K_iadd (pc := 150) (i := 82) rfl ?_
                          refine K_goto 156 (pc := 151) (i := 83) rfl rfl ?_
                          refine K_ist (pc := 156) (i := 85) (lo' := [(0, _), (1, _), (2, _), (3, _), (4, _), (5, _), (6, _), (7, _), (8, _)]) rfl rfl rfl rfl ?_
                          refine K_iload (pc := 158) (i := 86) rfl rfl ?_
                          refine K_iload (pc := 160) (i := 87) rfl rfl ?_
                          first | refine K_icmp_le 170 (pc := 162) (i := 88) rfl rfl (by omega) (by omega) (fun b162 => ?_) (fun b162 => ?_) | refine K_icmp_le_an 170 (pc := 162) (i := 88) rfl rfl (fun b162 => ?_) (fun b162 => ?_)
                          · skip
                            refine K_iload (pc := 170) (i := 91) rfl rfl ?_
                            refine K_ist (pc := 172) (i := 92) (lo' := [(0, _), (1, _), (2, _), (3, _), (4, _), (5, _), (6, _), (7, _), (8, _)]) rfl rfl rfl rfl ?_
                            refine K_inc (pc := 174) (i := 93) (q := 7) (lo' := [(0, _), (1, _), (2, _), (3, _), (4, _), (5, _), (6, _), (7, _), (8, _)]) rfl rfl rfl rfl rfl ?_
                            refine K_goto 70 (pc := 177) (i := 94) rfl rfl ?_
                            refine K_drop (lo' := [(0, .ref (G.2.2.2 184)), (1, kI x1), (2, kI x2), (3, kI x3), (4, kI ((10 * x6) + x7)), (5, kI x5), (6, kI x6), (7, kI (x7 + 1))]) [0, 1, 2, 3, 4, 5, 6, 7] rfl ?_
                            exact ih70 ((10 * x6) + x7) x5 (x7 + 1) _ (by omega) hI fx ⟨by omega, t116, s116⟩
                          · skip
                            refine K_iload (pc := 165) (i := 89) rfl rfl ?_
                            refine K_goto 172 (pc := 167) (i := 90) rfl rfl ?_
                            refine K_ist (pc := 172) (i := 92) (lo' := [(0, _), (1, _), (2, _), (3, _), (4, _), (5, _), (6, _), (7, _), (8, _)]) rfl rfl rfl rfl ?_
                            refine K_inc (pc := 174) (i := 93) (q := 7) (lo' := [(0, _), (1, _), (2, _), (3, _), (4, _), (5, _), (6, _), (7, _), (8, _)]) rfl rfl rfl rfl rfl ?_
                            refine K_goto 70 (pc := 177) (i := 94) rfl rfl ?_
                            refine K_drop (lo' := [(0, .ref (G.2.2.2 184)), (1, kI x1), (2, kI x2), (3, kI x3), (4, kI ((10 * x6) + x7)), (5, kI (v124 - v132)), (6, kI x6), (7, kI (x7 + 1))]) [0, 1, 2, 3, 4, 5, 6, 7] rfl ?_
                            exact ih70 ((10 * x6) + x7) (v124 - v132) (x7 + 1) _ (by omega) hI fx ⟨by omega, t116, s116⟩
                exact L70 _ x4 x5 1 _ (Nat.lt_succ_self _) hI fx ⟨by omega, hV60.2⟩
          exact L60 _ (-9) (-99) 0 _ (Nat.lt_succ_self _) hI fx ⟨by omega, rfl, fun _ _ => rfl⟩
        · skip
          refine K_bipush (pc := 46) (i := 24) rfl rfl ?_
          exact K_retI (pc := 48) (i := 25) rfl rfl ⟨fx, ⟨hI, rfl, fun _ _ => rfl⟩⟩
      · skip
        refine K_bipush (pc := 34) (i := 18) rfl rfl ?_
        exact K_retI (pc := 36) (i := 19) rfl rfl ⟨fx, ⟨hI, rfl, fun _ _ => rfl⟩⟩
