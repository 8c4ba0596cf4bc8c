def haK (k : Nat → Int) (i j : Nat) : Int := (k (5 * j + 1) - k (5 * i + 1)) * k (5 * i + 3) * k (5 * j + 3)
set_option maxHeartbeats 4000000 in
set_option maxRecDepth 100000 in
theorem c_Model_highAbove (G : kG) {g : kGh} {h : kH} {x1 : Int} {x2 : Int} (hk : FK (h 187) (h 184 4)) (s1 : 0 ≤ x1 ∧ x1 < h 184 4) (s2 : 0 ≤ x2 ∧ x2 < h 184 4) (hI : Gd g h) : Ctr G y_Model_highAbove X_Model_highAbove 1 [.ref (G.2.2.2 184), kI x1, kI x2] h (kQi (fun z h' => h' = h ∧ z = haK (h 187) x1.toNat x2.toNat ∧ -3240 ≤ z ∧ z ≤ 3240)) := by
  refine Ctr.ofK (by decide) rfl T_Model_highAbove (Nat.le_of_ble_eq_true rfl) (lo := [(0, .ref (G.2.2.2 184)), (1, kI x1), (2, kI x2)]) rfl ?_
  have hm8 := rd_many hI
  refine K_aload_n (pc := 0) (i := 0) rfl rfl ?_
  refine K_getR (pc := 1) (i := 1) (j := 3) (d := 187) rfl S_184 rfl (by decide) rfl fw_Model_16 ?_
  refine K_iconst (pc := 4) (i := 2) rfl ?_
  refine K_iload_n (pc := 5) (i := 3) rfl rfl ?_
  refine K_imul (pc := 6) (i := 4) rfl ?_
  refine K_iconst (pc := 7) (i := 5) rfl ?_
  refine K_iadd (pc := 8) (i := 6) rfl ?_
  refine K_iald (pc := 9) (i := 7) rfl S_187 (by omega) (by omega) (by decide) ?_
  refine K_nm (fun v9 e9 => ?_)
  have w9 : h 187 (5 * x2.toNat + 1) = v9 := by rw [e9]; congr 1; omega
  have u9 := (hk x2.toNat (by omega)).1
  rw [w9] at u9
  refine K_aload_n (pc := 10) (i := 8) rfl rfl ?_
  refine K_getR (pc := 11) (i := 9) (j := 3) (d := 187) rfl S_184 rfl (by decide) rfl fw_Model_16 ?_
  refine K_iconst (pc := 14) (i := 10) rfl ?_
  refine K_iload_n (pc := 15) (i := 11) rfl rfl ?_
  refine K_imul (pc := 16) (i := 12) rfl ?_
  refine K_iconst (pc := 17) (i := 13) rfl ?_
  refine K_iadd (pc := 18) (i := 14) rfl ?_
  refine K_iald (pc := 19) (i := 15) rfl S_187 (by omega) (by omega) (by decide) ?_
  refine K_nm (fun v19 e19 => ?_)
  have w19 : h 187 (5 * x1.toNat + 1) = v19 := by rw [e19]; congr 1; omega
  have u19 := (hk x1.toNat (by omega)).1
  rw [w19] at u19
  refine K_isub (pc := 20) (i := 16) rfl ?_
  refine K_aload_n (pc := 21) (i := 17) rfl rfl ?_
  refine K_getR (pc := 22) (i := 18) (j := 3) (d := 187) rfl S_184 rfl (by decide) rfl fw_Model_16 ?_
  refine K_iconst (pc := 25) (i := 19) rfl ?_
  refine K_iload_n (pc := 26) (i := 20) rfl rfl ?_
  refine K_imul (pc := 27) (i := 21) rfl ?_
  refine K_iconst (pc := 28) (i := 22) rfl ?_
  refine K_iadd (pc := 29) (i := 23) rfl ?_
  refine K_iald (pc := 30) (i := 24) rfl S_187 (by omega) (by omega) (by decide) ?_
  refine K_nm (fun v30 e30 => ?_)
  have r30 := (rd_mkites hI ((5 * x1) + 3).toNat).2.1 (by omega)
  rw [← e30] at r30
  have w30 : h 187 (5 * x1.toNat + 3) = v30 := by rw [e30]; congr 1; omega
  have u30 := (hk x1.toNat (by omega)).2.2.1
  rw [w30] at u30
  refine K_imul (pc := 31) (i := 25) rfl ?_
  refine K_nm (fun v31 e31 => ?_)
  have u31 := mul_bd (A := 40) (B := 9) (a := v9 - v19) (b := v30) (by omega) (by omega)
  rw [← e31] at u31
  refine K_aload_n (pc := 32) (i := 26) rfl rfl ?_
  refine K_getR (pc := 33) (i := 27) (j := 3) (d := 187) rfl S_184 rfl (by decide) rfl fw_Model_16 ?_
  refine K_iconst (pc := 36) (i := 28) rfl ?_
  refine K_iload_n (pc := 37) (i := 29) rfl rfl ?_
  refine K_imul (pc := 38) (i := 30) rfl ?_
  refine K_iconst (pc := 39) (i := 31) rfl ?_
  refine K_iadd (pc := 40) (i := 32) rfl ?_
  refine K_iald (pc := 41) (i := 33) rfl S_187 (by omega) (by omega) (by decide) ?_
  refine K_nm (fun v41 e41 => ?_)
  have r41 := (rd_mkites hI ((5 * x2) + 3).toNat).2.1 (by omega)
  rw [← e41] at r41
  have w41 : h 187 (5 * x2.toNat + 3) = v41 := by rw [e41]; congr 1; omega
  have u41 := (hk x2.toNat (by omega)).2.2.1
  rw [w41] at u41
  refine K_imul (pc := 42) (i := 34) rfl ?_
  refine K_nm (fun v42 e42 => ?_)
  have u42 := mul_bd (A := 360) (B := 9) (a := v31) (b := v41) (by omega) (by omega)
  rw [← e42] at u42
  exact K_retI (pc := 43) (i := 35) rfl rfl ⟨rfl, by unfold haK; rw [w9, w19, w30, w41, e42, e31], by omega⟩
/-- how high, of what: with the sign of the drift taken away -/
def haS (k : Nat → Int) (i j : Nat) : Int := if drK k i j < 0 then - haK k i j else haK k i j
def loK (k : Nat → Int) (q i j : Nat) : Prop := haS k q i * kAbs (drK k q j) < haS k q j * kAbs (drK k q i) ∨ (haS k q i * kAbs (drK k q j) = haS k q j * kAbs (drK k q i) ∧ i < j)
theorem haS_n {k : Nat → Int} {i j : Nat} (h : drK k i j < 0) : haS k i j = - haK k i j := by unfold haS; rw [if_pos h]
theorem haS_p {k : Nat → Int} {i j : Nat} (h : ¬ drK k i j < 0) : haS k i j = haK k i j := by unfold haS; rw [if_neg h]
theorem kAbs_n {a : Int} (h : a < 0) : kAbs a = -a := by unfold kAbs; rw [if_neg (by omega)]; omega
theorem kAbs_p {a : Int} (h : ¬ a < 0) : kAbs a = a := by unfold kAbs; rw [if_pos (by omega)]
set_option maxHeartbeats 4000000 in
set_option maxRecDepth 100000 in
theorem c_Model_isLower (G : kG) {g : kGh} {h : kH} {x1 : Int} {x2 : Int} {x3 : Int} (hk : FK (h 187) (h 184 4)) (s1 : 0 ≤ x1 ∧ x1 < h 184 4) (s2 : 0 ≤ x2 ∧ x2 < h 184 4) (s3 : 0 ≤ x3 ∧ x3 < h 184 4) (hI : Gd g h) : Ctr G y_Model_isLower X_Model_isLower 2 [.ref (G.2.2.2 184), kI x1, kI x2, kI x3] h (kQi (fun z h' => h' = h ∧ ((z = 1 ∧ loK (h 187) x1.toNat x2.toNat x3.toNat) ∨ (z = 0 ∧ ¬ loK (h 187) x1.toNat x2.toNat x3.toNat)))) := by
  refine Ctr.ofK (by decide) rfl T_Model_isLower (Nat.le_of_ble_eq_true rfl) (lo := [(0, .ref (G.2.2.2 184)), (1, kI x1), (2, kI x2), (3, kI x3)]) rfl ?_
  have hm8 := rd_many hI
  refine K_aload_n (pc := 0) (i := 0) rfl rfl ?_
  refine K_iload_n (pc := 1) (i := 1) rfl rfl ?_
  refine K_iload_n (pc := 2) (i := 2) rfl rfl ?_
  refine K_cVI (pc := 3) (i := 3) rfl (c_Model_highAbove G (x1 := x1) (x2 := x2) (hk := hk) (hI := hI) (s1 := by omega) (s2 := by omega)) S_184 rfl (lv_Model_150 rfl) rfl rfl rfl rfl rfl (fun v3 h3 q3 => ?_)
  obtain ⟨eh, r3⟩ := q3
  rw [eh]; clear eh
  refine K_ist (pc := 6) (i := 4) (lo' := [(0, _), (1, _), (2, _), (3, _), (4, _)]) rfl rfl rfl rfl ?_
  refine K_aload_n (pc := 8) (i := 5) rfl rfl ?_
  refine K_iconst (pc := 9) (i := 6) rfl ?_
  refine K_iload_n (pc := 10) (i := 7) rfl rfl ?_
  refine K_iload_n (pc := 11) (i := 8) rfl rfl ?_
  refine K_cVI (pc := 12) (i := 9) rfl (c_Model_drift G (x1 := 0) (x2 := x1) (x3 := x2) (hk := FK0 hk) (hI := hI) (hn := by omega) (s1 := by omega) (s2 := by omega) (s3 := by omega)) S_184 rfl (lv_Model_133 rfl) rfl rfl rfl rfl rfl (fun v12 h12 q12 => ?_)
  obtain ⟨eh, r12⟩ := q12
  rw [eh]; clear eh
  rw [show kap h (0 : Int).toNat = h 187 from kap_0 h] at r12
  refine K_ist (pc := 15) (i := 10) (lo' := [(0, _), (1, _), (2, _), (3, _), (4, _), (5, _)]) rfl rfl rfl rfl ?_
  refine K_aload_n (pc := 17) (i := 11) rfl rfl ?_
  refine K_iload_n (pc := 18) (i := 12) rfl rfl ?_
  refine K_iload_n (pc := 19) (i := 13) rfl rfl ?_
  refine K_cVI (pc := 20) (i := 14) rfl (c_Model_highAbove G (x1 := x1) (x2 := x3) (hk := hk) (hI := hI) (s1 := by omega) (s2 := by omega)) S_184 rfl (lv_Model_150 rfl) rfl rfl rfl rfl rfl (fun v20 h20 q20 => ?_)
  obtain ⟨eh, r20⟩ := q20
  rw [eh]; clear eh
  refine K_ist (pc := 23) (i := 15) (lo' := [(0, _), (1, _), (2, _), (3, _), (4, _), (5, _), (6, _)]) rfl rfl rfl rfl ?_
  refine K_aload_n (pc := 25) (i := 16) rfl rfl ?_
  refine K_iconst (pc := 26) (i := 17) rfl ?_
  refine K_iload_n (pc := 27) (i := 18) rfl rfl ?_
  refine K_iload_n (pc := 28) (i := 19) rfl rfl ?_
  refine K_cVI (pc := 29) (i := 20) rfl (c_Model_drift G (x1 := 0) (x2 := x1) (x3 := x3) (hk := FK0 hk) (hI := hI) (hn := by omega) (s1 := by omega) (s2 := by omega) (s3 := by omega)) S_184 rfl (lv_Model_133 rfl) rfl rfl rfl rfl rfl (fun v29 h29 q29 => ?_)
  obtain ⟨eh, r29⟩ := q29
  rw [eh]; clear eh
  rw [show kap h (0 : Int).toNat = h 187 from kap_0 h] at r29
  refine K_ist (pc := 32) (i := 21) (lo' := [(0, _), (1, _), (2, _), (3, _), (4, _), (5, _), (6, _), (7, _)]) rfl rfl rfl rfl ?_
  refine K_iload (pc := 34) (i := 22) rfl rfl ?_
  first | refine K_if_ge 45 (pc := 36) (i := 23) rfl rfl (by omega) (fun b36 => ?_) (fun b36 => ?_) | refine K_if_ge_an 45 (pc := 36) (i := 23) rfl rfl (fun b36 => ?_) (fun b36 => ?_)
  · skip
    refine K_iload (pc := 45) (i := 27) rfl rfl ?_
    refine K_ist (pc := 47) (i := 28) (lo' := [(0, _), (1, _), (2, _), (3, _), (4, _), (5, _), (6, _), (7, _)]) rfl rfl rfl rfl ?_
    have A4 : v3 = haS (h 187) x1.toNat x2.toNat := by first | (rw [haS_n (by rw [← r12.1]; omega), ← r3.1]; done) | (rw [haS_p (by rw [← r12.1]; omega), ← r3.1]; done) | exact False.elim (by omega)
    refine K_iload (pc := 49) (i := 29) rfl rfl ?_
    first | refine K_if_ge 60 (pc := 51) (i := 30) rfl rfl (by omega) (fun b51 => ?_) (fun b51 => ?_) | refine K_if_ge_an 60 (pc := 51) (i := 30) rfl rfl (fun b51 => ?_) (fun b51 => ?_)
    · skip
      refine K_iload (pc := 60) (i := 34) rfl rfl ?_
      refine K_ist (pc := 62) (i := 35) (lo' := [(0, _), (1, _), (2, _), (3, _), (4, _), (5, _), (6, _), (7, _)]) rfl rfl rfl rfl ?_
      have A5 : v12 = kAbs (drK (h 187) x1.toNat x2.toNat) := by first | (rw [← r12.1, kAbs_n (by omega)]; done) | (rw [← r12.1, kAbs_p (by omega)]; done) | exact False.elim (by omega)
      refine K_iload (pc := 64) (i := 36) rfl rfl ?_
      first | refine K_if_ge 75 (pc := 66) (i := 37) rfl rfl (by omega) (fun b66 => ?_) (fun b66 => ?_) | refine K_if_ge_an 75 (pc := 66) (i := 37) rfl rfl (fun b66 => ?_) (fun b66 => ?_)
      · skip
        refine K_iload (pc := 75) (i := 41) rfl rfl ?_
        refine K_ist (pc := 77) (i := 42) (lo' := [(0, _), (1, _), (2, _), (3, _), (4, _), (5, _), (6, _), (7, _)]) rfl rfl rfl rfl ?_
        have A6 : v20 = haS (h 187) x1.toNat x3.toNat := by first | (rw [haS_n (by rw [← r29.1]; omega), ← r20.1]; done) | (rw [haS_p (by rw [← r29.1]; omega), ← r20.1]; done) | exact False.elim (by omega)
        refine K_iload (pc := 79) (i := 43) rfl rfl ?_
        first | refine K_if_ge 90 (pc := 81) (i := 44) rfl rfl (by omega) (fun b81 => ?_) (fun b81 => ?_) | refine K_if_ge_an 90 (pc := 81) (i := 44) rfl rfl (fun b81 => ?_) (fun b81 => ?_)
        · skip
          refine K_iload (pc := 90) (i := 48) rfl rfl ?_
          refine K_ist (pc := 92) (i := 49) (lo' := [(0, _), (1, _), (2, _), (3, _), (4, _), (5, _), (6, _), (7, _)]) rfl rfl rfl rfl ?_
          have A7 : v29 = kAbs (drK (h 187) x1.toNat x3.toNat) := by first | (rw [← r29.1, kAbs_n (by omega)]; done) | (rw [← r29.1, kAbs_p (by omega)]; done) | exact False.elim (by omega)
          have u1 := mul_bd (A := 3240) (B := 720) (a := v3) (b := v29) (by omega) (by omega)
          have u2 := mul_bd (A := 3240) (B := 720) (a := v20) (b := v12) (by omega) (by omega)
          have P1 : v3 * v29 = haS (h 187) x1.toNat x2.toNat * kAbs (drK (h 187) x1.toNat x3.toNat) := by rw [A4, A7]
          have P2 : v20 * v12 = haS (h 187) x1.toNat x3.toNat * kAbs (drK (h 187) x1.toNat x2.toNat) := by rw [A6, A5]
          refine K_iload (pc := 94) (i := 50) rfl rfl ?_
          refine K_i2l (pc := 96) (i := 51) rfl ?_
          refine K_eqJ (kI2l_eq (a := v3) (by omega)) ?_
          refine K_iload (pc := 97) (i := 52) rfl rfl ?_
          refine K_i2l (pc := 99) (i := 53) rfl ?_
          refine K_eqJ (kI2l_eq (a := v29) (by omega)) ?_
          refine K_lmul (pc := 100) (i := 54) rfl ?_
          refine K_iload (pc := 101) (i := 55) rfl rfl ?_
          refine K_i2l (pc := 103) (i := 56) rfl ?_
          refine K_eqJ (kI2l_eq (a := v20) (by omega)) ?_
          refine K_iload (pc := 104) (i := 57) rfl rfl ?_
          refine K_i2l (pc := 106) (i := 58) rfl ?_
          refine K_eqJ (kI2l_eq (a := v12) (by omega)) ?_
          refine K_lmul (pc := 107) (i := 59) rfl ?_
          refine K_lcmp (pc := 108) (i := 60) rfl ?_
          refine K_nm (fun v108 e108 => ?_)
          have r108 := kLcmp_R (v3 * v29) (v20 * v12)
          rw [← e108] at r108
          have t108 := kLcmp_s (a := v3 * v29) (b := v20 * v12) (by omega) (by omega)
          rw [← e108, P1, P2] at t108
          first | refine K_if_lt 135 (pc := 109) (i := 61) rfl rfl (by omega) (fun b109 => ?_) (fun b109 => ?_) | refine K_if_lt_an 135 (pc := 109) (i := 61) rfl rfl (fun b109 => ?_) (fun b109 => ?_)
          · skip
            refine K_iconst (pc := 135) (i := 77) rfl ?_
            refine K_goto 140 (pc := 136) (i := 78) rfl rfl ?_
            exact K_retZ (pc := 140) (i := 80) rfl rfl (by omega) ⟨rfl, by unfold loK; omega⟩
          · skip
            refine K_iload (pc := 112) (i := 62) rfl rfl ?_
            refine K_i2l (pc := 114) (i := 63) rfl ?_
            refine K_eqJ (kI2l_eq (a := v3) (by omega)) ?_
            refine K_iload (pc := 115) (i := 64) rfl rfl ?_
            refine K_i2l (pc := 117) (i := 65) rfl ?_
            refine K_eqJ (kI2l_eq (a := v29) (by omega)) ?_
            refine K_lmul (pc := 118) (i := 66) rfl ?_
            refine K_iload (pc := 119) (i := 67) rfl rfl ?_
            refine K_i2l (pc := 121) (i := 68) rfl ?_
            refine K_eqJ (kI2l_eq (a := v20) (by omega)) ?_
            refine K_iload (pc := 122) (i := 69) rfl rfl ?_
            refine K_i2l (pc := 124) (i := 70) rfl ?_
            refine K_eqJ (kI2l_eq (a := v12) (by omega)) ?_
            refine K_lmul (pc := 125) (i := 71) rfl ?_
            refine K_lcmp (pc := 126) (i := 72) rfl ?_
            refine K_nm (fun v126 e126 => ?_)
            have r126 := kLcmp_R (v3 * v29) (v20 * v12)
            rw [← e126] at r126
            have t126 := kLcmp_s (a := v3 * v29) (b := v20 * v12) (by omega) (by omega)
            rw [← e126, P1, P2] at t126
            first | refine K_if_ne 139 (pc := 127) (i := 73) rfl rfl (by omega) (fun b127 => ?_) (fun b127 => ?_) | refine K_if_ne_an 139 (pc := 127) (i := 73) rfl rfl (fun b127 => ?_) (fun b127 => ?_)
            · skip
              refine K_iconst (pc := 139) (i := 79) rfl ?_
              exact K_retZ (pc := 140) (i := 80) rfl rfl (by omega) ⟨rfl, by unfold loK; omega⟩
            · skip
              refine K_iload_n (pc := 130) (i := 74) rfl rfl ?_
              refine K_iload_n (pc := 131) (i := 75) rfl rfl ?_
              first | refine K_icmp_ge 139 (pc := 132) (i := 76) rfl rfl (by omega) (by omega) (fun b132 => ?_) (fun b132 => ?_) | refine K_icmp_ge_an 139 (pc := 132) (i := 76) rfl rfl (fun b132 => ?_) (fun b132 => ?_)
              · skip
                refine K_iconst (pc := 139) (i := 79) rfl ?_
                exact K_retZ (pc := 140) (i := 80) rfl rfl (by omega) ⟨rfl, by unfold loK; omega⟩
              · skip
                refine K_iconst (pc := 135) (i := 77) rfl ?_
                refine K_goto 140 (pc := 136) (i := 78) rfl rfl ?_
                exact K_retZ (pc := 140) (i := 80) rfl rfl (by omega) ⟨rfl, by unfold loK; omega⟩
        · skip
          refine K_iload (pc := 84) (i := 45) rfl rfl ?_
          refine K_ineg (pc := 86) (i := 46) rfl ?_
          refine K_goto 92 (pc := 87) (i := 47) rfl rfl ?_
          refine K_ist (pc := 92) (i := 49) (lo' := [(0, _), (1, _), (2, _), (3, _), (4, _), (5, _), (6, _), (7, _)]) rfl rfl rfl rfl ?_
          have A7 : -v29 = kAbs (drK (h 187) x1.toNat x3.toNat) := by first | (rw [← r29.1, kAbs_n (by omega)]; done) | (rw [← r29.1, kAbs_p (by omega)]; done) | exact False.elim (by omega)
          have u1 := mul_bd (A := 3240) (B := 720) (a := v3) (b := -v29) (by omega) (by omega)
          have u2 := mul_bd (A := 3240) (B := 720) (a := v20) (b := v12) (by omega) (by omega)
          have P1 : v3 * -v29 = haS (h 187) x1.toNat x2.toNat * kAbs (drK (h 187) x1.toNat x3.toNat) := by rw [A4, A7]
          have P2 : v20 * v12 = haS (h 187) x1.toNat x3.toNat * kAbs (drK (h 187) x1.toNat x2.toNat) := by rw [A6, A5]
          refine K_iload (pc := 94) (i := 50) rfl rfl ?_
          refine K_i2l (pc := 96) (i := 51) rfl ?_
          refine K_eqJ (kI2l_eq (a := v3) (by omega)) ?_
          refine K_iload (pc := 97) (i := 52) rfl rfl ?_
          refine K_i2l (pc := 99) (i := 53) rfl ?_
          refine K_eqJ (kI2l_eq (a := -v29) (by omega)) ?_
          refine K_lmul (pc := 100) (i := 54) rfl ?_
          refine K_iload (pc := 101) (i := 55) rfl rfl ?_
          refine K_i2l (pc := 103) (i := 56) rfl ?_
          refine K_eqJ (kI2l_eq (a := v20) (by omega)) ?_
          refine K_iload (pc := 104) (i := 57) rfl rfl ?_
          refine K_i2l (pc := 106) (i := 58) rfl ?_
          refine K_eqJ (kI2l_eq (a := v12) (by omega)) ?_
          refine K_lmul (pc := 107) (i := 59) rfl ?_
          refine K_lcmp (pc := 108) (i := 60) rfl ?_
          refine K_nm (fun v108 e108 => ?_)
          have r108 := kLcmp_R (v3 * (-v29)) (v20 * v12)
          rw [← e108] at r108
          have t108 := kLcmp_s (a := v3 * -v29) (b := v20 * v12) (by omega) (by omega)
          rw [← e108, P1, P2] at t108
          first | refine K_if_lt 135 (pc := 109) (i := 61) rfl rfl (by omega) (fun b109 => ?_) (fun b109 => ?_) | refine K_if_lt_an 135 (pc := 109) (i := 61) rfl rfl (fun b109 => ?_) (fun b109 => ?_)
          · skip
            refine K_iconst (pc := 135) (i := 77) rfl ?_
            refine K_goto 140 (pc := 136) (i := 78) rfl rfl ?_
            exact K_retZ (pc := 140) (i := 80) rfl rfl (by omega) ⟨rfl, by unfold loK; omega⟩
          · skip
            refine K_iload (pc := 112) (i := 62) rfl rfl ?_
            refine K_i2l (pc := 114) (i := 63) rfl ?_
            refine K_eqJ (kI2l_eq (a := v3) (by omega)) ?_
            refine K_iload (pc := 115) (i := 64) rfl rfl ?_
            refine K_i2l (pc := 117) (i := 65) rfl ?_
            refine K_eqJ (kI2l_eq (a := -v29) (by omega)) ?_
            refine K_lmul (pc := 118) (i := 66) rfl ?_
            refine K_iload (pc := 119) (i := 67) rfl rfl ?_
            refine K_i2l (pc := 121) (i := 68) rfl ?_
            refine K_eqJ (kI2l_eq (a := v20) (by omega)) ?_
            refine K_iload (pc := 122) (i := 69) rfl rfl ?_
            refine K_i2l (pc := 124) (i := 70) rfl ?_
            refine K_eqJ (kI2l_eq (a := v12) (by omega)) ?_
            refine K_lmul (pc := 125) (i := 71) rfl ?_
            refine K_lcmp (pc := 126) (i := 72) rfl ?_
            refine K_nm (fun v126 e126 => ?_)
            have r126 := kLcmp_R (v3 * (-v29)) (v20 * v12)
            rw [← e126] at r126
            have t126 := kLcmp_s (a := v3 * -v29) (b := v20 * v12) (by omega) (by omega)
            rw [← e126, P1, P2] at t126
            first | refine K_if_ne 139 (pc := 127) (i := 73) rfl rfl (by omega) (fun b127 => ?_) (fun b127 => ?_) | refine K_if_ne_an 139 (pc := 127) (i := 73) rfl rfl (fun b127 => ?_) (fun b127 => ?_)
            · skip
              refine K_iconst (pc := 139) (i := 79) rfl ?_
              exact K_retZ (pc := 140) (i := 80) rfl rfl (by omega) ⟨rfl, by unfold loK; omega⟩
            · skip
              refine K_iload_n (pc := 130) (i := 74) rfl rfl ?_
              refine K_iload_n (pc := 131) (i := 75) rfl rfl ?_
              first | refine K_icmp_ge 139 (pc := 132) (i := 76) rfl rfl (by omega) (by omega) (fun b132 => ?_) (fun b132 => ?_) | refine K_icmp_ge_an 139 (pc := 132) (i := 76) rfl rfl (fun b132 => ?_) (fun b132 => ?_)
              · skip
                refine K_iconst (pc := 139) (i := 79) rfl ?_
                exact K_retZ (pc := 140) (i := 80) rfl rfl (by omega) ⟨rfl, by unfold loK; omega⟩
              · skip
                refine K_iconst (pc := 135) (i := 77) rfl ?_
                refine K_goto 140 (pc := 136) (i := 78) rfl rfl ?_
                exact K_retZ (pc := 140) (i := 80) rfl rfl (by omega) ⟨rfl, by unfold loK; omega⟩
      · skip
        refine K_iload (pc := 69) (i := 38) rfl rfl ?_
        refine K_ineg (pc := 71) (i := 39) rfl ?_
        refine K_goto 77 (pc := 72) (i := 40) rfl rfl ?_
        refine K_ist (pc := 77) (i := 42) (lo' := [(0, _), (1, _), (2, _), (3, _), (4, _), (5, _), (6, _), (7, _)]) rfl rfl rfl rfl ?_
        have A6 : -v20 = haS (h 187) x1.toNat x3.toNat := by first | (rw [haS_n (by rw [← r29.1]; omega), ← r20.1]; done) | (rw [haS_p (by rw [← r29.1]; omega), ← r20.1]; done) | exact False.elim (by omega)
        refine K_iload (pc := 79) (i := 43) rfl rfl ?_
        first | refine K_if_ge 90 (pc := 81) (i := 44) rfl rfl (by omega) (fun b81 => ?_) (fun b81 => ?_) | refine K_if_ge_an 90 (pc := 81) (i := 44) rfl rfl (fun b81 => ?_) (fun b81 => ?_)
        · skip
          refine K_iload (pc := 90) (i := 48) rfl rfl ?_
          refine K_ist (pc := 92) (i := 49) (lo' := [(0, _), (1, _), (2, _), (3, _), (4, _), (5, _), (6, _), (7, _)]) rfl rfl rfl rfl ?_
          have A7 : v29 = kAbs (drK (h 187) x1.toNat x3.toNat) := by first | (rw [← r29.1, kAbs_n (by omega)]; done) | (rw [← r29.1, kAbs_p (by omega)]; done) | exact False.elim (by omega)
          have u1 := mul_bd (A := 3240) (B := 720) (a := v3) (b := v29) (by omega) (by omega)
          have u2 := mul_bd (A := 3240) (B := 720) (a := -v20) (b := v12) (by omega) (by omega)
          have P1 : v3 * v29 = haS (h 187) x1.toNat x2.toNat * kAbs (drK (h 187) x1.toNat x3.toNat) := by rw [A4, A7]
          have P2 : -v20 * v12 = haS (h 187) x1.toNat x3.toNat * kAbs (drK (h 187) x1.toNat x2.toNat) := by rw [A6, A5]
          refine K_iload (pc := 94) (i := 50) rfl rfl ?_
          refine K_i2l (pc := 96) (i := 51) rfl ?_
          refine K_eqJ (kI2l_eq (a := v3) (by omega)) ?_
          refine K_iload (pc := 97) (i := 52) rfl rfl ?_
          refine K_i2l (pc := 99) (i := 53) rfl ?_
          refine K_eqJ (kI2l_eq (a := v29) (by omega)) ?_
          refine K_lmul (pc := 100) (i := 54) rfl ?_
          refine K_iload (pc := 101) (i := 55) rfl rfl ?_
          refine K_i2l (pc := 103) (i := 56) rfl ?_
          refine K_eqJ (kI2l_eq (a := -v20) (by omega)) ?_
          refine K_iload (pc := 104) (i := 57) rfl rfl ?_
          refine K_i2l (pc := 106) (i := 58) rfl ?_
          refine K_eqJ (kI2l_eq (a := v12) (by omega)) ?_
          refine K_lmul (pc := 107) (i := 59) rfl ?_
          refine K_lcmp (pc := 108) (i := 60) rfl ?_
          refine K_nm (fun v108 e108 => ?_)
          have r108 := kLcmp_R (v3 * v29) ((-v20) * v12)
          rw [← e108] at r108
          have t108 := kLcmp_s (a := v3 * v29) (b := -v20 * v12) (by omega) (by omega)
          rw [← e108, P1, P2] at t108
          first | refine K_if_lt 135 (pc := 109) (i := 61) rfl rfl (by omega) (fun b109 => ?_) (fun b109 => ?_) | refine K_if_lt_an 135 (pc := 109) (i := 61) rfl rfl (fun b109 => ?_) (fun b109 => ?_)
          · skip
            refine K_iconst (pc := 135) (i := 77) rfl ?_
            refine K_goto 140 (pc := 136) (i := 78) rfl rfl ?_
            exact K_retZ (pc := 140) (i := 80) rfl rfl (by omega) ⟨rfl, by unfold loK; omega⟩
          · skip
            refine K_iload (pc := 112) (i := 62) rfl rfl ?_
            refine K_i2l (pc := 114) (i := 63) rfl ?_
            refine K_eqJ (kI2l_eq (a := v3) (by omega)) ?_
            refine K_iload (pc := 115) (i := 64) rfl rfl ?_
            refine K_i2l (pc := 117) (i := 65) rfl ?_
            refine K_eqJ (kI2l_eq (a := v29) (by omega)) ?_
            refine K_lmul (pc := 118) (i := 66) rfl ?_
            refine K_iload (pc := 119) (i := 67) rfl rfl ?_
            refine K_i2l (pc := 121) (i := 68) rfl ?_
            refine K_eqJ (kI2l_eq (a := -v20) (by omega)) ?_
            refine K_iload (pc := 122) (i := 69) rfl rfl ?_
            refine K_i2l (pc := 124) (i := 70) rfl ?_
            refine K_eqJ (kI2l_eq (a := v12) (by omega)) ?_
            refine K_lmul (pc := 125) (i := 71) rfl ?_
            refine K_lcmp (pc := 126) (i := 72) rfl ?_
            refine K_nm (fun v126 e126 => ?_)
            have r126 := kLcmp_R (v3 * v29) ((-v20) * v12)
            rw [← e126] at r126
            have t126 := kLcmp_s (a := v3 * v29) (b := -v20 * v12) (by omega) (by omega)
            rw [← e126, P1, P2] at t126
            first | refine K_if_ne 139 (pc := 127) (i := 73) rfl rfl (by omega) (fun b127 => ?_) (fun b127 => ?_) | refine K_if_ne_an 139 (pc := 127) (i := 73) rfl rfl (fun b127 => ?_) (fun b127 => ?_)
            · skip
              refine K_iconst (pc := 139) (i := 79) rfl ?_
              exact K_retZ (pc := 140) (i := 80) rfl rfl (by omega) ⟨rfl, by unfold loK; omega⟩
            · skip
              refine K_iload_n (pc := 130) (i := 74) rfl rfl ?_
              refine K_iload_n (pc := 131) (i := 75) rfl rfl ?_
              first | refine K_icmp_ge 139 (pc := 132) (i := 76) rfl rfl (by omega) (by omega) (fun b132 => ?_) (fun b132 => ?_) | refine K_icmp_ge_an 139 (pc := 132) (i := 76) rfl rfl (fun b132 => ?_) (fun b132 => ?_)
              · skip
                refine K_iconst (pc := 139) (i := 79) rfl ?_
                exact K_retZ (pc := 140) (i := 80) rfl rfl (by omega) ⟨rfl, by unfold loK; omega⟩
              · skip
                refine K_iconst (pc := 135) (i := 77) rfl ?_
                refine K_goto 140 (pc := 136) (i := 78) rfl rfl ?_
                exact K_retZ (pc := 140) (i := 80) rfl rfl (by omega) ⟨rfl, by unfold loK; omega⟩
        · skip
          refine K_iload (pc := 84) (i := 45) rfl rfl ?_
          refine K_ineg (pc := 86) (i := 46) rfl ?_
          refine K_goto 92 (pc := 87) (i := 47) rfl rfl ?_
          refine K_ist (pc := 92) (i := 49) (lo' := [(0, _), (1, _), (2, _), (3, _), (4, _), (5, _), (6, _), (7, _)]) rfl rfl rfl rfl ?_
          have A7 : -v29 = kAbs (drK (h 187) x1.toNat x3.toNat) := by first | (rw [← r29.1, kAbs_n (by omega)]; done) | (rw [← r29.1, kAbs_p (by omega)]; done) | exact False.elim (by omega)
          have u1 := mul_bd (A := 3240) (B := 720) (a := v3) (b := -v29) (by omega) (by omega)
          have u2 := mul_bd (A := 3240) (B := 720) (a := -v20) (b := v12) (by omega) (by omega)
          have P1 : v3 * -v29 = haS (h 187) x1.toNat x2.toNat * kAbs (drK (h 187) x1.toNat x3.toNat) := by rw [A4, A7]
          have P2 : -v20 * v12 = haS (h 187) x1.toNat x3.toNat * kAbs (drK (h 187) x1.toNat x2.toNat) := by rw [A6, A5]
          refine K_iload (pc := 94) (i := 50) rfl rfl ?_
          refine K_i2l (pc := 96) (i := 51) rfl ?_
          refine K_eqJ (kI2l_eq (a := v3) (by omega)) ?_
          refine K_iload (pc := 97) (i := 52) rfl rfl ?_
          refine K_i2l (pc := 99) (i := 53) rfl ?_
          refine K_eqJ (kI2l_eq (a := -v29) (by omega)) ?_
          refine K_lmul (pc := 100) (i := 54) rfl ?_
          refine K_iload (pc := 101) (i := 55) rfl rfl ?_
          refine K_i2l (pc := 103) (i := 56) rfl ?_
          refine K_eqJ (kI2l_eq (a := -v20) (by omega)) ?_
          refine K_iload (pc := 104) (i := 57) rfl rfl ?_
          refine K_i2l (pc := 106) (i := 58) rfl ?_
          refine K_eqJ (kI2l_eq (a := v12) (by omega)) ?_
          refine K_lmul (pc := 107) (i := 59) rfl ?_
          refine K_lcmp (pc := 108) (i := 60) rfl ?_
          refine K_nm (fun v108 e108 => ?_)
          have r108 := kLcmp_R (v3 * (-v29)) ((-v20) * v12)
          rw [← e108] at r108
          have t108 := kLcmp_s (a := v3 * -v29) (b := -v20 * v12) (by omega) (by omega)
          rw [← e108, P1, P2] at t108
          first | refine K_if_lt 135 (pc := 109) (i := 61) rfl rfl (by omega) (fun b109 => ?_) (fun b109 => ?_) | refine K_if_lt_an 135 (pc := 109) (i := 61) rfl rfl (fun b109 => ?_) (fun b109 => ?_)
          · skip
            refine K_iconst (pc := 135) (i := 77) rfl ?_
            refine K_goto 140 (pc := 136) (i := 78) rfl rfl ?_
            exact K_retZ (pc := 140) (i := 80) rfl rfl (by omega) ⟨rfl, by unfold loK; omega⟩
          · skip
            refine K_iload (pc := 112) (i := 62) rfl rfl ?_
            refine K_i2l (pc := 114) (i := 63) rfl ?_
            refine K_eqJ (kI2l_eq (a := v3) (by omega)) ?_
            refine K_iload (pc := 115) (i := 64) rfl rfl ?_
            refine K_i2l (pc := 117) (i := 65) rfl ?_
            refine K_eqJ (kI2l_eq (a := -v29) (by omega)) ?_
            refine K_lmul (pc := 118) (i := 66) rfl ?_
            refine K_iload (pc := 119) (i := 67) rfl rfl ?_
            refine K_i2l (pc := 121) (i := 68) rfl ?_
            refine K_eqJ (kI2l_eq (a := -v20) (by omega)) ?_
            refine K_iload (pc := 122) (i := 69) rfl rfl ?_
            refine K_i2l (pc := 124) (i := 70) rfl ?_
            refine K_eqJ (kI2l_eq (a := v12) (by omega)) ?_
            refine K_lmul (pc := 125) (i := 71) rfl ?_
            refine K_lcmp (pc := 126) (i := 72) rfl ?_
            refine K_nm (fun v126 e126 => ?_)
            have r126 := kLcmp_R (v3 * (-v29)) ((-v20) * v12)
            rw [← e126] at r126
            have t126 := kLcmp_s (a := v3 * -v29) (b := -v20 * v12) (by omega) (by omega)
            rw [← e126, P1, P2] at t126
            first | refine K_if_ne 139 (pc := 127) (i := 73) rfl rfl (by omega) (fun b127 => ?_) (fun b127 => ?_) | refine K_if_ne_an 139 (pc := 127) (i := 73) rfl rfl (fun b127 => ?_) (fun b127 => ?_)
            · skip
              refine K_iconst (pc := 139) (i := 79) rfl ?_
              exact K_retZ (pc := 140) (i := 80) rfl rfl (by omega) ⟨rfl, by unfold loK; omega⟩
            · skip
              refine K_iload_n (pc := 130) (i := 74) rfl rfl ?_
              refine K_iload_n (pc := 131) (i := 75) rfl rfl ?_
              first | refine K_icmp_ge 139 (pc := 132) (i := 76) rfl rfl (by omega) (by omega) (fun b132 => ?_) (fun b132 => ?_) | refine K_icmp_ge_an 139 (pc := 132) (i := 76) rfl rfl (fun b132 => ?_) (fun b132 => ?_)
              · skip
                refine K_iconst (pc := 139) (i := 79) rfl ?_
                exact K_retZ (pc := 140) (i := 80) rfl rfl (by omega) ⟨rfl, by unfold loK; omega⟩
              · skip
                refine K_iconst (pc := 135) (i := 77) rfl ?_
                refine K_goto 140 (pc := 136) (i := 78) rfl rfl ?_
                exact K_retZ (pc := 140) (i := 80) rfl rfl (by omega) ⟨rfl, by unfold loK; omega⟩
    · skip
      refine K_iload (pc := 54) (i := 31) rfl rfl ?_
      refine K_ineg (pc := 56) (i := 32) rfl ?_
      refine K_goto 62 (pc := 57) (i := 33) rfl rfl ?_
      refine K_ist (pc := 62) (i := 35) (lo' := [(0, _), (1, _), (2, _), (3, _), (4, _), (5, _), (6, _), (7, _)]) rfl rfl rfl rfl ?_
      have A5 : -v12 = kAbs (drK (h 187) x1.toNat x2.toNat) := by first | (rw [← r12.1, kAbs_n (by omega)]; done) | (rw [← r12.1, kAbs_p (by omega)]; done) | exact False.elim (by omega)
      refine K_iload (pc := 64) (i := 36) rfl rfl ?_
      first | refine K_if_ge 75 (pc := 66) (i := 37) rfl rfl (by omega) (fun b66 => ?_) (fun b66 => ?_) | refine K_if_ge_an 75 (pc := 66) (i := 37) rfl rfl (fun b66 => ?_) (fun b66 => ?_)
      · skip
        refine K_iload (pc := 75) (i := 41) rfl rfl ?_
        refine K_ist (pc := 77) (i := 42) (lo' := [(0, _), (1, _), (2, _), (3, _), (4, _), (5, _), (6, _), (7, _)]) rfl rfl rfl rfl ?_
        have A6 : v20 = haS (h 187) x1.toNat x3.toNat := by first | (rw [haS_n (by rw [← r29.1]; omega), ← r20.1]; done) | (rw [haS_p (by rw [← r29.1]; omega), ← r20.1]; done) | exact False.elim (by omega)
        refine K_iload (pc := 79) (i := 43) rfl rfl ?_
        first | refine K_if_ge 90 (pc := 81) (i := 44) rfl rfl (by omega) (fun b81 => ?_) (fun b81 => ?_) | refine K_if_ge_an 90 (pc := 81) (i := 44) rfl rfl (fun b81 => ?_) (fun b81 => ?_)
        · skip
          refine K_iload (pc := 90) (i := 48) rfl rfl ?_
          refine K_ist (pc := 92) (i := 49) (lo' := [(0, _), (1, _), (2, _), (3, _), (4, _), (5, _), (6, _), (7, _)]) rfl rfl rfl rfl ?_
          have A7 : v29 = kAbs (drK (h 187) x1.toNat x3.toNat) := by first | (rw [← r29.1, kAbs_n (by omega)]; done) | (rw [← r29.1, kAbs_p (by omega)]; done) | exact False.elim (by omega)
          have u1 := mul_bd (A := 3240) (B := 720) (a := v3) (b := v29) (by omega) (by omega)
          have u2 := mul_bd (A := 3240) (B := 720) (a := v20) (b := -v12) (by omega) (by omega)
          have P1 : v3 * v29 = haS (h 187) x1.toNat x2.toNat * kAbs (drK (h 187) x1.toNat x3.toNat) := by rw [A4, A7]
          have P2 : v20 * -v12 = haS (h 187) x1.toNat x3.toNat * kAbs (drK (h 187) x1.toNat x2.toNat) := by rw [A6, A5]
          refine K_iload (pc := 94) (i := 50) rfl rfl ?_
          refine K_i2l (pc := 96) (i := 51) rfl ?_
          refine K_eqJ (kI2l_eq (a := v3) (by omega)) ?_
          refine K_iload (pc := 97) (i := 52) rfl rfl ?_
          refine K_i2l (pc := 99) (i := 53) rfl ?_
          refine K_eqJ (kI2l_eq (a := v29) (by omega)) ?_
          refine K_lmul (pc := 100) (i := 54) rfl ?_
          refine K_iload (pc := 101) (i := 55) rfl rfl ?_
          refine K_i2l (pc := 103) (i := 56) rfl ?_
          refine K_eqJ (kI2l_eq (a := v20) (by omega)) ?_
          refine K_iload (pc := 104) (i := 57) rfl rfl ?_
          refine K_i2l (pc := 106) (i := 58) rfl ?_
          refine K_eqJ (kI2l_eq (a := -v12) (by omega)) ?_
          refine K_lmul (pc := 107) (i := 59) rfl ?_
          refine K_lcmp (pc := 108) (i := 60) rfl ?_
          refine K_nm (fun v108 e108 => ?_)
          have r108 := kLcmp_R (v3 * v29) (v20 * (-v12))
          rw [← e108] at r108
          have t108 := kLcmp_s (a := v3 * v29) (b := v20 * -v12) (by omega) (by omega)
          rw [← e108, P1, P2] at t108
          first | refine K_if_lt 135 (pc := 109) (i := 61) rfl rfl (by omega) (fun b109 => ?_) (fun b109 => ?_) | refine K_if_lt_an 135 (pc := 109) (i := 61) rfl rfl (fun b109 => ?_) (fun b109 => ?_)
          · skip
            refine K_iconst (pc := 135) (i := 77) rfl ?_
            refine K_goto 140 (pc := 136) (i := 78) rfl rfl ?_
            exact K_retZ (pc := 140) (i := 80) rfl rfl (by omega) ⟨rfl, by unfold loK; omega⟩
          · skip
            refine K_iload (pc := 112) (i := 62) rfl rfl ?_
            refine K_i2l (pc := 114) (i := 63) rfl ?_
            refine K_eqJ (kI2l_eq (a := v3) (by omega)) ?_
            refine K_iload (pc := 115) (i := 64) rfl rfl ?_
            refine K_i2l (pc := 117) (i := 65) rfl ?_
            refine K_eqJ (kI2l_eq (a := v29) (by omega)) ?_
            refine K_lmul (pc := 118) (i := 66) rfl ?_
            refine K_iload (pc := 119) (i := 67) rfl rfl ?_
            refine K_i2l (pc := 121) (i := 68) rfl ?_
            refine K_eqJ (kI2l_eq (a := v20) (by omega)) ?_
            refine K_iload (pc := 122) (i := 69) rfl rfl ?_
            refine K_i2l (pc := 124) (i := 70) rfl ?_
            refine K_eqJ (kI2l_eq (a := -v12) (by omega)) ?_
            refine K_lmul (pc := 125) (i := 71) rfl ?_
            refine K_lcmp (pc := 126) (i := 72) rfl ?_
            refine K_nm (fun v126 e126 => ?_)
            have r126 := kLcmp_R (v3 * v29) (v20 * (-v12))
            rw [← e126] at r126
            have t126 := kLcmp_s (a := v3 * v29) (b := v20 * -v12) (by omega) (by omega)
            rw [← e126, P1, P2] at t126
            first | refine K_if_ne 139 (pc := 127) (i := 73) rfl rfl (by omega) (fun b127 => ?_) (fun b127 => ?_) | refine K_if_ne_an 139 (pc := 127) (i := 73) rfl rfl (fun b127 => ?_) (fun b127 => ?_)
            · skip
              refine K_iconst (pc := 139) (i := 79) rfl ?_
              exact K_retZ (pc := 140) (i := 80) rfl rfl (by omega) ⟨rfl, by unfold loK; omega⟩
            · skip
              refine K_iload_n (pc := 130) (i := 74) rfl rfl ?_
              refine K_iload_n (pc := 131) (i := 75) rfl rfl ?_
              first | refine K_icmp_ge 139 (pc := 132) (i := 76) rfl rfl (by omega) (by omega) (fun b132 => ?_) (fun b132 => ?_) | refine K_icmp_ge_an 139 (pc := 132) (i := 76) rfl rfl (fun b132 => ?_) (fun b132 => ?_)
              · skip
                refine K_iconst (pc := 139) (i := 79) rfl ?_
                exact K_retZ (pc := 140) (i := 80) rfl rfl (by omega) ⟨rfl, by unfold loK; omega⟩
              · skip
                refine K_iconst (pc := 135) (i := 77) rfl ?_
                refine K_goto 140 (pc := 136) (i := 78) rfl rfl ?_
                exact K_retZ (pc := 140) (i := 80) rfl rfl (by omega) ⟨rfl, by unfold loK; omega⟩
        · skip
          refine K_iload (pc := 84) (i := 45) rfl rfl ?_
          refine K_ineg (pc := 86) (i := 46) rfl ?_
          refine K_goto 92 (pc := 87) (i := 47) rfl rfl ?_
          refine K_ist (pc := 92) (i := 49) (lo' := [(0, _), (1, _), (2, _), (3, _), (4, _), (5, _), (6, _), (7, _)]) rfl rfl rfl rfl ?_
          have A7 : -v29 = kAbs (drK (h 187) x1.toNat x3.toNat) := by first | (rw [← r29.1, kAbs_n (by omega)]; done) | (rw [← r29.1, kAbs_p (by omega)]; done) | exact False.elim (by omega)
          have u1 := mul_bd (A := 3240) (B := 720) (a := v3) (b := -v29) (by omega) (by omega)
          have u2 := mul_bd (A := 3240) (B := 720) (a := v20) (b := -v12) (by omega) (by omega)
          have P1 : v3 * -v29 = haS (h 187) x1.toNat x2.toNat * kAbs (drK (h 187) x1.toNat x3.toNat) := by rw [A4, A7]
          have P2 : v20 * -v12 = haS (h 187) x1.toNat x3.toNat * kAbs (drK (h 187) x1.toNat x2.toNat) := by rw [A6, A5]
          refine K_iload (pc := 94) (i := 50) rfl rfl ?_
          refine K_i2l (pc := 96) (i := 51) rfl ?_
          refine K_eqJ (kI2l_eq (a := v3) (by omega)) ?_
          refine K_iload (pc := 97) (i := 52) rfl rfl ?_
          refine K_i2l (pc := 99) (i := 53) rfl ?_
          refine K_eqJ (kI2l_eq (a := -v29) (by omega)) ?_
          refine K_lmul (pc := 100) (i := 54) rfl ?_
          refine K_iload (pc := 101) (i := 55) rfl rfl ?_
          refine K_i2l (pc := 103) (i := 56) rfl ?_
          refine K_eqJ (kI2l_eq (a := v20) (by omega)) ?_
          refine K_iload (pc := 104) (i := 57) rfl rfl ?_
          refine K_i2l (pc := 106) (i := 58) rfl ?_
          refine K_eqJ (kI2l_eq (a := -v12) (by omega)) ?_
          refine K_lmul (pc := 107) (i := 59) rfl ?_
          refine K_lcmp (pc := 108) (i := 60) rfl ?_
          refine K_nm (fun v108 e108 => ?_)
          have r108 := kLcmp_R (v3 * (-v29)) (v20 * (-v12))
          rw [← e108] at r108
          have t108 := kLcmp_s (a := v3 * -v29) (b := v20 * -v12) (by omega) (by omega)
          rw [← e108, P1, P2] at t108
          first | refine K_if_lt 135 (pc := 109) (i := 61) rfl rfl (by omega) (fun b109 => ?_) (fun b109 => ?_) | refine K_if_lt_an 135 (pc := 109) (i := 61) rfl rfl (fun b109 => ?_) (fun b109 => ?_)
          · skip
            refine K_iconst (pc := 135) (i := 77) rfl ?_
            refine K_goto 140 (pc := 136) (i := 78) rfl rfl ?_
            exact K_retZ (pc := 140) (i := 80) rfl rfl (by omega) ⟨rfl, by unfold loK; omega⟩
          · skip
            refine K_iload (pc := 112) (i := 62) rfl rfl ?_
            refine K_i2l (pc := 114) (i := 63) rfl ?_
            refine K_eqJ (kI2l_eq (a := v3) (by omega)) ?_
            refine K_iload (pc := 115) (i := 64) rfl rfl ?_
            refine K_i2l (pc := 117) (i := 65) rfl ?_
            refine K_eqJ (kI2l_eq (a := -v29) (by omega)) ?_
            refine K_lmul (pc := 118) (i := 66) rfl ?_
            refine K_iload (pc := 119) (i := 67) rfl rfl ?_
            refine K_i2l (pc := 121) (i := 68) rfl ?_
            refine K_eqJ (kI2l_eq (a := v20) (by omega)) ?_
            refine K_iload (pc := 122) (i := 69) rfl rfl ?_
            refine K_i2l (pc := 124) (i := 70) rfl ?_
            refine K_eqJ (kI2l_eq (a := -v12) (by omega)) ?_
            refine K_lmul (pc := 125) (i := 71) rfl ?_
            refine K_lcmp (pc := 126) (i := 72) rfl ?_
            refine K_nm (fun v126 e126 => ?_)
            have r126 := kLcmp_R (v3 * (-v29)) (v20 * (-v12))
            rw [← e126] at r126
            have t126 := kLcmp_s (a := v3 * -v29) (b := v20 * -v12) (by omega) (by omega)
            rw [← e126, P1, P2] at t126
            first | refine K_if_ne 139 (pc := 127) (i := 73) rfl rfl (by omega) (fun b127 => ?_) (fun b127 => ?_) | refine K_if_ne_an 139 (pc := 127) (i := 73) rfl rfl (fun b127 => ?_) (fun b127 => ?_)
            · skip
              refine K_iconst (pc := 139) (i := 79) rfl ?_
              exact K_retZ (pc := 140) (i := 80) rfl rfl (by omega) ⟨rfl, by unfold loK; omega⟩
            · skip
              refine K_iload_n (pc := 130) (i := 74) rfl rfl ?_
              refine K_iload_n (pc := 131) (i := 75) rfl rfl ?_
              first | refine K_icmp_ge 139 (pc := 132) (i := 76) rfl rfl (by omega) (by omega) (fun b132 => ?_) (fun b132 => ?_) | refine K_icmp_ge_an 139 (pc := 132) (i := 76) rfl rfl (fun b132 => ?_) (fun b132 => ?_)
              · skip
                refine K_iconst (pc := 139) (i := 79) rfl ?_
                exact K_retZ (pc := 140) (i := 80) rfl rfl (by omega) ⟨rfl, by unfold loK; omega⟩
              · skip
                refine K_iconst (pc := 135) (i := 77) rfl ?_
                refine K_goto 140 (pc := 136) (i := 78) rfl rfl ?_
                exact K_retZ (pc := 140) (i := 80) rfl rfl (by omega) ⟨rfl, by unfold loK; omega⟩
      · skip
        refine K_iload (pc := 69) (i := 38) rfl rfl ?_
        refine K_ineg (pc := 71) (i := 39) rfl ?_
        refine K_goto 77 (pc := 72) (i := 40) rfl rfl ?_
        refine K_ist (pc := 77) (i := 42) (lo' := [(0, _), (1, _), (2, _), (3, _), (4, _), (5, _), (6, _), (7, _)]) rfl rfl rfl rfl ?_
        have A6 : -v20 = haS (h 187) x1.toNat x3.toNat := by first | (rw [haS_n (by rw [← r29.1]; omega), ← r20.1]; done) | (rw [haS_p (by rw [← r29.1]; omega), ← r20.1]; done) | exact False.elim (by omega)
        refine K_iload (pc := 79) (i := 43) rfl rfl ?_
        first | refine K_if_ge 90 (pc := 81) (i := 44) rfl rfl (by omega) (fun b81 => ?_) (fun b81 => ?_) | refine K_if_ge_an 90 (pc := 81) (i := 44) rfl rfl (fun b81 => ?_) (fun b81 => ?_)
        · skip
          refine K_iload (pc := 90) (i := 48) rfl rfl ?_
          refine K_ist (pc := 92) (i := 49) (lo' := [(0, _), (1, _), (2, _), (3, _), (4, _), (5, _), (6, _), (7, _)]) rfl rfl rfl rfl ?_
          have A7 : v29 = kAbs (drK (h 187) x1.toNat x3.toNat) := by first | (rw [← r29.1, kAbs_n (by omega)]; done) | (rw [← r29.1, kAbs_p (by omega)]; done) | exact False.elim (by omega)
          have u1 := mul_bd (A := 3240) (B := 720) (a := v3) (b := v29) (by omega) (by omega)
          have u2 := mul_bd (A := 3240) (B := 720) (a := -v20) (b := -v12) (by omega) (by omega)
          have P1 : v3 * v29 = haS (h 187) x1.toNat x2.toNat * kAbs (drK (h 187) x1.toNat x3.toNat) := by rw [A4, A7]
          have P2 : -v20 * -v12 = haS (h 187) x1.toNat x3.toNat * kAbs (drK (h 187) x1.toNat x2.toNat) := by rw [A6, A5]
          refine K_iload (pc := 94) (i := 50) rfl rfl ?_
          refine K_i2l (pc := 96) (i := 51) rfl ?_
          refine K_eqJ (kI2l_eq (a := v3) (by omega)) ?_
          refine K_iload (pc := 97) (i := 52) rfl rfl ?_
          refine K_i2l (pc := 99) (i := 53) rfl ?_
          refine K_eqJ (kI2l_eq (a := v29) (by omega)) ?_
          refine K_lmul (pc := 100) (i := 54) rfl ?_
          refine K_iload (pc := 101) (i := 55) rfl rfl ?_
          refine K_i2l (pc := 103) (i := 56) rfl ?_
          refine K_eqJ (kI2l_eq (a := -v20) (by omega)) ?_
          refine K_iload (pc := 104) (i := 57) rfl rfl ?_
          refine K_i2l (pc := 106) (i := 58) rfl ?_
          refine K_eqJ (kI2l_eq (a := -v12) (by omega)) ?_
          refine K_lmul (pc := 107) (i := 59) rfl ?_
          refine K_lcmp (pc := 108) (i := 60) rfl ?_
          refine K_nm (fun v108 e108 => ?_)
          have r108 := kLcmp_R (v3 * v29) ((-v20) * (-v12))
          rw [← e108] at r108
          have t108 := kLcmp_s (a := v3 * v29) (b := -v20 * -v12) (by omega) (by omega)
          rw [← e108, P1, P2] at t108
          first | refine K_if_lt 135 (pc := 109) (i := 61) rfl rfl (by omega) (fun b109 => ?_) (fun b109 => ?_) | refine K_if_lt_an 135 (pc := 109) (i := 61) rfl rfl (fun b109 => ?_) (fun b109 => ?_)
          · skip
            refine K_iconst (pc := 135) (i := 77) rfl ?_
            refine K_goto 140 (pc := 136) (i := 78) rfl rfl ?_
            exact K_retZ (pc := 140) (i := 80) rfl rfl (by omega) ⟨rfl, by unfold loK; omega⟩
          · skip
            refine K_iload (pc := 112) (i := 62) rfl rfl ?_
            refine K_i2l (pc := 114) (i := 63) rfl ?_
            refine K_eqJ (kI2l_eq (a := v3) (by omega)) ?_
            refine K_iload (pc := 115) (i := 64) rfl rfl ?_
            refine K_i2l (pc := 117) (i := 65) rfl ?_
            refine K_eqJ (kI2l_eq (a := v29) (by omega)) ?_
            refine K_lmul (pc := 118) (i := 66) rfl ?_
            refine K_iload (pc := 119) (i := 67) rfl rfl ?_
            refine K_i2l (pc := 121) (i := 68) rfl ?_
            refine K_eqJ (kI2l_eq (a := -v20) (by omega)) ?_
            refine K_iload (pc := 122) (i := 69) rfl rfl ?_
            refine K_i2l (pc := 124) (i := 70) rfl ?_
            refine K_eqJ (kI2l_eq (a := -v12) (by omega)) ?_
            refine K_lmul (pc := 125) (i := 71) rfl ?_
            refine K_lcmp (pc := 126) (i := 72) rfl ?_
            refine K_nm (fun v126 e126 => ?_)
            have r126 := kLcmp_R (v3 * v29) ((-v20) * (-v12))
            rw [← e126] at r126
            have t126 := kLcmp_s (a := v3 * v29) (b := -v20 * -v12) (by omega) (by omega)
            rw [← e126, P1, P2] at t126
            first | refine K_if_ne 139 (pc := 127) (i := 73) rfl rfl (by omega) (fun b127 => ?_) (fun b127 => ?_) | refine K_if_ne_an 139 (pc := 127) (i := 73) rfl rfl (fun b127 => ?_) (fun b127 => ?_)
            · skip
              refine K_iconst (pc := 139) (i := 79) rfl ?_
              exact K_retZ (pc := 140) (i := 80) rfl rfl (by omega) ⟨rfl, by unfold loK; omega⟩
            · skip
              refine K_iload_n (pc := 130) (i := 74) rfl rfl ?_
              refine K_iload_n (pc := 131) (i := 75) rfl rfl ?_
              first | refine K_icmp_ge 139 (pc := 132) (i := 76) rfl rfl (by omega) (by omega) (fun b132 => ?_) (fun b132 => ?_) | refine K_icmp_ge_an 139 (pc := 132) (i := 76) rfl rfl (fun b132 => ?_) (fun b132 => ?_)
              · skip
                refine K_iconst (pc := 139) (i := 79) rfl ?_
                exact K_retZ (pc := 140) (i := 80) rfl rfl (by omega) ⟨rfl, by unfold loK; omega⟩
              · skip
                refine K_iconst (pc := 135) (i := 77) rfl ?_
                refine K_goto 140 (pc := 136) (i := 78) rfl rfl ?_
                exact K_retZ (pc := 140) (i := 80) rfl rfl (by omega) ⟨rfl, by unfold loK; omega⟩
        · skip
          refine K_iload (pc := 84) (i := 45) rfl rfl ?_
          refine K_ineg (pc := 86) (i := 46) rfl ?_
          refine K_goto 92 (pc := 87) (i := 47) rfl rfl ?_
          refine K_ist (pc := 92) (i := 49) (lo' := [(0, _), (1, _), (2, _), (3, _), (4, _), (5, _), (6, _), (7, _)]) rfl rfl rfl rfl ?_
          have A7 : -v29 = kAbs (drK (h 187) x1.toNat x3.toNat) := by first | (rw [← r29.1, kAbs_n (by omega)]; done) | (rw [← r29.1, kAbs_p (by omega)]; done) | exact False.elim (by omega)
          have u1 := mul_bd (A := 3240) (B := 720) (a := v3) (b := -v29) (by omega) (by omega)
          have u2 := mul_bd (A := 3240) (B := 720) (a := -v20) (b := -v12) (by omega) (by omega)
          have P1 : v3 * -v29 = haS (h 187) x1.toNat x2.toNat * kAbs (drK (h 187) x1.toNat x3.toNat) := by rw [A4, A7]
          have P2 : -v20 * -v12 = haS (h 187) x1.toNat x3.toNat * kAbs (drK (h 187) x1.toNat x2.toNat) := by rw [A6, A5]
          refine K_iload (pc := 94) (i := 50) rfl rfl ?_
          refine K_i2l (pc := 96) (i := 51) rfl ?_
          refine K_eqJ (kI2l_eq (a := v3) (by omega)) ?_
          refine K_iload (pc := 97) (i := 52) rfl rfl ?_
          refine K_i2l (pc := 99) (i := 53) rfl ?_
          refine K_eqJ (kI2l_eq (a := -v29) (by omega)) ?_
          refine K_lmul (pc := 100) (i := 54) rfl ?_
          refine K_iload (pc := 101) (i := 55) rfl rfl ?_
          refine K_i2l (pc := 103) (i := 56) rfl ?_
          refine K_eqJ (kI2l_eq (a := -v20) (by omega)) ?_
          refine K_iload (pc := 104) (i := 57) rfl rfl ?_
          refine K_i2l (pc := 106) (i := 58) rfl ?_
          refine K_eqJ (kI2l_eq (a := -v12) (by omega)) ?_
          refine K_lmul (pc := 107) (i := 59) rfl ?_
          refine K_lcmp (pc := 108) (i := 60) rfl ?_
          refine K_nm (fun v108 e108 => ?_)
          have r108 := kLcmp_R (v3 * (-v29)) ((-v20) * (-v12))
          rw [← e108] at r108
          have t108 := kLcmp_s (a := v3 * -v29) (b := -v20 * -v12) (by omega) (by omega)
          rw [← e108, P1, P2] at t108
          first | refine K_if_lt 135 (pc := 109) (i := 61) rfl rfl (by omega) (fun b109 => ?_) (fun b109 => ?_) | refine K_if_lt_an 135 (pc := 109) (i := 61) rfl rfl (fun b109 => ?_) (fun b109 => ?_)
          · skip
            refine K_iconst (pc := 135) (i := 77) rfl ?_
            refine K_goto 140 (pc := 136) (i := 78) rfl rfl ?_
            exact K_retZ (pc := 140) (i := 80) rfl rfl (by omega) ⟨rfl, by unfold loK; omega⟩
          · skip
            refine K_iload (pc := 112) (i := 62) rfl rfl ?_
            refine K_i2l (pc := 114) (i := 63) rfl ?_
            refine K_eqJ (kI2l_eq (a := v3) (by omega)) ?_
            refine K_iload (pc := 115) (i := 64) rfl rfl ?_
            refine K_i2l (pc := 117) (i := 65) rfl ?_
            refine K_eqJ (kI2l_eq (a := -v29) (by omega)) ?_
            refine K_lmul (pc := 118) (i := 66) rfl ?_
            refine K_iload (pc := 119) (i := 67) rfl rfl ?_
            refine K_i2l (pc := 121) (i := 68) rfl ?_
            refine K_eqJ (kI2l_eq (a := -v20) (by omega)) ?_
            refine K_iload (pc := 122) (i := 69) rfl rfl ?_
            refine K_i2l (pc := 124) (i := 70) rfl ?_
            refine K_eqJ (kI2l_eq (a := -v12) (by omega)) ?_
            refine K_lmul (pc := 125) (i := 71) rfl ?_
            refine K_lcmp (pc := 126) (i := 72) rfl ?_
            refine K_nm (fun v126 e126 => ?_)
            have r126 := kLcmp_R (v3 * (-v29)) ((-v20) * (-v12))
            rw [← e126] at r126
            have t126 := kLcmp_s (a := v3 * -v29) (b := -v20 * -v12) (by omega) (by omega)
            rw [← e126, P1, P2] at t126
            first | refine K_if_ne 139 (pc := 127) (i := 73) rfl rfl (by omega) (fun b127 => ?_) (fun b127 => ?_) | refine K_if_ne_an 139 (pc := 127) (i := 73) rfl rfl (fun b127 => ?_) (fun b127 => ?_)
            · skip
              refine K_iconst (pc := 139) (i := 79) rfl ?_
              exact K_retZ (pc := 140) (i := 80) rfl rfl (by omega) ⟨rfl, by unfold loK; omega⟩
            · skip
              refine K_iload_n (pc := 130) (i := 74) rfl rfl ?_
              refine K_iload_n (pc := 131) (i := 75) rfl rfl ?_
              first | refine K_icmp_ge 139 (pc := 132) (i := 76) rfl rfl (by omega) (by omega) (fun b132 => ?_) (fun b132 => ?_) | refine K_icmp_ge_an 139 (pc := 132) (i := 76) rfl rfl (fun b132 => ?_) (fun b132 => ?_)
              · skip
                refine K_iconst (pc := 139) (i := 79) rfl ?_
                exact K_retZ (pc := 140) (i := 80) rfl rfl (by omega) ⟨rfl, by unfold loK; omega⟩
              · skip
                refine K_iconst (pc := 135) (i := 77) rfl ?_
                refine K_goto 140 (pc := 136) (i := 78) rfl rfl ?_
                exact K_retZ (pc := 140) (i := 80) rfl rfl (by omega) ⟨rfl, by unfold loK; omega⟩
  · skip
    refine K_iload (pc := 39) (i := 24) rfl rfl ?_
    refine K_ineg (pc := 41) (i := 25) rfl ?_
    refine K_goto 47 (pc := 42) (i := 26) rfl rfl ?_
    refine K_ist (pc := 47) (i := 28) (lo' := [(0, _), (1, _), (2, _), (3, _), (4, _), (5, _), (6, _), (7, _)]) rfl rfl rfl rfl ?_
    have A4 : -v3 = haS (h 187) x1.toNat x2.toNat := by first | (rw [haS_n (by rw [← r12.1]; omega), ← r3.1]; done) | (rw [haS_p (by rw [← r12.1]; omega), ← r3.1]; done) | exact False.elim (by omega)
    refine K_iload (pc := 49) (i := 29) rfl rfl ?_
    first | refine K_if_ge 60 (pc := 51) (i := 30) rfl rfl (by omega) (fun b51 => ?_) (fun b51 => ?_) | refine K_if_ge_an 60 (pc := 51) (i := 30) rfl rfl (fun b51 => ?_) (fun b51 => ?_)
    · skip
      refine K_iload (pc := 60) (i := 34) rfl rfl ?_
      refine K_ist (pc := 62) (i := 35) (lo' := [(0, _), (1, _), (2, _), (3, _), (4, _), (5, _), (6, _), (7, _)]) rfl rfl rfl rfl ?_
      have A5 : v12 = kAbs (drK (h 187) x1.toNat x2.toNat) := by first | (rw [← r12.1, kAbs_n (by omega)]; done) | (rw [← r12.1, kAbs_p (by omega)]; done) | exact False.elim (by omega)
      refine K_iload (pc := 64) (i := 36) rfl rfl ?_
      first | refine K_if_ge 75 (pc := 66) (i := 37) rfl rfl (by omega) (fun b66 => ?_) (fun b66 => ?_) | refine K_if_ge_an 75 (pc := 66) (i := 37) rfl rfl (fun b66 => ?_) (fun b66 => ?_)
      · skip
        refine K_iload (pc := 75) (i := 41) rfl rfl ?_
        refine K_ist (pc := 77) (i := 42) (lo' := [(0, _), (1, _), (2, _), (3, _), (4, _), (5, _), (6, _), (7, _)]) rfl rfl rfl rfl ?_
        have A6 : v20 = haS (h 187) x1.toNat x3.toNat := by first | (rw [haS_n (by rw [← r29.1]; omega), ← r20.1]; done) | (rw [haS_p (by rw [← r29.1]; omega), ← r20.1]; done) | exact False.elim (by omega)
        refine K_iload (pc := 79) (i := 43) rfl rfl ?_
        first | refine K_if_ge 90 (pc := 81) (i := 44) rfl rfl (by omega) (fun b81 => ?_) (fun b81 => ?_) | refine K_if_ge_an 90 (pc := 81) (i := 44) rfl rfl (fun b81 => ?_) (fun b81 => ?_)
        · skip
          refine K_iload (pc := 90) (i := 48) rfl rfl ?_
          refine K_ist (pc := 92) (i := 49) (lo' := [(0, _), (1, _), (2, _), (3, _), (4, _), (5, _), (6, _), (7, _)]) rfl rfl rfl rfl ?_
          have A7 : v29 = kAbs (drK (h 187) x1.toNat x3.toNat) := by first | (rw [← r29.1, kAbs_n (by omega)]; done) | (rw [← r29.1, kAbs_p (by omega)]; done) | exact False.elim (by omega)
          have u1 := mul_bd (A := 3240) (B := 720) (a := -v3) (b := v29) (by omega) (by omega)
          have u2 := mul_bd (A := 3240) (B := 720) (a := v20) (b := v12) (by omega) (by omega)
          have P1 : -v3 * v29 = haS (h 187) x1.toNat x2.toNat * kAbs (drK (h 187) x1.toNat x3.toNat) := by rw [A4, A7]
          have P2 : v20 * v12 = haS (h 187) x1.toNat x3.toNat * kAbs (drK (h 187) x1.toNat x2.toNat) := by rw [A6, A5]
          refine K_iload (pc := 94) (i := 50) rfl rfl ?_
          refine K_i2l (pc := 96) (i := 51) rfl ?_
          refine K_eqJ (kI2l_eq (a := -v3) (by omega)) ?_
          refine K_iload (pc := 97) (i := 52) rfl rfl ?_
          refine K_i2l (pc := 99) (i := 53) rfl ?_
          refine K_eqJ (kI2l_eq (a := v29) (by omega)) ?_
          refine K_lmul (pc := 100) (i := 54) rfl ?_
          refine K_iload (pc := 101) (i := 55) rfl rfl ?_
          refine K_i2l (pc := 103) (i := 56) rfl ?_
          refine K_eqJ (kI2l_eq (a := v20) (by omega)) ?_
          refine K_iload (pc := 104) (i := 57) rfl rfl ?_
          refine K_i2l (pc := 106) (i := 58) rfl ?_
          refine K_eqJ (kI2l_eq (a := v12) (by omega)) ?_
          refine K_lmul (pc := 107) (i := 59) rfl ?_
          refine K_lcmp (pc := 108) (i := 60) rfl ?_
          refine K_nm (fun v108 e108 => ?_)
          have r108 := kLcmp_R ((-v3) * v29) (v20 * v12)
          rw [← e108] at r108
          have t108 := kLcmp_s (a := -v3 * v29) (b := v20 * v12) (by omega) (by omega)
          rw [← e108, P1, P2] at t108
          first | refine K_if_lt 135 (pc := 109) (i := 61) rfl rfl (by omega) (fun b109 => ?_) (fun b109 => ?_) | refine K_if_lt_an 135 (pc := 109) (i := 61) rfl rfl (fun b109 => ?_) (fun b109 => ?_)
          · skip
            refine K_iconst (pc := 135) (i := 77) rfl ?_
            refine K_goto 140 (pc := 136) (i := 78) rfl rfl ?_
            exact K_retZ (pc := 140) (i := 80) rfl rfl (by omega) ⟨rfl, by unfold loK; omega⟩
          · skip
            refine K_iload (pc := 112) (i := 62) rfl rfl ?_
            refine K_i2l (pc := 114) (i := 63) rfl ?_
            refine K_eqJ (kI2l_eq (a := -v3) (by omega)) ?_
            refine K_iload (pc := 115) (i := 64) rfl rfl ?_
            refine K_i2l (pc := 117) (i := 65) rfl ?_
            refine K_eqJ (kI2l_eq (a := v29) (by omega)) ?_
            refine K_lmul (pc := 118) (i := 66) rfl ?_
            refine K_iload (pc := 119) (i := 67) rfl rfl ?_
            refine K_i2l (pc := 121) (i := 68) rfl ?_
            refine K_eqJ (kI2l_eq (a := v20) (by omega)) ?_
            refine K_iload (pc := 122) (i := 69) rfl rfl ?_
            refine K_i2l (pc := 124) (i := 70) rfl ?_
            refine K_eqJ (kI2l_eq (a := v12) (by omega)) ?_
            refine K_lmul (pc := 125) (i := 71) rfl ?_
            refine K_lcmp (pc := 126) (i := 72) rfl ?_
            refine K_nm (fun v126 e126 => ?_)
            have r126 := kLcmp_R ((-v3) * v29) (v20 * v12)
            rw [← e126] at r126
            have t126 := kLcmp_s (a := -v3 * v29) (b := v20 * v12) (by omega) (by omega)
            rw [← e126, P1, P2] at t126
            first | refine K_if_ne 139 (pc := 127) (i := 73) rfl rfl (by omega) (fun b127 => ?_) (fun b127 => ?_) | refine K_if_ne_an 139 (pc := 127) (i := 73) rfl rfl (fun b127 => ?_) (fun b127 => ?_)
            · skip
              refine K_iconst (pc := 139) (i := 79) rfl ?_
              exact K_retZ (pc := 140) (i := 80) rfl rfl (by omega) ⟨rfl, by unfold loK; omega⟩
            · skip
              refine K_iload_n (pc := 130) (i := 74) rfl rfl ?_
              refine K_iload_n (pc := 131) (i := 75) rfl rfl ?_
              first | refine K_icmp_ge 139 (pc := 132) (i := 76) rfl rfl (by omega) (by omega) (fun b132 => ?_) (fun b132 => ?_) | refine K_icmp_ge_an 139 (pc := 132) (i := 76) rfl rfl (fun b132 => ?_) (fun b132 => ?_)
              · skip
                refine K_iconst (pc := 139) (i := 79) rfl ?_
                exact K_retZ (pc := 140) (i := 80) rfl rfl (by omega) ⟨rfl, by unfold loK; omega⟩
              · skip
                refine K_iconst (pc := 135) (i := 77) rfl ?_
                refine K_goto 140 (pc := 136) (i := 78) rfl rfl ?_
                exact K_retZ (pc := 140) (i := 80) rfl rfl (by omega) ⟨rfl, by unfold loK; omega⟩
        · skip
          refine K_iload (pc := 84) (i := 45) rfl rfl ?_
          refine K_ineg (pc := 86) (i := 46) rfl ?_
          refine K_goto 92 (pc := 87) (i := 47) rfl rfl ?_
          refine K_ist (pc := 92) (i := 49) (lo' := [(0, _), (1, _), (2, _), (3, _), (4, _), (5, _), (6, _), (7, _)]) rfl rfl rfl rfl ?_
          have A7 : -v29 = kAbs (drK (h 187) x1.toNat x3.toNat) := by first | (rw [← r29.1, kAbs_n (by omega)]; done) | (rw [← r29.1, kAbs_p (by omega)]; done) | exact False.elim (by omega)
          have u1 := mul_bd (A := 3240) (B := 720) (a := -v3) (b := -v29) (by omega) (by omega)
          have u2 := mul_bd (A := 3240) (B := 720) (a := v20) (b := v12) (by omega) (by omega)
          have P1 : -v3 * -v29 = haS (h 187) x1.toNat x2.toNat * kAbs (drK (h 187) x1.toNat x3.toNat) := by rw [A4, A7]
          have P2 : v20 * v12 = haS (h 187) x1.toNat x3.toNat * kAbs (drK (h 187) x1.toNat x2.toNat) := by rw [A6, A5]
          refine K_iload (pc := 94) (i := 50) rfl rfl ?_
          refine K_i2l (pc := 96) (i := 51) rfl ?_
          refine K_eqJ (kI2l_eq (a := -v3) (by omega)) ?_
          refine K_iload (pc := 97) (i := 52) rfl rfl ?_
          refine K_i2l (pc := 99) (i := 53) rfl ?_
          refine K_eqJ (kI2l_eq (a := -v29) (by omega)) ?_
          refine K_lmul (pc := 100) (i := 54) rfl ?_
          refine K_iload (pc := 101) (i := 55) rfl rfl ?_
          refine K_i2l (pc := 103) (i := 56) rfl ?_
          refine K_eqJ (kI2l_eq (a := v20) (by omega)) ?_
          refine K_iload (pc := 104) (i := 57) rfl rfl ?_
          refine K_i2l (pc := 106) (i := 58) rfl ?_
          refine K_eqJ (kI2l_eq (a := v12) (by omega)) ?_
          refine K_lmul (pc := 107) (i := 59) rfl ?_
          refine K_lcmp (pc := 108) (i := 60) rfl ?_
          refine K_nm (fun v108 e108 => ?_)
          have r108 := kLcmp_R ((-v3) * (-v29)) (v20 * v12)
          rw [← e108] at r108
          have t108 := kLcmp_s (a := -v3 * -v29) (b := v20 * v12) (by omega) (by omega)
          rw [← e108, P1, P2] at t108
          first | refine K_if_lt 135 (pc := 109) (i := 61) rfl rfl (by omega) (fun b109 => ?_) (fun b109 => ?_) | refine K_if_lt_an 135 (pc := 109) (i := 61) rfl rfl (fun b109 => ?_) (fun b109 => ?_)
          · skip
            refine K_iconst (pc := 135) (i := 77) rfl ?_
            refine K_goto 140 (pc := 136) (i := 78) rfl rfl ?_
            exact K_retZ (pc := 140) (i := 80) rfl rfl (by omega) ⟨rfl, by unfold loK; omega⟩
          · skip
            refine K_iload (pc := 112) (i := 62) rfl rfl ?_
            refine K_i2l (pc := 114) (i := 63) rfl ?_
            refine K_eqJ (kI2l_eq (a := -v3) (by omega)) ?_
            refine K_iload (pc := 115) (i := 64) rfl rfl ?_
            refine K_i2l (pc := 117) (i := 65) rfl ?_
            refine K_eqJ (kI2l_eq (a := -v29) (by omega)) ?_
            refine K_lmul (pc := 118) (i := 66) rfl ?_
            refine K_iload (pc := 119) (i := 67) rfl rfl ?_
            refine K_i2l (pc := 121) (i := 68) rfl ?_
            refine K_eqJ (kI2l_eq (a := v20) (by omega)) ?_
            refine K_iload (pc := 122) (i := 69) rfl rfl ?_
            refine K_i2l (pc := 124) (i := 70) rfl ?_
            refine K_eqJ (kI2l_eq (a := v12) (by omega)) ?_
            refine K_lmul (pc := 125) (i := 71) rfl ?_
            refine K_lcmp (pc := 126) (i := 72) rfl ?_
            refine K_nm (fun v126 e126 => ?_)
            have r126 := kLcmp_R ((-v3) * (-v29)) (v20 * v12)
            rw [← e126] at r126
            have t126 := kLcmp_s (a := -v3 * -v29) (b := v20 * v12) (by omega) (by omega)
            rw [← e126, P1, P2] at t126
            first | refine K_if_ne 139 (pc := 127) (i := 73) rfl rfl (by omega) (fun b127 => ?_) (fun b127 => ?_) | refine K_if_ne_an 139 (pc := 127) (i := 73) rfl rfl (fun b127 => ?_) (fun b127 => ?_)
            · skip
              refine K_iconst (pc := 139) (i := 79) rfl ?_
              exact K_retZ (pc := 140) (i := 80) rfl rfl (by omega) ⟨rfl, by unfold loK; omega⟩
            · skip
              refine K_iload_n (pc := 130) (i := 74) rfl rfl ?_
              refine K_iload_n (pc := 131) (i := 75) rfl rfl ?_
              first | refine K_icmp_ge 139 (pc := 132) (i := 76) rfl rfl (by omega) (by omega) (fun b132 => ?_) (fun b132 => ?_) | refine K_icmp_ge_an 139 (pc := 132) (i := 76) rfl rfl (fun b132 => ?_) (fun b132 => ?_)
              · skip
                refine K_iconst (pc := 139) (i := 79) rfl ?_
                exact K_retZ (pc := 140) (i := 80) rfl rfl (by omega) ⟨rfl, by unfold loK; omega⟩
              · skip
                refine K_iconst (pc := 135) (i := 77) rfl ?_
                refine K_goto 140 (pc := 136) (i := 78) rfl rfl ?_
                exact K_retZ (pc := 140) (i := 80) rfl rfl (by omega) ⟨rfl, by unfold loK; omega⟩
      · skip
        refine K_iload (pc := 69) (i := 38) rfl rfl ?_
        refine K_ineg (pc := 71) (i := 39) rfl ?_
        refine K_goto 77 (pc := 72) (i := 40) rfl rfl ?_
        refine K_ist (pc := 77) (i := 42) (lo' := [(0, _), (1, _), (2, _), (3, _), (4, _), (5, _), (6, _), (7, _)]) rfl rfl rfl rfl ?_
        have A6 : -v20 = haS (h 187) x1.toNat x3.toNat := by first | (rw [haS_n (by rw [← r29.1]; omega), ← r20.1]; done) | (rw [haS_p (by rw [← r29.1]; omega), ← r20.1]; done) | exact False.elim (by omega)
        refine K_iload (pc := 79) (i := 43) rfl rfl ?_
        first | refine K_if_ge 90 (pc := 81) (i := 44) rfl rfl (by omega) (fun b81 => ?_) (fun b81 => ?_) | refine K_if_ge_an 90 (pc := 81) (i := 44) rfl rfl (fun b81 => ?_) (fun b81 => ?_)
        · skip
          refine K_iload (pc := 90) (i := 48) rfl rfl ?_
          refine K_ist (pc := 92) (i := 49) (lo' := [(0, _), (1, _), (2, _), (3, _), (4, _), (5, _), (6, _), (7, _)]) rfl rfl rfl rfl ?_
          have A7 : v29 = kAbs (drK (h 187) x1.toNat x3.toNat) := by first | (rw [← r29.1, kAbs_n (by omega)]; done) | (rw [← r29.1, kAbs_p (by omega)]; done) | exact False.elim (by omega)
          have u1 := mul_bd (A := 3240) (B := 720) (a := -v3) (b := v29) (by omega) (by omega)
          have u2 := mul_bd (A := 3240) (B := 720) (a := -v20) (b := v12) (by omega) (by omega)
          have P1 : -v3 * v29 = haS (h 187) x1.toNat x2.toNat * kAbs (drK (h 187) x1.toNat x3.toNat) := by rw [A4, A7]
          have P2 : -v20 * v12 = haS (h 187) x1.toNat x3.toNat * kAbs (drK (h 187) x1.toNat x2.toNat) := by rw [A6, A5]
          refine K_iload (pc := 94) (i := 50) rfl rfl ?_
          refine K_i2l (pc := 96) (i := 51) rfl ?_
          refine K_eqJ (kI2l_eq (a := -v3) (by omega)) ?_
          refine K_iload (pc := 97) (i := 52) rfl rfl ?_
          refine K_i2l (pc := 99) (i := 53) rfl ?_
          refine K_eqJ (kI2l_eq (a := v29) (by omega)) ?_
          refine K_lmul (pc := 100) (i := 54) rfl ?_
          refine K_iload (pc := 101) (i := 55) rfl rfl ?_
          refine K_i2l (pc := 103) (i := 56) rfl ?_
          refine K_eqJ (kI2l_eq (a := -v20) (by omega)) ?_
          refine K_iload (pc := 104) (i := 57) rfl rfl ?_
          refine K_i2l (pc := 106) (i := 58) rfl ?_
          refine K_eqJ (kI2l_eq (a := v12) (by omega)) ?_
          refine K_lmul (pc := 107) (i := 59) rfl ?_
          refine K_lcmp (pc := 108) (i := 60) rfl ?_
          refine K_nm (fun v108 e108 => ?_)
          have r108 := kLcmp_R ((-v3) * v29) ((-v20) * v12)
          rw [← e108] at r108
          have t108 := kLcmp_s (a := -v3 * v29) (b := -v20 * v12) (by omega) (by omega)
          rw [← e108, P1, P2] at t108
          first | refine K_if_lt 135 (pc := 109) (i := 61) rfl rfl (by omega) (fun b109 => ?_) (fun b109 => ?_) | refine K_if_lt_an 135 (pc := 109) (i := 61) rfl rfl (fun b109 => ?_) (fun b109 => ?_)
          · skip
            refine K_iconst (pc := 135) (i := 77) rfl ?_
            refine K_goto 140 (pc := 136) (i := 78) rfl rfl ?_
            exact K_retZ (pc := 140) (i := 80) rfl rfl (by omega) ⟨rfl, by unfold loK; omega⟩
          · skip
            refine K_iload (pc := 112) (i := 62) rfl rfl ?_
            refine K_i2l (pc := 114) (i := 63) rfl ?_
            refine K_eqJ (kI2l_eq (a := -v3) (by omega)) ?_
            refine K_iload (pc := 115) (i := 64) rfl rfl ?_
            refine K_i2l (pc := 117) (i := 65) rfl ?_
            refine K_eqJ (kI2l_eq (a := v29) (by omega)) ?_
            refine K_lmul (pc := 118) (i := 66) rfl ?_
            refine K_iload (pc := 119) (i := 67) rfl rfl ?_
            refine K_i2l (pc := 121) (i := 68) rfl ?_
            refine K_eqJ (kI2l_eq (a := -v20) (by omega)) ?_
            refine K_iload (pc := 122) (i := 69) rfl rfl ?_
            refine K_i2l (pc := 124) (i := 70) rfl ?_
            refine K_eqJ (kI2l_eq (a := v12) (by omega)) ?_
            refine K_lmul (pc := 125) (i := 71) rfl ?_
            refine K_lcmp (pc := 126) (i := 72) rfl ?_
            refine K_nm (fun v126 e126 => ?_)
            have r126 := kLcmp_R ((-v3) * v29) ((-v20) * v12)
            rw [← e126] at r126
            have t126 := kLcmp_s (a := -v3 * v29) (b := -v20 * v12) (by omega) (by omega)
            rw [← e126, P1, P2] at t126
            first | refine K_if_ne 139 (pc := 127) (i := 73) rfl rfl (by omega) (fun b127 => ?_) (fun b127 => ?_) | refine K_if_ne_an 139 (pc := 127) (i := 73) rfl rfl (fun b127 => ?_) (fun b127 => ?_)
            · skip
              refine K_iconst (pc := 139) (i := 79) rfl ?_
              exact K_retZ (pc := 140) (i := 80) rfl rfl (by omega) ⟨rfl, by unfold loK; omega⟩
            · skip
              refine K_iload_n (pc := 130) (i := 74) rfl rfl ?_
              refine K_iload_n (pc := 131) (i := 75) rfl rfl ?_
              first | refine K_icmp_ge 139 (pc := 132) (i := 76) rfl rfl (by omega) (by omega) (fun b132 => ?_) (fun b132 => ?_) | refine K_icmp_ge_an 139 (pc := 132) (i := 76) rfl rfl (fun b132 => ?_) (fun b132 => ?_)
              · skip
                refine K_iconst (pc := 139) (i := 79) rfl ?_
                exact K_retZ (pc := 140) (i := 80) rfl rfl (by omega) ⟨rfl, by unfold loK; omega⟩
              · skip
                refine K_iconst (pc := 135) (i := 77) rfl ?_
                refine K_goto 140 (pc := 136) (i := 78) rfl rfl ?_
                exact K_retZ (pc := 140) (i := 80) rfl rfl (by omega) ⟨rfl, by unfold loK; omega⟩
        · skip
          refine K_iload (pc := 84) (i := 45) rfl rfl ?_
          refine K_ineg (pc := 86) (i := 46) rfl ?_
          refine K_goto 92 (pc := 87) (i := 47) rfl rfl ?_
          refine K_ist (pc := 92) (i := 49) (lo' := [(0, _), (1, _), (2, _), (3, _), (4, _), (5, _), (6, _), (7, _)]) rfl rfl rfl rfl ?_
          have A7 : -v29 = kAbs (drK (h 187) x1.toNat x3.toNat) := by first | (rw [← r29.1, kAbs_n (by omega)]; done) | (rw [← r29.1, kAbs_p (by omega)]; done) | exact False.elim (by omega)
          have u1 := mul_bd (A := 3240) (B := 720) (a := -v3) (b := -v29) (by omega) (by omega)
          have u2 := mul_bd (A := 3240) (B := 720) (a := -v20) (b := v12) (by omega) (by omega)
          have P1 : -v3 * -v29 = haS (h 187) x1.toNat x2.toNat * kAbs (drK (h 187) x1.toNat x3.toNat) := by rw [A4, A7]
          have P2 : -v20 * v12 = haS (h 187) x1.toNat x3.toNat * kAbs (drK (h 187) x1.toNat x2.toNat) := by rw [A6, A5]
          refine K_iload (pc := 94) (i := 50) rfl rfl ?_
          refine K_i2l (pc := 96) (i := 51) rfl ?_
          refine K_eqJ (kI2l_eq (a := -v3) (by omega)) ?_
          refine K_iload (pc := 97) (i := 52) rfl rfl ?_
          refine K_i2l (pc := 99) (i := 53) rfl ?_
          refine K_eqJ (kI2l_eq (a := -v29) (by omega)) ?_
          refine K_lmul (pc := 100) (i := 54) rfl ?_
          refine K_iload (pc := 101) (i := 55) rfl rfl ?_
          refine K_i2l (pc := 103) (i := 56) rfl ?_
          refine K_eqJ (kI2l_eq (a := -v20) (by omega)) ?_
          refine K_iload (pc := 104) (i := 57) rfl rfl ?_
          refine K_i2l (pc := 106) (i := 58) rfl ?_
          refine K_eqJ (kI2l_eq (a := v12) (by omega)) ?_
          refine K_lmul (pc := 107) (i := 59) rfl ?_
          refine K_lcmp (pc := 108) (i := 60) rfl ?_
          refine K_nm (fun v108 e108 => ?_)
          have r108 := kLcmp_R ((-v3) * (-v29)) ((-v20) * v12)
          rw [← e108] at r108
          have t108 := kLcmp_s (a := -v3 * -v29) (b := -v20 * v12) (by omega) (by omega)
          rw [← e108, P1, P2] at t108
          first | refine K_if_lt 135 (pc := 109) (i := 61) rfl rfl (by omega) (fun b109 => ?_) (fun b109 => ?_) | refine K_if_lt_an 135 (pc := 109) (i := 61) rfl rfl (fun b109 => ?_) (fun b109 => ?_)
          · skip
            refine K_iconst (pc := 135) (i := 77) rfl ?_
            refine K_goto 140 (pc := 136) (i := 78) rfl rfl ?_
            exact K_retZ (pc := 140) (i := 80) rfl rfl (by omega) ⟨rfl, by unfold loK; omega⟩
          · skip
            refine K_iload (pc := 112) (i := 62) rfl rfl ?_
            refine K_i2l (pc := 114) (i := 63) rfl ?_
            refine K_eqJ (kI2l_eq (a := -v3) (by omega)) ?_
            refine K_iload (pc := 115) (i := 64) rfl rfl ?_
            refine K_i2l (pc := 117) (i := 65) rfl ?_
            refine K_eqJ (kI2l_eq (a := -v29) (by omega)) ?_
            refine K_lmul (pc := 118) (i := 66) rfl ?_
            refine K_iload (pc := 119) (i := 67) rfl rfl ?_
            refine K_i2l (pc := 121) (i := 68) rfl ?_
            refine K_eqJ (kI2l_eq (a := -v20) (by omega)) ?_
            refine K_iload (pc := 122) (i := 69) rfl rfl ?_
            refine K_i2l (pc := 124) (i := 70) rfl ?_
            refine K_eqJ (kI2l_eq (a := v12) (by omega)) ?_
            refine K_lmul (pc := 125) (i := 71) rfl ?_
            refine K_lcmp (pc := 126) (i := 72) rfl ?_
            refine K_nm (fun v126 e126 => ?_)
            have r126 := kLcmp_R ((-v3) * (-v29)) ((-v20) * v12)
            rw [← e126] at r126
            have t126 := kLcmp_s (a := -v3 * -v29) (b := -v20 * v12) (by omega) (by omega)
            rw [← e126, P1, P2] at t126
            first | refine K_if_ne 139 (pc := 127) (i := 73) rfl rfl (by omega) (fun b127 => ?_) (fun b127 => ?_) | refine K_if_ne_an 139 (pc := 127) (i := 73) rfl rfl (fun b127 => ?_) (fun b127 => ?_)
            · skip
              refine K_iconst (pc := 139) (i := 79) rfl ?_
              exact K_retZ (pc := 140) (i := 80) rfl rfl (by omega) ⟨rfl, by unfold loK; omega⟩
            · skip
              refine K_iload_n (pc := 130) (i := 74) rfl rfl ?_
              refine K_iload_n (pc := 131) (i := 75) rfl rfl ?_
              first | refine K_icmp_ge 139 (pc := 132) (i := 76) rfl rfl (by omega) (by omega) (fun b132 => ?_) (fun b132 => ?_) | refine K_icmp_ge_an 139 (pc := 132) (i := 76) rfl rfl (fun b132 => ?_) (fun b132 => ?_)
              · skip
                refine K_iconst (pc := 139) (i := 79) rfl ?_
                exact K_retZ (pc := 140) (i := 80) rfl rfl (by omega) ⟨rfl, by unfold loK; omega⟩
              · skip
                refine K_iconst (pc := 135) (i := 77) rfl ?_
                refine K_goto 140 (pc := 136) (i := 78) rfl rfl ?_
                exact K_retZ (pc := 140) (i := 80) rfl rfl (by omega) ⟨rfl, by unfold loK; omega⟩
    · skip
      refine K_iload (pc := 54) (i := 31) rfl rfl ?_
      refine K_ineg (pc := 56) (i := 32) rfl ?_
      refine K_goto 62 (pc := 57) (i := 33) rfl rfl ?_
      refine K_ist (pc := 62) (i := 35) (lo' := [(0, _), (1, _), (2, _), (3, _), (4, _), (5, _), (6, _), (7, _)]) rfl rfl rfl rfl ?_
      have A5 : -v12 = kAbs (drK (h 187) x1.toNat x2.toNat) := by first | (rw [← r12.1, kAbs_n (by omega)]; done) | (rw [← r12.1, kAbs_p (by omega)]; done) | exact False.elim (by omega)
      refine K_iload (pc := 64) (i := 36) rfl rfl ?_
      first | refine K_if_ge 75 (pc := 66) (i := 37) rfl rfl (by omega) (fun b66 => ?_) (fun b66 => ?_) | refine K_if_ge_an 75 (pc := 66) (i := 37) rfl rfl (fun b66 => ?_) (fun b66 => ?_)
      · skip
        refine K_iload (pc := 75) (i := 41) rfl rfl ?_
        refine K_ist (pc := 77) (i := 42) (lo' := [(0, _), (1, _), (2, _), (3, _), (4, _), (5, _), (6, _), (7, _)]) rfl rfl rfl rfl ?_
        have A6 : v20 = haS (h 187) x1.toNat x3.toNat := by first | (rw [haS_n (by rw [← r29.1]; omega), ← r20.1]; done) | (rw [haS_p (by rw [← r29.1]; omega), ← r20.1]; done) | exact False.elim (by omega)
        refine K_iload (pc := 79) (i := 43) rfl rfl ?_
        first | refine K_if_ge 90 (pc := 81) (i := 44) rfl rfl (by omega) (fun b81 => ?_) (fun b81 => ?_) | refine K_if_ge_an 90 (pc := 81) (i := 44) rfl rfl (fun b81 => ?_) (fun b81 => ?_)
        · skip
          refine K_iload (pc := 90) (i := 48) rfl rfl ?_
          refine K_ist (pc := 92) (i := 49) (lo' := [(0, _), (1, _), (2, _), (3, _), (4, _), (5, _), (6, _), (7, _)]) rfl rfl rfl rfl ?_
          have A7 : v29 = kAbs (drK (h 187) x1.toNat x3.toNat) := by first | (rw [← r29.1, kAbs_n (by omega)]; done) | (rw [← r29.1, kAbs_p (by omega)]; done) | exact False.elim (by omega)
          have u1 := mul_bd (A := 3240) (B := 720) (a := -v3) (b := v29) (by omega) (by omega)
          have u2 := mul_bd (A := 3240) (B := 720) (a := v20) (b := -v12) (by omega) (by omega)
          have P1 : -v3 * v29 = haS (h 187) x1.toNat x2.toNat * kAbs (drK (h 187) x1.toNat x3.toNat) := by rw [A4, A7]
          have P2 : v20 * -v12 = haS (h 187) x1.toNat x3.toNat * kAbs (drK (h 187) x1.toNat x2.toNat) := by rw [A6, A5]
          refine K_iload (pc := 94) (i := 50) rfl rfl ?_
          refine K_i2l (pc := 96) (i := 51) rfl ?_
          refine K_eqJ (kI2l_eq (a := -v3) (by omega)) ?_
          refine K_iload (pc := 97) (i := 52) rfl rfl ?_
          refine K_i2l (pc := 99) (i := 53) rfl ?_
          refine K_eqJ (kI2l_eq (a := v29) (by omega)) ?_
          refine K_lmul (pc := 100) (i := 54) rfl ?_
          refine K_iload (pc := 101) (i := 55) rfl rfl ?_
          refine K_i2l (pc := 103) (i := 56) rfl ?_
          refine K_eqJ (kI2l_eq (a := v20) (by omega)) ?_
          refine K_iload (pc := 104) (i := 57) rfl rfl ?_
          refine K_i2l (pc := 106) (i := 58) rfl ?_
          refine K_eqJ (kI2l_eq (a := -v12) (by omega)) ?_
          refine K_lmul (pc := 107) (i := 59) rfl ?_
          refine K_lcmp (pc := 108) (i := 60) rfl ?_
          refine K_nm (fun v108 e108 => ?_)
          have r108 := kLcmp_R ((-v3) * v29) (v20 * (-v12))
          rw [← e108] at r108
          have t108 := kLcmp_s (a := -v3 * v29) (b := v20 * -v12) (by omega) (by omega)
          rw [← e108, P1, P2] at t108
          first | refine K_if_lt 135 (pc := 109) (i := 61) rfl rfl (by omega) (fun b109 => ?_) (fun b109 => ?_) | refine K_if_lt_an 135 (pc := 109) (i := 61) rfl rfl (fun b109 => ?_) (fun b109 => ?_)
          · skip
            refine K_iconst (pc := 135) (i := 77) rfl ?_
            refine K_goto 140 (pc := 136) (i := 78) rfl rfl ?_
            exact K_retZ (pc := 140) (i := 80) rfl rfl (by omega) ⟨rfl, by unfold loK; omega⟩
          · skip
            refine K_iload (pc := 112) (i := 62) rfl rfl ?_
            refine K_i2l (pc := 114) (i := 63) rfl ?_
            refine K_eqJ (kI2l_eq (a := -v3) (by omega)) ?_
            refine K_iload (pc := 115) (i := 64) rfl rfl ?_
            refine K_i2l (pc := 117) (i := 65) rfl ?_
            refine K_eqJ (kI2l_eq (a := v29) (by omega)) ?_
            refine K_lmul (pc := 118) (i := 66) rfl ?_
            refine K_iload (pc := 119) (i := 67) rfl rfl ?_
            refine K_i2l (pc := 121) (i := 68) rfl ?_
            refine K_eqJ (kI2l_eq (a := v20) (by omega)) ?_
            refine K_iload (pc := 122) (i := 69) rfl rfl ?_
            refine K_i2l (pc := 124) (i := 70) rfl ?_
            refine K_eqJ (kI2l_eq (a := -v12) (by omega)) ?_
            refine K_lmul (pc := 125) (i := 71) rfl ?_
            refine K_lcmp (pc := 126) (i := 72) rfl ?_
            refine K_nm (fun v126 e126 => ?_)
            have r126 := kLcmp_R ((-v3) * v29) (v20 * (-v12))
            rw [← e126] at r126
            have t126 := kLcmp_s (a := -v3 * v29) (b := v20 * -v12) (by omega) (by omega)
            rw [← e126, P1, P2] at t126
            first | refine K_if_ne 139 (pc := 127) (i := 73) rfl rfl (by omega) (fun b127 => ?_) (fun b127 => ?_) | refine K_if_ne_an 139 (pc := 127) (i := 73) rfl rfl (fun b127 => ?_) (fun b127 => ?_)
            · skip
              refine K_iconst (pc := 139) (i := 79) rfl ?_
              exact K_retZ (pc := 140) (i := 80) rfl rfl (by omega) ⟨rfl, by unfold loK; omega⟩
            · skip
              refine K_iload_n (pc := 130) (i := 74) rfl rfl ?_
              refine K_iload_n (pc := 131) (i := 75) rfl rfl ?_
              first | refine K_icmp_ge 139 (pc := 132) (i := 76) rfl rfl (by omega) (by omega) (fun b132 => ?_) (fun b132 => ?_) | refine K_icmp_ge_an 139 (pc := 132) (i := 76) rfl rfl (fun b132 => ?_) (fun b132 => ?_)
              · skip
                refine K_iconst (pc := 139) (i := 79) rfl ?_
                exact K_retZ (pc := 140) (i := 80) rfl rfl (by omega) ⟨rfl, by unfold loK; omega⟩
              · skip
                refine K_iconst (pc := 135) (i := 77) rfl ?_
                refine K_goto 140 (pc := 136) (i := 78) rfl rfl ?_
                exact K_retZ (pc := 140) (i := 80) rfl rfl (by omega) ⟨rfl, by unfold loK; omega⟩
        · skip
          refine K_iload (pc := 84) (i := 45) rfl rfl ?_
          refine K_ineg (pc := 86) (i := 46) rfl ?_
          refine K_goto 92 (pc := 87) (i := 47) rfl rfl ?_
          refine K_ist (pc := 92) (i := 49) (lo' := [(0, _), (1, _), (2, _), (3, _), (4, _), (5, _), (6, _), (7, _)]) rfl rfl rfl rfl ?_
          have A7 : -v29 = kAbs (drK (h 187) x1.toNat x3.toNat) := by first | (rw [← r29.1, kAbs_n (by omega)]; done) | (rw [← r29.1, kAbs_p (by omega)]; done) | exact False.elim (by omega)
          have u1 := mul_bd (A := 3240) (B := 720) (a := -v3) (b := -v29) (by omega) (by omega)
          have u2 := mul_bd (A := 3240) (B := 720) (a := v20) (b := -v12) (by omega) (by omega)
          have P1 : -v3 * -v29 = haS (h 187) x1.toNat x2.toNat * kAbs (drK (h 187) x1.toNat x3.toNat) := by rw [A4, A7]
          have P2 : v20 * -v12 = haS (h 187) x1.toNat x3.toNat * kAbs (drK (h 187) x1.toNat x2.toNat) := by rw [A6, A5]
          refine K_iload (pc := 94) (i := 50) rfl rfl ?_
          refine K_i2l (pc := 96) (i := 51) rfl ?_
          refine K_eqJ (kI2l_eq (a := -v3) (by omega)) ?_
          refine K_iload (pc := 97) (i := 52) rfl rfl ?_
          refine K_i2l (pc := 99) (i := 53) rfl ?_
          refine K_eqJ (kI2l_eq (a := -v29) (by omega)) ?_
          refine K_lmul (pc := 100) (i := 54) rfl ?_
          refine K_iload (pc := 101) (i := 55) rfl rfl ?_
          refine K_i2l (pc := 103) (i := 56) rfl ?_
          refine K_eqJ (kI2l_eq (a := v20) (by omega)) ?_
          refine K_iload (pc := 104) (i := 57) rfl rfl ?_
          refine K_i2l (pc := 106) (i := 58) rfl ?_
          refine K_eqJ (kI2l_eq (a := -v12) (by omega)) ?_
          refine K_lmul (pc := 107) (i := 59) rfl ?_
          refine K_lcmp (pc := 108) (i := 60) rfl ?_
          refine K_nm (fun v108 e108 => ?_)
          have r108 := kLcmp_R ((-v3) * (-v29)) (v20 * (-v12))
          rw [← e108] at r108
          have t108 := kLcmp_s (a := -v3 * -v29) (b := v20 * -v12) (by omega) (by omega)
          rw [← e108, P1, P2] at t108
          first | refine K_if_lt 135 (pc := 109) (i := 61) rfl rfl (by omega) (fun b109 => ?_) (fun b109 => ?_) | refine K_if_lt_an 135 (pc := 109) (i := 61) rfl rfl (fun b109 => ?_) (fun b109 => ?_)
          · skip
            refine K_iconst (pc := 135) (i := 77) rfl ?_
            refine K_goto 140 (pc := 136) (i := 78) rfl rfl ?_
            exact K_retZ (pc := 140) (i := 80) rfl rfl (by omega) ⟨rfl, by unfold loK; omega⟩
          · skip
            refine K_iload (pc := 112) (i := 62) rfl rfl ?_
            refine K_i2l (pc := 114) (i := 63) rfl ?_
            refine K_eqJ (kI2l_eq (a := -v3) (by omega)) ?_
            refine K_iload (pc := 115) (i := 64) rfl rfl ?_
            refine K_i2l (pc := 117) (i := 65) rfl ?_
            refine K_eqJ (kI2l_eq (a := -v29) (by omega)) ?_
            refine K_lmul (pc := 118) (i := 66) rfl ?_
            refine K_iload (pc := 119) (i := 67) rfl rfl ?_
            refine K_i2l (pc := 121) (i := 68) rfl ?_
            refine K_eqJ (kI2l_eq (a := v20) (by omega)) ?_
            refine K_iload (pc := 122) (i := 69) rfl rfl ?_
            refine K_i2l (pc := 124) (i := 70) rfl ?_
            refine K_eqJ (kI2l_eq (a := -v12) (by omega)) ?_
            refine K_lmul (pc := 125) (i := 71) rfl ?_
            refine K_lcmp (pc := 126) (i := 72) rfl ?_
            refine K_nm (fun v126 e126 => ?_)
            have r126 := kLcmp_R ((-v3) * (-v29)) (v20 * (-v12))
            rw [← e126] at r126
            have t126 := kLcmp_s (a := -v3 * -v29) (b := v20 * -v12) (by omega) (by omega)
            rw [← e126, P1, P2] at t126
            first | refine K_if_ne 139 (pc := 127) (i := 73) rfl rfl (by omega) (fun b127 => ?_) (fun b127 => ?_) | refine K_if_ne_an 139 (pc := 127) (i := 73) rfl rfl (fun b127 => ?_) (fun b127 => ?_)
            · skip
              refine K_iconst (pc := 139) (i := 79) rfl ?_
              exact K_retZ (pc := 140) (i := 80) rfl rfl (by omega) ⟨rfl, by unfold loK; omega⟩
            · skip
              refine K_iload_n (pc := 130) (i := 74) rfl rfl ?_
              refine K_iload_n (pc := 131) (i := 75) rfl rfl ?_
              first | refine K_icmp_ge 139 (pc := 132) (i := 76) rfl rfl (by omega) (by omega) (fun b132 => ?_) (fun b132 => ?_) | refine K_icmp_ge_an 139 (pc := 132) (i := 76) rfl rfl (fun b132 => ?_) (fun b132 => ?_)
              · skip
                refine K_iconst (pc := 139) (i := 79) rfl ?_
                exact K_retZ (pc := 140) (i := 80) rfl rfl (by omega) ⟨rfl, by unfold loK; omega⟩
              · skip
                refine K_iconst (pc := 135) (i := 77) rfl ?_
                refine K_goto 140 (pc := 136) (i := 78) rfl rfl ?_
                exact K_retZ (pc := 140) (i := 80) rfl rfl (by omega) ⟨rfl, by unfold loK; omega⟩
      · skip
        refine K_iload (pc := 69) (i := 38) rfl rfl ?_
        refine K_ineg (pc := 71) (i := 39) rfl ?_
        refine K_goto 77 (pc := 72) (i := 40) rfl rfl ?_
        refine K_ist (pc := 77) (i := 42) (lo' := [(0, _), (1, _), (2, _), (3, _), (4, _), (5, _), (6, _), (7, _)]) rfl rfl rfl rfl ?_
        have A6 : -v20 = haS (h 187) x1.toNat x3.toNat := by first | (rw [haS_n (by rw [← r29.1]; omega), ← r20.1]; done) | (rw [haS_p (by rw [← r29.1]; omega), ← r20.1]; done) | exact False.elim (by omega)
        refine K_iload (pc := 79) (i := 43) rfl rfl ?_
        first | refine K_if_ge 90 (pc := 81) (i := 44) rfl rfl (by omega) (fun b81 => ?_) (fun b81 => ?_) | refine K_if_ge_an 90 (pc := 81) (i := 44) rfl rfl (fun b81 => ?_) (fun b81 => ?_)
        · skip
          refine K_iload (pc := 90) (i := 48) rfl rfl ?_
          refine K_ist (pc := 92) (i := 49) (lo' := [(0, _), (1, _), (2, _), (3, _), (4, _), (5, _), (6, _), (7, _)]) rfl rfl rfl rfl ?_
          have A7 : v29 = kAbs (drK (h 187) x1.toNat x3.toNat) := by first | (rw [← r29.1, kAbs_n (by omega)]; done) | (rw [← r29.1, kAbs_p (by omega)]; done) | exact False.elim (by omega)
          have u1 := mul_bd (A := 3240) (B := 720) (a := -v3) (b := v29) (by omega) (by omega)
          have u2 := mul_bd (A := 3240) (B := 720) (a := -v20) (b := -v12) (by omega) (by omega)
          have P1 : -v3 * v29 = haS (h 187) x1.toNat x2.toNat * kAbs (drK (h 187) x1.toNat x3.toNat) := by rw [A4, A7]
          have P2 : -v20 * -v12 = haS (h 187) x1.toNat x3.toNat * kAbs (drK (h 187) x1.toNat x2.toNat) := by rw [A6, A5]
          refine K_iload (pc := 94) (i := 50) rfl rfl ?_
          refine K_i2l (pc := 96) (i := 51) rfl ?_
          refine K_eqJ (kI2l_eq (a := -v3) (by omega)) ?_
          refine K_iload (pc := 97) (i := 52) rfl rfl ?_
          refine K_i2l (pc := 99) (i := 53) rfl ?_
          refine K_eqJ (kI2l_eq (a := v29) (by omega)) ?_
          refine K_lmul (pc := 100) (i := 54) rfl ?_
          refine K_iload (pc := 101) (i := 55) rfl rfl ?_
          refine K_i2l (pc := 103) (i := 56) rfl ?_
          refine K_eqJ (kI2l_eq (a := -v20) (by omega)) ?_
          refine K_iload (pc := 104) (i := 57) rfl rfl ?_
          refine K_i2l (pc := 106) (i := 58) rfl ?_
          refine K_eqJ (kI2l_eq (a := -v12) (by omega)) ?_
          refine K_lmul (pc := 107) (i := 59) rfl ?_
          refine K_lcmp (pc := 108) (i := 60) rfl ?_
          refine K_nm (fun v108 e108 => ?_)
          have r108 := kLcmp_R ((-v3) * v29) ((-v20) * (-v12))
          rw [← e108] at r108
          have t108 := kLcmp_s (a := -v3 * v29) (b := -v20 * -v12) (by omega) (by omega)
          rw [← e108, P1, P2] at t108
          first | refine K_if_lt 135 (pc := 109) (i := 61) rfl rfl (by omega) (fun b109 => ?_) (fun b109 => ?_) | refine K_if_lt_an 135 (pc := 109) (i := 61) rfl rfl (fun b109 => ?_) (fun b109 => ?_)
          · skip
            refine K_iconst (pc := 135) (i := 77) rfl ?_
            refine K_goto 140 (pc := 136) (i := 78) rfl rfl ?_
            exact K_retZ (pc := 140) (i := 80) rfl rfl (by omega) ⟨rfl, by unfold loK; omega⟩
          · skip
            refine K_iload (pc := 112) (i := 62) rfl rfl ?_
            refine K_i2l (pc := 114) (i := 63) rfl ?_
            refine K_eqJ (kI2l_eq (a := -v3) (by omega)) ?_
            refine K_iload (pc := 115) (i := 64) rfl rfl ?_
            refine K_i2l (pc := 117) (i := 65) rfl ?_
            refine K_eqJ (kI2l_eq (a := v29) (by omega)) ?_
            refine K_lmul (pc := 118) (i := 66) rfl ?_
            refine K_iload (pc := 119) (i := 67) rfl rfl ?_
            refine K_i2l (pc := 121) (i := 68) rfl ?_
            refine K_eqJ (kI2l_eq (a := -v20) (by omega)) ?_
            refine K_iload (pc := 122) (i := 69) rfl rfl ?_
            refine K_i2l (pc := 124) (i := 70) rfl ?_
            refine K_eqJ (kI2l_eq (a := -v12) (by omega)) ?_
            refine K_lmul (pc := 125) (i := 71) rfl ?_
            refine K_lcmp (pc := 126) (i := 72) rfl ?_
            refine K_nm (fun v126 e126 => ?_)
            have r126 := kLcmp_R ((-v3) * v29) ((-v20) * (-v12))
            rw [← e126] at r126
            have t126 := kLcmp_s (a := -v3 * v29) (b := -v20 * -v12) (by omega) (by omega)
            rw [← e126, P1, P2] at t126
            first | refine K_if_ne 139 (pc := 127) (i := 73) rfl rfl (by omega) (fun b127 => ?_) (fun b127 => ?_) | refine K_if_ne_an 139 (pc := 127) (i := 73) rfl rfl (fun b127 => ?_) (fun b127 => ?_)
            · skip
              refine K_iconst (pc := 139) (i := 79) rfl ?_
              exact K_retZ (pc := 140) (i := 80) rfl rfl (by omega) ⟨rfl, by unfold loK; omega⟩
            · skip
              refine K_iload_n (pc := 130) (i := 74) rfl rfl ?_
              refine K_iload_n (pc := 131) (i := 75) rfl rfl ?_
              first | refine K_icmp_ge 139 (pc := 132) (i := 76) rfl rfl (by omega) (by omega) (fun b132 => ?_) (fun b132 => ?_) | refine K_icmp_ge_an 139 (pc := 132) (i := 76) rfl rfl (fun b132 => ?_) (fun b132 => ?_)
              · skip
                refine K_iconst (pc := 139) (i := 79) rfl ?_
                exact K_retZ (pc := 140) (i := 80) rfl rfl (by omega) ⟨rfl, by unfold loK; omega⟩
              · skip
                refine K_iconst (pc := 135) (i := 77) rfl ?_
                refine K_goto 140 (pc := 136) (i := 78) rfl rfl ?_
                exact K_retZ (pc := 140) (i := 80) rfl rfl (by omega) ⟨rfl, by unfold loK; omega⟩
        · skip
          refine K_iload (pc := 84) (i := 45) rfl rfl ?_
          refine K_ineg (pc := 86) (i := 46) rfl ?_
          refine K_goto 92 (pc := 87) (i := 47) rfl rfl ?_
          refine K_ist (pc := 92) (i := 49) (lo' := [(0, _), (1, _), (2, _), (3, _), (4, _), (5, _), (6, _), (7, _)]) rfl rfl rfl rfl ?_
          have A7 : -v29 = kAbs (drK (h 187) x1.toNat x3.toNat) := by first | (rw [← r29.1, kAbs_n (by omega)]; done) | (rw [← r29.1, kAbs_p (by omega)]; done) | exact False.elim (by omega)
          have u1 := mul_bd (A := 3240) (B := 720) (a := -v3) (b := -v29) (by omega) (by omega)
          have u2 := mul_bd (A := 3240) (B := 720) (a := -v20) (b := -v12) (by omega) (by omega)
          have P1 : -v3 * -v29 = haS (h 187) x1.toNat x2.toNat * kAbs (drK (h 187) x1.toNat x3.toNat) := by rw [A4, A7]
          have P2 : -v20 * -v12 = haS (h 187) x1.toNat x3.toNat * kAbs (drK (h 187) x1.toNat x2.toNat) := by rw [A6, A5]
          refine K_iload (pc := 94) (i := 50) rfl rfl ?_
          refine K_i2l (pc := 96) (i := 51) rfl ?_
          refine K_eqJ (kI2l_eq (a := -v3) (by omega)) ?_
          refine K_iload (pc := 97) (i := 52) rfl rfl ?_
          refine K_i2l (pc := 99) (i := 53) rfl ?_
          refine K_eqJ (kI2l_eq (a := -v29) (by omega)) ?_
          refine K_lmul (pc := 100) (i := 54) rfl ?_
          refine K_iload (pc := 101) (i := 55) rfl rfl ?_
          refine K_i2l (pc := 103) (i := 56) rfl ?_
          refine K_eqJ (kI2l_eq (a := -v20) (by omega)) ?_
          refine K_iload (pc := 104) (i := 57) rfl rfl ?_
          refine K_i2l (pc := 106) (i := 58) rfl ?_
          refine K_eqJ (kI2l_eq (a := -v12) (by omega)) ?_
          refine K_lmul (pc := 107) (i := 59) rfl ?_
          refine K_lcmp (pc := 108) (i := 60) rfl ?_
          refine K_nm (fun v108 e108 => ?_)
          have r108 := kLcmp_R ((-v3) * (-v29)) ((-v20) * (-v12))
          rw [← e108] at r108
          have t108 := kLcmp_s (a := -v3 * -v29) (b := -v20 * -v12) (by omega) (by omega)
          rw [← e108, P1, P2] at t108
          first | refine K_if_lt 135 (pc := 109) (i := 61) rfl rfl (by omega) (fun b109 => ?_) (fun b109 => ?_) | refine K_if_lt_an 135 (pc := 109) (i := 61) rfl rfl (fun b109 => ?_) (fun b109 => ?_)
          · skip
            refine K_iconst (pc := 135) (i := 77) rfl ?_
            refine K_goto 140 (pc := 136) (i := 78) rfl rfl ?_
            exact K_retZ (pc := 140) (i := 80) rfl rfl (by omega) ⟨rfl, by unfold loK; omega⟩
          · skip
            refine K_iload (pc := 112) (i := 62) rfl rfl ?_
            refine K_i2l (pc := 114) (i := 63) rfl ?_
            refine K_eqJ (kI2l_eq (a := -v3) (by omega)) ?_
            refine K_iload (pc := 115) (i := 64) rfl rfl ?_
            refine K_i2l (pc := 117) (i := 65) rfl ?_
            refine K_eqJ (kI2l_eq (a := -v29) (by omega)) ?_
            refine K_lmul (pc := 118) (i := 66) rfl ?_
            refine K_iload (pc := 119) (i := 67) rfl rfl ?_
            refine K_i2l (pc := 121) (i := 68) rfl ?_
            refine K_eqJ (kI2l_eq (a := -v20) (by omega)) ?_
            refine K_iload (pc := 122) (i := 69) rfl rfl ?_
            refine K_i2l (pc := 124) (i := 70) rfl ?_
            refine K_eqJ (kI2l_eq (a := -v12) (by omega)) ?_
            refine K_lmul (pc := 125) (i := 71) rfl ?_
            refine K_lcmp (pc := 126) (i := 72) rfl ?_
            refine K_nm (fun v126 e126 => ?_)
            have r126 := kLcmp_R ((-v3) * (-v29)) ((-v20) * (-v12))
            rw [← e126] at r126
            have t126 := kLcmp_s (a := -v3 * -v29) (b := -v20 * -v12) (by omega) (by omega)
            rw [← e126, P1, P2] at t126
            first | refine K_if_ne 139 (pc := 127) (i := 73) rfl rfl (by omega) (fun b127 => ?_) (fun b127 => ?_) | refine K_if_ne_an 139 (pc := 127) (i := 73) rfl rfl (fun b127 => ?_) (fun b127 => ?_)
            · skip
              refine K_iconst (pc := 139) (i := 79) rfl ?_
              exact K_retZ (pc := 140) (i := 80) rfl rfl (by omega) ⟨rfl, by unfold loK; omega⟩
            · skip
              refine K_iload_n (pc := 130) (i := 74) rfl rfl ?_
              refine K_iload_n (pc := 131) (i := 75) rfl rfl ?_
              first | refine K_icmp_ge 139 (pc := 132) (i := 76) rfl rfl (by omega) (by omega) (fun b132 => ?_) (fun b132 => ?_) | refine K_icmp_ge_an 139 (pc := 132) (i := 76) rfl rfl (fun b132 => ?_) (fun b132 => ?_)
              · skip
                refine K_iconst (pc := 139) (i := 79) rfl ?_
                exact K_retZ (pc := 140) (i := 80) rfl rfl (by omega) ⟨rfl, by unfold loK; omega⟩
              · skip
                refine K_iconst (pc := 135) (i := 77) rfl ?_
                refine K_goto 140 (pc := 136) (i := 78) rfl rfl ?_
                exact K_retZ (pc := 140) (i := 80) rfl rfl (by omega) ⟨rfl, by unfold loK; omega⟩
set_option maxHeartbeats 4000000 in
set_option maxRecDepth 100000 in
theorem c_Model_along (G : kG) {g : kGh} {h : kH}  (hT : g.2.2.2.2){x1 : Int} {x2 : Int} (s1 : kR x1) (s2 : kR x2) (hI : Gd g h) : Ctr G y_Model_along X_Model_along 13 [.ref (G.2.2.2 184), kI x1, kI x2] h (kQi (fun z h' => Fx (fun c i => False) h h' ∧ (Gd g h' ∧ ((¬ (0 ≤ x1 ∧ x1 < h 184 4) ∧ z = -1) ∨ ((0 ≤ x1 ∧ x1 < h 184 4) ∧ FST (fun o => ((o ≠ x1.toNat ∧ crK (h 187) x1.toNat o) ∧ sm (fun p => ind (p ≠ x1.toNat ∧ p ≠ o ∧ o ≠ x1.toNat ∧ crK (h 187) x1.toNat p ∧ crK (h 187) x1.toNat o ∧ loK (h 187) x1.toNat p o)) (h 184 4).toNat = x2)) (h 184 4) z))))) := by
  refine Ctr.ofK (by decide) rfl T_Model_along (Nat.le_of_ble_eq_true rfl) (lo := [(0, .ref (G.2.2.2 184)), (1, kI x1), (2, kI x2)]) rfl ?_
  have fx : Fx (fun c i => False) h h := Fx.rf
  have hm8 := rd_many hI
  have hk := (hI.2.2.2.2.2 hT).1
  refine K_aload_n (pc := 0) (i := 0) rfl rfl ?_
  refine K_iload_n (pc := 1) (i := 1) rfl rfl ?_
  refine K_cVI (pc := 2) (i := 2) rfl (c_Model_isKite G (x1 := x1) (hI := hI) (s1 := by omega)) S_184 rfl (lv_Model_102 rfl) rfl rfl rfl rfl rfl (fun v2 h2 q2 => ?_)
  obtain ⟨eh, r2⟩ := q2
  rw [eh]; clear eh
  first | refine K_if_ne 10 (pc := 5) (i := 3) rfl rfl (by omega) (fun b5 => ?_) (fun b5 => ?_) | refine K_if_ne_an 10 (pc := 5) (i := 3) rfl rfl (fun b5 => ?_) (fun b5 => ?_)
  · skip
    refine K_iconst (pc := 10) (i := 6) rfl ?_
    refine K_ist_n (pc := 11) (i := 7) (lo' := [(0, _), (1, _), (2, _), (3, _)]) rfl rfl rfl rfl ?_
    have L12 : ∀ (n : Nat) (x3 : Int), (8 - x3).toNat < n → ((0 ≤ x3 ∧ x3 ≤ 8) ∧ ∀ o : Nat, (o : Int) < x3 → ¬ ((o ≠ x1.toNat ∧ crK (h 187) x1.toNat o) ∧ sm (fun p => ind (p ≠ x1.toNat ∧ p ≠ o ∧ o ≠ x1.toNat ∧ crK (h 187) x1.toNat p ∧ crK (h 187) x1.toNat o ∧ loK (h 187) x1.toNat p o)) (h 184 4).toNat = x2)) → K X_Model_along G (kZm G 13 (kQi (fun z h' => Fx (fun c i => False) h h' ∧ (Gd g h' ∧ ((¬ (0 ≤ x1 ∧ x1 < h 184 4) ∧ z = -1) ∨ ((0 ≤ x1 ∧ x1 < h 184 4) ∧ FST (fun o => ((o ≠ x1.toNat ∧ crK (h 187) x1.toNat o) ∧ sm (fun p => ind (p ≠ x1.toNat ∧ p ≠ o ∧ o ≠ x1.toNat ∧ crK (h 187) x1.toNat p ∧ crK (h 187) x1.toNat o ∧ loK (h 187) x1.toNat p o)) (h 184 4).toNat = x2)) (h 184 4) z)))))) 12 [(0, .ref (G.2.2.2 184)), (1, kI x1), (2, kI x2), (3, kI x3)] [] h := by
      intro n
      induction n with
      | zero => intro x3 hm; exact absurd hm (Nat.not_lt_zero _)
      | succ n ih12 =>
        intro x3 hm12 hV12
        refine K_iload_n (pc := 12) (i := 8) rfl rfl ?_
        refine K_aload_n (pc := 13) (i := 9) rfl rfl ?_
        refine K_getI (pc := 14) (i := 10) (j := 4) rfl S_184 rfl (by decide) rfl fw_Model_59 ?_
        refine K_nm (fun v14 e14 => ?_)
        have r14 := rd_many hI
        rw [← e14] at r14
        have n14 : v14 = h 184 4 := e14
        first | refine K_icmp_ge 129 (pc := 17) (i := 11) rfl rfl (by omega) (by omega) (fun b17 => ?_) (fun b17 => ?_) | refine K_icmp_ge_an 129 (pc := 17) (i := 11) rfl rfl (fun b17 => ?_) (fun b17 => ?_)
        · skip
          refine K_bipush (pc := 129) (i := 71) rfl rfl ?_
          exact K_retI (pc := 131) (i := 72) rfl rfl ⟨fx, ⟨hI, Or.inr ⟨by omega, Or.inl ⟨rfl, fun k hk9 => hV12.2 k (by omega)⟩⟩⟩⟩
        · skip
          refine K_iconst (pc := 20) (i := 12) rfl ?_
          refine K_ist (pc := 21) (i := 13) (lo' := [(0, _), (1, _), (2, _), (3, _), (4, _)]) rfl rfl rfl rfl ?_
          refine K_iconst (pc := 23) (i := 14) rfl ?_
          refine K_ist (pc := 24) (i := 15) (lo' := [(0, _), (1, _), (2, _), (3, _), (4, _), (5, _)]) rfl rfl rfl rfl ?_
          have L26 : ∀ (n : Nat) (x4 : Int) (x5 : Int), (8 - x5).toNat < n → ((0 ≤ x5 ∧ x5 ≤ 8) ∧ (x5 ≤ h 184 4 ∧ 0 ≤ x4 ∧ x4 ≤ x5) ∧ x4 = sm (fun p => ind (p ≠ x1.toNat ∧ p ≠ x3.toNat ∧ x3.toNat ≠ x1.toNat ∧ crK (h 187) x1.toNat p ∧ crK (h 187) x1.toNat x3.toNat ∧ loK (h 187) x1.toNat p x3.toNat)) x5.toNat) → K X_Model_along G (kZm G 13 (kQi (fun z h' => Fx (fun c i => False) h h' ∧ (Gd g h' ∧ ((¬ (0 ≤ x1 ∧ x1 < h 184 4) ∧ z = -1) ∨ ((0 ≤ x1 ∧ x1 < h 184 4) ∧ FST (fun o => ((o ≠ x1.toNat ∧ crK (h 187) x1.toNat o) ∧ sm (fun p => ind (p ≠ x1.toNat ∧ p ≠ o ∧ o ≠ x1.toNat ∧ crK (h 187) x1.toNat p ∧ crK (h 187) x1.toNat o ∧ loK (h 187) x1.toNat p o)) (h 184 4).toNat = x2)) (h 184 4) z)))))) 26 [(0, .ref (G.2.2.2 184)), (1, kI x1), (2, kI x2), (3, kI x3), (4, kI x4), (5, kI x5)] [] h := by
            intro n
            induction n with
            | zero => intro x4 x5 hm; exact absurd hm (Nat.not_lt_zero _)
            | succ n ih26 =>
              intro x4 x5 hm26 hV26
              refine K_iload (pc := 26) (i := 16) rfl rfl ?_
              refine K_aload_n (pc := 28) (i := 17) rfl rfl ?_
              refine K_getI (pc := 29) (i := 18) (j := 4) rfl S_184 rfl (by decide) rfl fw_Model_59 ?_
              refine K_nm (fun v29 e29 => ?_)
              have r29 := rd_many hI
              rw [← e29] at r29
              have n29 : v29 = h 184 4 := e29
              first | refine K_icmp_ge 100 (pc := 32) (i := 19) rfl rfl (by omega) (by omega) (fun b32 => ?_) (fun b32 => ?_) | refine K_icmp_ge_an 100 (pc := 32) (i := 19) rfl rfl (fun b32 => ?_) (fun b32 => ?_)
              · skip
                refine K_iload_n (pc := 100) (i := 55) rfl rfl ?_
                refine K_iload_n (pc := 101) (i := 56) rfl rfl ?_
                first | refine K_icmp_eq 123 (pc := 102) (i := 57) rfl rfl (by omega) (by omega) (fun b102 => ?_) (fun b102 => ?_) | refine K_icmp_eq_an 123 (pc := 102) (i := 57) rfl rfl (fun b102 => ?_) (fun b102 => ?_)
                · skip
                  refine K_inc (pc := 123) (i := 69) (q := 3) (lo' := [(0, _), (1, _), (2, _), (3, _), (4, _), (5, _)]) rfl rfl rfl rfl rfl ?_
                  refine K_goto 12 (pc := 126) (i := 70) rfl rfl ?_
                  refine K_drop (lo' := [(0, .ref (G.2.2.2 184)), (1, kI x1), (2, kI x2), (3, kI (x3 + 1))]) [0, 1, 2, 3] rfl ?_
                  exact ih12 (x3 + 1) (by omega) (by first | exact ⟨by omega, fun k q => if e : k = x3.toNat then (by subst e; exact fun r => absurd r.1.1 (by omega)) else hV12.2 k (by omega)⟩ | exact ⟨by omega, fun k q => if e : k = x3.toNat then (by subst e; exact fun r => r109.elim (fun e => absurd e.1 (by omega)) (fun e => e.2 r.1.2)) else hV12.2 k (by omega)⟩ | exact ⟨by omega, fun k q => if e : k = x3.toNat then (by subst e; exact fun r => absurd r.2 (by rw [show (h 184 4).toNat = x5.toNat by omega, ← hV26.2.2]; omega)) else hV12.2 k (by omega)⟩)
                · skip
                  refine K_aload_n (pc := 105) (i := 58) rfl rfl ?_
                  refine K_iconst (pc := 106) (i := 59) rfl ?_
                  refine K_iload_n (pc := 107) (i := 60) rfl rfl ?_
                  refine K_iload_n (pc := 108) (i := 61) rfl rfl ?_
                  refine K_cVI (pc := 109) (i := 62) rfl (c_Model_doCross G (x1 := 0) (x2 := x1) (x3 := x3) (hk := FK0 hk) (hI := hI) (hn := by omega) (s1 := by omega) (s2 := by omega) (s3 := by omega)) S_184 rfl (lv_Model_137 rfl) rfl rfl rfl rfl rfl (fun v109 h109 q109 => ?_)
                  obtain ⟨eh, r109⟩ := q109
                  rw [eh]; clear eh
                  rw [show kap h (0 : Int).toNat = h 187 from kap_0 h] at r109
                  first | refine K_if_eq 123 (pc := 112) (i := 63) rfl rfl (by omega) (fun b112 => ?_) (fun b112 => ?_) | refine K_if_eq_an 123 (pc := 112) (i := 63) rfl rfl (fun b112 => ?_) (fun b112 => ?_)
                  · skip
                    refine K_inc (pc := 123) (i := 69) (q := 3) (lo' := [(0, _), (1, _), (2, _), (3, _), (4, _), (5, _)]) rfl rfl rfl rfl rfl ?_
                    refine K_goto 12 (pc := 126) (i := 70) rfl rfl ?_
                    refine K_drop (lo' := [(0, .ref (G.2.2.2 184)), (1, kI x1), (2, kI x2), (3, kI (x3 + 1))]) [0, 1, 2, 3] rfl ?_
                    exact ih12 (x3 + 1) (by omega) (by first | exact ⟨by omega, fun k q => if e : k = x3.toNat then (by subst e; exact fun r => absurd r.1.1 (by omega)) else hV12.2 k (by omega)⟩ | exact ⟨by omega, fun k q => if e : k = x3.toNat then (by subst e; exact fun r => r109.elim (fun e => absurd e.1 (by omega)) (fun e => e.2 r.1.2)) else hV12.2 k (by omega)⟩ | exact ⟨by omega, fun k q => if e : k = x3.toNat then (by subst e; exact fun r => absurd r.2 (by rw [show (h 184 4).toNat = x5.toNat by omega, ← hV26.2.2]; omega)) else hV12.2 k (by omega)⟩)
                  · skip
                    refine K_iload (pc := 115) (i := 64) rfl rfl ?_
                    refine K_iload_n (pc := 117) (i := 65) rfl rfl ?_
                    first | refine K_icmp_ne 123 (pc := 118) (i := 66) rfl rfl (by omega) (by omega) (fun b118 => ?_) (fun b118 => ?_) | refine K_icmp_ne_an 123 (pc := 118) (i := 66) rfl rfl (fun b118 => ?_) (fun b118 => ?_)
                    · skip
                      refine K_inc (pc := 123) (i := 69) (q := 3) (lo' := [(0, _), (1, _), (2, _), (3, _), (4, _), (5, _)]) rfl rfl rfl rfl rfl ?_
                      refine K_goto 12 (pc := 126) (i := 70) rfl rfl ?_
                      refine K_drop (lo' := [(0, .ref (G.2.2.2 184)), (1, kI x1), (2, kI x2), (3, kI (x3 + 1))]) [0, 1, 2, 3] rfl ?_
                      exact ih12 (x3 + 1) (by omega) (by first | exact ⟨by omega, fun k q => if e : k = x3.toNat then (by subst e; exact fun r => absurd r.1.1 (by omega)) else hV12.2 k (by omega)⟩ | exact ⟨by omega, fun k q => if e : k = x3.toNat then (by subst e; exact fun r => r109.elim (fun e => absurd e.1 (by omega)) (fun e => e.2 r.1.2)) else hV12.2 k (by omega)⟩ | exact ⟨by omega, fun k q => if e : k = x3.toNat then (by subst e; exact fun r => absurd r.2 (by rw [show (h 184 4).toNat = x5.toNat by omega, ← hV26.2.2]; omega)) else hV12.2 k (by omega)⟩)
                    · skip
                      refine K_iload_n (pc := 121) (i := 67) rfl rfl ?_
                      exact K_retI (pc := 122) (i := 68) rfl rfl ⟨fx, ⟨hI, Or.inr ⟨by omega, Or.inr ⟨x3.toNat, by omega, by omega, ⟨⟨by omega, r109.elim (fun e => e.2) (fun e => absurd e.1 (by omega))⟩, by rw [show (h 184 4).toNat = x5.toNat by omega, ← hV26.2.2]; omega⟩, fun j hj => hV12.2 j (by omega)⟩⟩⟩⟩
              · skip
                have c91 : ∀ w : Int, ((w = x4 + 1 ∧ (x5.toNat ≠ x1.toNat ∧ x5.toNat ≠ x3.toNat ∧ x3.toNat ≠ x1.toNat ∧ crK (h 187) x1.toNat x5.toNat ∧ crK (h 187) x1.toNat x3.toNat ∧ loK (h 187) x1.toNat x5.toNat x3.toNat)) ∨ (w = x4 + 0 ∧ ¬ (x5.toNat ≠ x1.toNat ∧ x5.toNat ≠ x3.toNat ∧ x3.toNat ≠ x1.toNat ∧ crK (h 187) x1.toNat x5.toNat ∧ crK (h 187) x1.toNat x3.toNat ∧ loK (h 187) x1.toNat x5.toNat x3.toNat))) → w = sm (fun p => ind (p ≠ x1.toNat ∧ p ≠ x3.toNat ∧ x3.toNat ≠ x1.toNat ∧ crK (h 187) x1.toNat p ∧ crK (h 187) x1.toNat x3.toNat ∧ loK (h 187) x1.toNat p x3.toNat)) (x5 + 1).toNat := fun w q => by rw [show (x5 + 1).toNat = x5.toNat + 1 by omega, sm, ← hV26.2.2]; rcases q with q | q; (rw [ind_t q.2]; omega); (rw [ind_f q.2]; omega)
                refine K_iload (pc := 35) (i := 20) rfl rfl ?_
                refine K_iload (pc := 37) (i := 21) rfl rfl ?_
                refine K_iload_n (pc := 39) (i := 22) rfl rfl ?_
                first | refine K_icmp_eq 90 (pc := 40) (i := 23) rfl rfl (by omega) (by omega) (fun b40 => ?_) (fun b40 => ?_) | refine K_icmp_eq_an 90 (pc := 40) (i := 23) rfl rfl (fun b40 => ?_) (fun b40 => ?_)
                · skip
                  refine K_iconst (pc := 90) (i := 50) rfl ?_
                  refine K_iadd (pc := 91) (i := 51) rfl ?_
                  refine K_ist (pc := 92) (i := 52) (lo' := [(0, _), (1, _), (2, _), (3, _), (4, _), (5, _)]) rfl rfl rfl rfl ?_
                  refine K_inc (pc := 94) (i := 53) (q := 5) (lo' := [(0, _), (1, _), (2, _), (3, _), (4, _), (5, _)]) rfl rfl rfl rfl rfl ?_
                  refine K_goto 26 (pc := 97) (i := 54) rfl rfl ?_
                  exact ih26 (x4 + 0) (x5 + 1) (by omega) (by first | exact ⟨by omega, by omega, c91 _ (Or.inr ⟨rfl, fun q => absurd q.1 (by omega)⟩)⟩ | exact ⟨by omega, by omega, c91 _ (Or.inr ⟨rfl, fun q => absurd q.2.1 (by omega)⟩)⟩ | exact ⟨by omega, by omega, c91 _ (Or.inr ⟨rfl, fun q => absurd q.2.2.1 (by omega)⟩)⟩ | exact ⟨by omega, by omega, c91 _ (Or.inr ⟨rfl, fun q => r59.elim (fun e => absurd e.1 (by omega)) (fun e => e.2 q.2.2.2.1)⟩)⟩ | exact ⟨by omega, by omega, c91 _ (Or.inr ⟨rfl, fun q => r69.elim (fun e => absurd e.1 (by omega)) (fun e => e.2 q.2.2.2.2.1)⟩)⟩ | exact ⟨by omega, by omega, c91 _ (Or.inr ⟨rfl, fun q => r80.elim (fun e => absurd e.1 (by omega)) (fun e => e.2 q.2.2.2.2.2)⟩)⟩ | exact ⟨by omega, by omega, c91 _ (Or.inl ⟨rfl, by omega, by omega, by omega, r59.elim (fun e => e.2) (fun e => absurd e.1 (by omega)), r69.elim (fun e => e.2) (fun e => absurd e.1 (by omega)), r80.elim (fun e => e.2) (fun e => absurd e.1 (by omega))⟩)⟩)
                · skip
                  refine K_iload (pc := 43) (i := 24) rfl rfl ?_
                  refine K_iload_n (pc := 45) (i := 25) rfl rfl ?_
                  first | refine K_icmp_eq 90 (pc := 46) (i := 26) rfl rfl (by omega) (by omega) (fun b46 => ?_) (fun b46 => ?_) | refine K_icmp_eq_an 90 (pc := 46) (i := 26) rfl rfl (fun b46 => ?_) (fun b46 => ?_)
                  · skip
                    refine K_iconst (pc := 90) (i := 50) rfl ?_
                    refine K_iadd (pc := 91) (i := 51) rfl ?_
                    refine K_ist (pc := 92) (i := 52) (lo' := [(0, _), (1, _), (2, _), (3, _), (4, _), (5, _)]) rfl rfl rfl rfl ?_
                    refine K_inc (pc := 94) (i := 53) (q := 5) (lo' := [(0, _), (1, _), (2, _), (3, _), (4, _), (5, _)]) rfl rfl rfl rfl rfl ?_
                    refine K_goto 26 (pc := 97) (i := 54) rfl rfl ?_
                    exact ih26 (x4 + 0) (x5 + 1) (by omega) (by first | exact ⟨by omega, by omega, c91 _ (Or.inr ⟨rfl, fun q => absurd q.1 (by omega)⟩)⟩ | exact ⟨by omega, by omega, c91 _ (Or.inr ⟨rfl, fun q => absurd q.2.1 (by omega)⟩)⟩ | exact ⟨by omega, by omega, c91 _ (Or.inr ⟨rfl, fun q => absurd q.2.2.1 (by omega)⟩)⟩ | exact ⟨by omega, by omega, c91 _ (Or.inr ⟨rfl, fun q => r59.elim (fun e => absurd e.1 (by omega)) (fun e => e.2 q.2.2.2.1)⟩)⟩ | exact ⟨by omega, by omega, c91 _ (Or.inr ⟨rfl, fun q => r69.elim (fun e => absurd e.1 (by omega)) (fun e => e.2 q.2.2.2.2.1)⟩)⟩ | exact ⟨by omega, by omega, c91 _ (Or.inr ⟨rfl, fun q => r80.elim (fun e => absurd e.1 (by omega)) (fun e => e.2 q.2.2.2.2.2)⟩)⟩ | exact ⟨by omega, by omega, c91 _ (Or.inl ⟨rfl, by omega, by omega, by omega, r59.elim (fun e => e.2) (fun e => absurd e.1 (by omega)), r69.elim (fun e => e.2) (fun e => absurd e.1 (by omega)), r80.elim (fun e => e.2) (fun e => absurd e.1 (by omega))⟩)⟩)
                  · skip
                    refine K_iload_n (pc := 49) (i := 27) rfl rfl ?_
                    refine K_iload_n (pc := 50) (i := 28) rfl rfl ?_
                    first | refine K_icmp_eq 90 (pc := 51) (i := 29) rfl rfl (by omega) (by omega) (fun b51 => ?_) (fun b51 => ?_) | refine K_icmp_eq_an 90 (pc := 51) (i := 29) rfl rfl (fun b51 => ?_) (fun b51 => ?_)
                    · skip
                      refine K_iconst (pc := 90) (i := 50) rfl ?_
                      refine K_iadd (pc := 91) (i := 51) rfl ?_
                      refine K_ist (pc := 92) (i := 52) (lo' := [(0, _), (1, _), (2, _), (3, _), (4, _), (5, _)]) rfl rfl rfl rfl ?_
                      refine K_inc (pc := 94) (i := 53) (q := 5) (lo' := [(0, _), (1, _), (2, _), (3, _), (4, _), (5, _)]) rfl rfl rfl rfl rfl ?_
                      refine K_goto 26 (pc := 97) (i := 54) rfl rfl ?_
                      exact ih26 (x4 + 0) (x5 + 1) (by omega) (by first | exact ⟨by omega, by omega, c91 _ (Or.inr ⟨rfl, fun q => absurd q.1 (by omega)⟩)⟩ | exact ⟨by omega, by omega, c91 _ (Or.inr ⟨rfl, fun q => absurd q.2.1 (by omega)⟩)⟩ | exact ⟨by omega, by omega, c91 _ (Or.inr ⟨rfl, fun q => absurd q.2.2.1 (by omega)⟩)⟩ | exact ⟨by omega, by omega, c91 _ (Or.inr ⟨rfl, fun q => r59.elim (fun e => absurd e.1 (by omega)) (fun e => e.2 q.2.2.2.1)⟩)⟩ | exact ⟨by omega, by omega, c91 _ (Or.inr ⟨rfl, fun q => r69.elim (fun e => absurd e.1 (by omega)) (fun e => e.2 q.2.2.2.2.1)⟩)⟩ | exact ⟨by omega, by omega, c91 _ (Or.inr ⟨rfl, fun q => r80.elim (fun e => absurd e.1 (by omega)) (fun e => e.2 q.2.2.2.2.2)⟩)⟩ | exact ⟨by omega, by omega, c91 _ (Or.inl ⟨rfl, by omega, by omega, by omega, r59.elim (fun e => e.2) (fun e => absurd e.1 (by omega)), r69.elim (fun e => e.2) (fun e => absurd e.1 (by omega)), r80.elim (fun e => e.2) (fun e => absurd e.1 (by omega))⟩)⟩)
                    · skip
                      refine K_aload_n (pc := 54) (i := 30) rfl rfl ?_
                      refine K_iconst (pc := 55) (i := 31) rfl ?_
                      refine K_iload_n (pc := 56) (i := 32) rfl rfl ?_
                      refine K_iload (pc := 57) (i := 33) rfl rfl ?_
                      refine K_cVI (pc := 59) (i := 34) rfl (c_Model_doCross G (x1 := 0) (x2 := x1) (x3 := x5) (hk := FK0 hk) (hI := hI) (hn := by omega) (s1 := by omega) (s2 := by omega) (s3 := by omega)) S_184 rfl (lv_Model_137 rfl) rfl rfl rfl rfl rfl (fun v59 h59 q59 => ?_)
                      obtain ⟨eh, r59⟩ := q59
                      rw [eh]; clear eh
                      rw [show kap h (0 : Int).toNat = h 187 from kap_0 h] at r59
                      first | refine K_if_eq 90 (pc := 62) (i := 35) rfl rfl (by omega) (fun b62 => ?_) (fun b62 => ?_) | refine K_if_eq_an 90 (pc := 62) (i := 35) rfl rfl (fun b62 => ?_) (fun b62 => ?_)
                      · skip
                        refine K_iconst (pc := 90) (i := 50) rfl ?_
                        refine K_iadd (pc := 91) (i := 51) rfl ?_
                        refine K_ist (pc := 92) (i := 52) (lo' := [(0, _), (1, _), (2, _), (3, _), (4, _), (5, _)]) rfl rfl rfl rfl ?_
                        refine K_inc (pc := 94) (i := 53) (q := 5) (lo' := [(0, _), (1, _), (2, _), (3, _), (4, _), (5, _)]) rfl rfl rfl rfl rfl ?_
                        refine K_goto 26 (pc := 97) (i := 54) rfl rfl ?_
                        exact ih26 (x4 + 0) (x5 + 1) (by omega) (by first | exact ⟨by omega, by omega, c91 _ (Or.inr ⟨rfl, fun q => absurd q.1 (by omega)⟩)⟩ | exact ⟨by omega, by omega, c91 _ (Or.inr ⟨rfl, fun q => absurd q.2.1 (by omega)⟩)⟩ | exact ⟨by omega, by omega, c91 _ (Or.inr ⟨rfl, fun q => absurd q.2.2.1 (by omega)⟩)⟩ | exact ⟨by omega, by omega, c91 _ (Or.inr ⟨rfl, fun q => r59.elim (fun e => absurd e.1 (by omega)) (fun e => e.2 q.2.2.2.1)⟩)⟩ | exact ⟨by omega, by omega, c91 _ (Or.inr ⟨rfl, fun q => r69.elim (fun e => absurd e.1 (by omega)) (fun e => e.2 q.2.2.2.2.1)⟩)⟩ | exact ⟨by omega, by omega, c91 _ (Or.inr ⟨rfl, fun q => r80.elim (fun e => absurd e.1 (by omega)) (fun e => e.2 q.2.2.2.2.2)⟩)⟩ | exact ⟨by omega, by omega, c91 _ (Or.inl ⟨rfl, by omega, by omega, by omega, r59.elim (fun e => e.2) (fun e => absurd e.1 (by omega)), r69.elim (fun e => e.2) (fun e => absurd e.1 (by omega)), r80.elim (fun e => e.2) (fun e => absurd e.1 (by omega))⟩)⟩)
                      · skip
                        refine K_aload_n (pc := 65) (i := 36) rfl rfl ?_
                        refine K_iconst (pc := 66) (i := 37) rfl ?_
                        refine K_iload_n (pc := 67) (i := 38) rfl rfl ?_
                        refine K_iload_n (pc := 68) (i := 39) rfl rfl ?_
                        refine K_cVI (pc := 69) (i := 40) rfl (c_Model_doCross G (x1 := 0) (x2 := x1) (x3 := x3) (hk := FK0 hk) (hI := hI) (hn := by omega) (s1 := by omega) (s2 := by omega) (s3 := by omega)) S_184 rfl (lv_Model_137 rfl) rfl rfl rfl rfl rfl (fun v69 h69 q69 => ?_)
                        obtain ⟨eh, r69⟩ := q69
                        rw [eh]; clear eh
                        rw [show kap h (0 : Int).toNat = h 187 from kap_0 h] at r69
                        first | refine K_if_eq 90 (pc := 72) (i := 41) rfl rfl (by omega) (fun b72 => ?_) (fun b72 => ?_) | refine K_if_eq_an 90 (pc := 72) (i := 41) rfl rfl (fun b72 => ?_) (fun b72 => ?_)
                        · skip
                          refine K_iconst (pc := 90) (i := 50) rfl ?_
                          refine K_iadd (pc := 91) (i := 51) rfl ?_
                          refine K_ist (pc := 92) (i := 52) (lo' := [(0, _), (1, _), (2, _), (3, _), (4, _), (5, _)]) rfl rfl rfl rfl ?_
                          refine K_inc (pc := 94) (i := 53) (q := 5) (lo' := [(0, _), (1, _), (2, _), (3, _), (4, _), (5, _)]) rfl rfl rfl rfl rfl ?_
                          refine K_goto 26 (pc := 97) (i := 54) rfl rfl ?_
                          exact ih26 (x4 + 0) (x5 + 1) (by omega) (by first | exact ⟨by omega, by omega, c91 _ (Or.inr ⟨rfl, fun q => absurd q.1 (by omega)⟩)⟩ | exact ⟨by omega, by omega, c91 _ (Or.inr ⟨rfl, fun q => absurd q.2.1 (by omega)⟩)⟩ | exact ⟨by omega, by omega, c91 _ (Or.inr ⟨rfl, fun q => absurd q.2.2.1 (by omega)⟩)⟩ | exact ⟨by omega, by omega, c91 _ (Or.inr ⟨rfl, fun q => r59.elim (fun e => absurd e.1 (by omega)) (fun e => e.2 q.2.2.2.1)⟩)⟩ | exact ⟨by omega, by omega, c91 _ (Or.inr ⟨rfl, fun q => r69.elim (fun e => absurd e.1 (by omega)) (fun e => e.2 q.2.2.2.2.1)⟩)⟩ | exact ⟨by omega, by omega, c91 _ (Or.inr ⟨rfl, fun q => r80.elim (fun e => absurd e.1 (by omega)) (fun e => e.2 q.2.2.2.2.2)⟩)⟩ | exact ⟨by omega, by omega, c91 _ (Or.inl ⟨rfl, by omega, by omega, by omega, r59.elim (fun e => e.2) (fun e => absurd e.1 (by omega)), r69.elim (fun e => e.2) (fun e => absurd e.1 (by omega)), r80.elim (fun e => e.2) (fun e => absurd e.1 (by omega))⟩)⟩)
                        · skip
                          refine K_aload_n (pc := 75) (i := 42) rfl rfl ?_
                          refine K_iload_n (pc := 76) (i := 43) rfl rfl ?_
                          refine K_iload (pc := 77) (i := 44) rfl rfl ?_
                          refine K_iload_n (pc := 79) (i := 45) rfl rfl ?_
                          refine K_cVI (pc := 80) (i := 46) rfl (c_Model_isLower G (x1 := x1) (x2 := x5) (x3 := x3) (hk := hk) (hI := hI) (s1 := by omega) (s2 := by omega) (s3 := by omega)) S_184 rfl (lv_Model_157 rfl) rfl rfl rfl rfl rfl (fun v80 h80 q80 => ?_)
                          obtain ⟨eh, r80⟩ := q80
                          rw [eh]; clear eh
                          first | refine K_if_eq 90 (pc := 83) (i := 47) rfl rfl (by omega) (fun b83 => ?_) (fun b83 => ?_) | refine K_if_eq_an 90 (pc := 83) (i := 47) rfl rfl (fun b83 => ?_) (fun b83 => ?_)
                          · skip
                            refine K_iconst (pc := 90) (i := 50) rfl ?_
                            refine K_iadd (pc := 91) (i := 51) rfl ?_
                            refine K_ist (pc := 92) (i := 52) (lo' := [(0, _), (1, _), (2, _), (3, _), (4, _), (5, _)]) rfl rfl rfl rfl ?_
                            refine K_inc (pc := 94) (i := 53) (q := 5) (lo' := [(0, _), (1, _), (2, _), (3, _), (4, _), (5, _)]) rfl rfl rfl rfl rfl ?_
                            refine K_goto 26 (pc := 97) (i := 54) rfl rfl ?_
                            exact ih26 (x4 + 0) (x5 + 1) (by omega) (by first | exact ⟨by omega, by omega, c91 _ (Or.inr ⟨rfl, fun q => absurd q.1 (by omega)⟩)⟩ | exact ⟨by omega, by omega, c91 _ (Or.inr ⟨rfl, fun q => absurd q.2.1 (by omega)⟩)⟩ | exact ⟨by omega, by omega, c91 _ (Or.inr ⟨rfl, fun q => absurd q.2.2.1 (by omega)⟩)⟩ | exact ⟨by omega, by omega, c91 _ (Or.inr ⟨rfl, fun q => r59.elim (fun e => absurd e.1 (by omega)) (fun e => e.2 q.2.2.2.1)⟩)⟩ | exact ⟨by omega, by omega, c91 _ (Or.inr ⟨rfl, fun q => r69.elim (fun e => absurd e.1 (by omega)) (fun e => e.2 q.2.2.2.2.1)⟩)⟩ | exact ⟨by omega, by omega, c91 _ (Or.inr ⟨rfl, fun q => r80.elim (fun e => absurd e.1 (by omega)) (fun e => e.2 q.2.2.2.2.2)⟩)⟩ | exact ⟨by omega, by omega, c91 _ (Or.inl ⟨rfl, by omega, by omega, by omega, r59.elim (fun e => e.2) (fun e => absurd e.1 (by omega)), r69.elim (fun e => e.2) (fun e => absurd e.1 (by omega)), r80.elim (fun e => e.2) (fun e => absurd e.1 (by omega))⟩)⟩)
                          · skip
                            refine K_iconst (pc := 86) (i := 48) rfl ?_
                            refine K_goto 91 (pc := 87) (i := 49) rfl rfl ?_
                            refine K_iadd (pc := 91) (i := 51) rfl ?_
                            refine K_ist (pc := 92) (i := 52) (lo' := [(0, _), (1, _), (2, _), (3, _), (4, _), (5, _)]) rfl rfl rfl rfl ?_
                            refine K_inc (pc := 94) (i := 53) (q := 5) (lo' := [(0, _), (1, _), (2, _), (3, _), (4, _), (5, _)]) rfl rfl rfl rfl rfl ?_
                            refine K_goto 26 (pc := 97) (i := 54) rfl rfl ?_
                            exact ih26 (x4 + 1) (x5 + 1) (by omega) (by first | exact ⟨by omega, by omega, c91 _ (Or.inr ⟨rfl, fun q => absurd q.1 (by omega)⟩)⟩ | exact ⟨by omega, by omega, c91 _ (Or.inr ⟨rfl, fun q => absurd q.2.1 (by omega)⟩)⟩ | exact ⟨by omega, by omega, c91 _ (Or.inr ⟨rfl, fun q => absurd q.2.2.1 (by omega)⟩)⟩ | exact ⟨by omega, by omega, c91 _ (Or.inr ⟨rfl, fun q => r59.elim (fun e => absurd e.1 (by omega)) (fun e => e.2 q.2.2.2.1)⟩)⟩ | exact ⟨by omega, by omega, c91 _ (Or.inr ⟨rfl, fun q => r69.elim (fun e => absurd e.1 (by omega)) (fun e => e.2 q.2.2.2.2.1)⟩)⟩ | exact ⟨by omega, by omega, c91 _ (Or.inr ⟨rfl, fun q => r80.elim (fun e => absurd e.1 (by omega)) (fun e => e.2 q.2.2.2.2.2)⟩)⟩ | exact ⟨by omega, by omega, c91 _ (Or.inl ⟨rfl, by omega, by omega, by omega, r59.elim (fun e => e.2) (fun e => absurd e.1 (by omega)), r69.elim (fun e => e.2) (fun e => absurd e.1 (by omega)), r80.elim (fun e => e.2) (fun e => absurd e.1 (by omega))⟩)⟩)
          exact L26 _ 0 0 (Nat.lt_succ_self _) ⟨by omega, by omega, rfl⟩
    exact L12 _ 0 (Nat.lt_succ_self _) ⟨by omega, fun k q => absurd q (by omega)⟩
  · skip
    refine K_iconst (pc := 8) (i := 4) rfl ?_
    exact K_retI (pc := 9) (i := 5) rfl rfl ⟨fx, ⟨hI, Or.inl ⟨by omega, rfl⟩⟩⟩
set_option maxHeartbeats 4000000 in
set_option maxRecDepth 100000 in
theorem c_Model_tangle (G : kG) {g : kGh} {h : kH}  (hT : g.2.2.2.2) (hI : Gd g h) : Ctr G y_Model_tangle X_Model_tangle 13 [.ref (G.2.2.2 184)] h (kQi (fun z h' => Fx (fun c i => False) h h' ∧ (Gd g h' ∧ z = sm (fun i => sm (fun j => ind (crK (h 187) i j)) i) (h 184 4).toNat))) := by
  refine Ctr.ofK (by decide) rfl T_Model_tangle (Nat.le_of_ble_eq_true rfl) (lo := [(0, .ref (G.2.2.2 184))]) rfl ?_
  have fx : Fx (fun c i => False) h h := Fx.rf
  have hm8 := rd_many hI
  have hk := (hI.2.2.2.2.2 hT).1
  refine K_iconst (pc := 0) (i := 0) rfl ?_
  refine K_ist_n (pc := 1) (i := 1) (lo' := [(0, _), (1, _)]) rfl rfl rfl rfl ?_
  refine K_iconst (pc := 2) (i := 2) rfl ?_
  refine K_ist_n (pc := 3) (i := 3) (lo' := [(0, _), (1, _), (2, _)]) rfl rfl rfl rfl ?_
  have L4 : ∀ (n : Nat) (x1 : Int) (x2 : Int), (8 - x2).toNat < n → ((0 ≤ x2 ∧ x2 ≤ 8) ∧ x2 ≤ h 184 4 ∧ x1 = sm (fun i => sm (fun j => ind (crK (h 187) i j)) i) x2.toNat) → K X_Model_tangle G (kZm G 13 (kQi (fun z h' => Fx (fun c i => False) h h' ∧ (Gd g h' ∧ z = sm (fun i => sm (fun j => ind (crK (h 187) i j)) i) (h 184 4).toNat)))) 4 [(0, .ref (G.2.2.2 184)), (1, kI x1), (2, kI x2)] [] h := by
    intro n
    induction n with
    | zero => intro x1 x2 hm; exact absurd hm (Nat.not_lt_zero _)
    | succ n ih4 =>
      intro x1 x2 hm4 hV4
      refine K_iload_n (pc := 4) (i := 4) rfl rfl ?_
      refine K_aload_n (pc := 5) (i := 5) rfl rfl ?_
      refine K_getI (pc := 6) (i := 6) (j := 4) rfl S_184 rfl (by decide) rfl fw_Model_59 ?_
      refine K_nm (fun v6 e6 => ?_)
      have r6 := rd_many hI
      rw [← e6] at r6
      first | refine K_icmp_ge 49 (pc := 9) (i := 7) rfl rfl (by omega) (by omega) (fun b9 => ?_) (fun b9 => ?_) | refine K_icmp_ge_an 49 (pc := 9) (i := 7) rfl rfl (fun b9 => ?_) (fun b9 => ?_)
      · skip
        refine K_iload_n (pc := 49) (i := 29) rfl rfl ?_
        exact K_retI (pc := 50) (i := 30) rfl rfl ⟨fx, ⟨hI, by rw [hV4.2.2, show x2.toNat = (h 184 4).toNat by omega]⟩⟩
      · skip
        refine K_iconst (pc := 12) (i := 8) rfl ?_
        refine K_ist_n (pc := 13) (i := 9) (lo' := [(0, _), (1, _), (2, _), (3, _)]) rfl rfl rfl rfl ?_
        have L14 : ∀ (n : Nat) (x1b : Int) (x3b : Int), (8 - x3b).toNat < n → ((0 ≤ x3b ∧ x3b ≤ x2) ∧ x1b = sm (fun i => sm (fun j => ind (crK (h 187) i j)) i) x2.toNat + sm (fun j => ind (crK (h 187) x2.toNat j)) x3b.toNat) → K X_Model_tangle G (kZm G 13 (kQi (fun z h' => Fx (fun c i => False) h h' ∧ (Gd g h' ∧ z = sm (fun i => sm (fun j => ind (crK (h 187) i j)) i) (h 184 4).toNat)))) 14 [(0, .ref (G.2.2.2 184)), (1, kI x1b), (2, kI x2), (3, kI x3b)] [] h := by
          intro n
          induction n with
          | zero => intro x1b x3b hm; exact absurd hm (Nat.not_lt_zero _)
          | succ n ih14 =>
            intro x1b x3b hm14 hV14
            refine K_iload_n (pc := 14) (i := 10) rfl rfl ?_
            refine K_iload_n (pc := 15) (i := 11) rfl rfl ?_
            first | refine K_icmp_ge 43 (pc := 16) (i := 12) rfl rfl (by omega) (by omega) (fun b16 => ?_) (fun b16 => ?_) | refine K_icmp_ge_an 43 (pc := 16) (i := 12) rfl rfl (fun b16 => ?_) (fun b16 => ?_)
            · skip
              refine K_inc (pc := 43) (i := 27) (q := 2) (lo' := [(0, _), (1, _), (2, _), (3, _)]) rfl rfl rfl rfl rfl ?_
              refine K_goto 4 (pc := 46) (i := 28) rfl rfl ?_
              refine K_drop (lo' := [(0, .ref (G.2.2.2 184)), (1, kI x1b), (2, kI (x2 + 1))]) [0, 1, 2] rfl ?_
              exact ih4 x1b (x2 + 1) (by omega) ⟨by omega, by omega, by rw [show (x2 + 1).toNat = x2.toNat + 1 by omega, sm, hV14.2, show x3b.toNat = x2.toNat by omega]⟩
            · skip
              refine K_iload_n (pc := 19) (i := 13) rfl rfl ?_
              refine K_aload_n (pc := 20) (i := 14) rfl rfl ?_
              refine K_iconst (pc := 21) (i := 15) rfl ?_
              refine K_iload_n (pc := 22) (i := 16) rfl rfl ?_
              refine K_iload_n (pc := 23) (i := 17) rfl rfl ?_
              refine K_cVI (pc := 24) (i := 18) rfl (c_Model_doCross G (x1 := 0) (x2 := x2) (x3 := x3b) (hk := FK0 hk) (hI := hI) (hn := by omega) (s1 := by omega) (s2 := by omega) (s3 := by omega)) S_184 rfl (lv_Model_137 rfl) rfl rfl rfl rfl rfl (fun v24 h24 q24 => ?_)
              obtain ⟨eh, r24⟩ := q24
              rw [eh]; clear eh
              rw [show kap h (0 : Int).toNat = h 187 from kap_0 h] at r24
              first | refine K_if_eq 34 (pc := 27) (i := 19) rfl rfl (by omega) (fun b27 => ?_) (fun b27 => ?_) | refine K_if_eq_an 34 (pc := 27) (i := 19) rfl rfl (fun b27 => ?_) (fun b27 => ?_)
              · skip
                refine K_iconst (pc := 34) (i := 22) rfl ?_
                refine K_iadd (pc := 35) (i := 23) rfl ?_
                refine K_ist_n (pc := 36) (i := 24) (lo' := [(0, _), (1, _), (2, _), (3, _)]) rfl rfl rfl rfl ?_
                refine K_inc (pc := 37) (i := 25) (q := 3) (lo' := [(0, _), (1, _), (2, _), (3, _)]) rfl rfl rfl rfl rfl ?_
                refine K_goto 14 (pc := 40) (i := 26) rfl rfl ?_
                exact ih14 (x1b + 0) (x3b + 1) (by omega) (by first | exact ⟨by omega, by rw [show (x3b + 1).toNat = x3b.toNat + 1 by omega, sm, hV14.2, ind_t (r24.elim (fun e => e.2) (fun e => absurd e.1 (by omega)))]; omega⟩ | exact ⟨by omega, by rw [show (x3b + 1).toNat = x3b.toNat + 1 by omega, sm, hV14.2, ind_f (r24.elim (fun e => absurd e.1 (by omega)) (fun e => e.2))]; omega⟩)
              · skip
                refine K_iconst (pc := 30) (i := 20) rfl ?_
                refine K_goto 35 (pc := 31) (i := 21) rfl rfl ?_
                refine K_iadd (pc := 35) (i := 23) rfl ?_
                refine K_ist_n (pc := 36) (i := 24) (lo' := [(0, _), (1, _), (2, _), (3, _)]) rfl rfl rfl rfl ?_
                refine K_inc (pc := 37) (i := 25) (q := 3) (lo' := [(0, _), (1, _), (2, _), (3, _)]) rfl rfl rfl rfl rfl ?_
                refine K_goto 14 (pc := 40) (i := 26) rfl rfl ?_
                exact ih14 (x1b + 1) (x3b + 1) (by omega) (by first | exact ⟨by omega, by rw [show (x3b + 1).toNat = x3b.toNat + 1 by omega, sm, hV14.2, ind_t (r24.elim (fun e => e.2) (fun e => absurd e.1 (by omega)))]; omega⟩ | exact ⟨by omega, by rw [show (x3b + 1).toNat = x3b.toNat + 1 by omega, sm, hV14.2, ind_f (r24.elim (fun e => absurd e.1 (by omega)) (fun e => e.2))]; omega⟩)
        exact L14 _ x1 0 (Nat.lt_succ_self _) ⟨by omega, by rw [hV4.2.2]; exact (Int.add_zero _).symm⟩
  exact L4 _ 0 0 (Nat.lt_succ_self _) ⟨by omega, by omega, rfl⟩
set_option maxHeartbeats 4000000 in
set_option maxRecDepth 100000 in
theorem c_Model_ones (G : kG)  {h : kH} {x0 : Int} : Ctr G y_Model_ones X_Model_ones 1 [kI x0] h (kQi (fun z h' => h' = h ∧ (0 ≤ z ∧ z ≤ 8) ∧ z = pcB x0 8)) := by
  refine Ctr.ofK (by decide) rfl T_Model_ones (Nat.le_of_ble_eq_true rfl) (lo := [(0, kI x0)]) rfl ?_
  refine K_iconst (pc := 0) (i := 0) rfl ?_
  refine K_ist_n (pc := 1) (i := 1) (lo' := [(0, _), (1, _)]) rfl rfl rfl rfl ?_
  refine K_iconst (pc := 2) (i := 2) rfl ?_
  refine K_ist_n (pc := 3) (i := 3) (lo' := [(0, _), (1, _), (2, _)]) rfl rfl rfl rfl ?_
  have L4 : ∀ (n : Nat) (x1 : Int) (x2 : Int), (8 - x2).toNat < n → ((0 ≤ x1 ∧ x1 ≤ x2 ∧ x2 ≤ 8) ∧ x1 = pcB x0 x2.toNat) → K X_Model_ones G (kZm G 1 (kQi (fun z h' => h' = h ∧ (0 ≤ z ∧ z ≤ 8) ∧ z = pcB x0 8))) 4 [(0, kI x0), (1, kI x1), (2, kI x2)] [] h := by
    intro n
    induction n with
    | zero => intro x1 x2 hm; exact absurd hm (Nat.not_lt_zero _)
    | succ n ih4 =>
      intro x1 x2 hm4 hV4
      refine K_iload_n (pc := 4) (i := 4) rfl rfl ?_
      refine K_bipush (pc := 5) (i := 5) rfl rfl ?_
      first | refine K_icmp_ge 24 (pc := 7) (i := 6) rfl rfl (by omega) (by omega) (fun b7 => ?_) (fun b7 => ?_) | refine K_icmp_ge_an 24 (pc := 7) (i := 6) rfl rfl (fun b7 => ?_) (fun b7 => ?_)
      · skip
        refine K_iload_n (pc := 24) (i := 17) rfl rfl ?_
        exact K_retI (pc := 25) (i := 18) rfl rfl ⟨rfl, by omega, by rw [show (8 : Nat) = x2.toNat by omega]; exact hV4.2⟩
      · skip
        refine K_iload_n (pc := 10) (i := 7) rfl rfl ?_
        refine K_iload_n (pc := 11) (i := 8) rfl rfl ?_
        refine K_iload_n (pc := 12) (i := 9) rfl rfl ?_
        refine K_ishr (pc := 13) (i := 10) rfl ?_
        refine K_nm (fun v13 e13 => ?_)
        have r13 := kShr_R x0 x2
        rw [← e13] at r13
        refine K_iconst (pc := 14) (i := 11) rfl ?_
        refine K_iand (pc := 15) (i := 12) rfl ?_
        refine K_nm (fun v15 e15 => ?_)
        have r15 := kAnd_1 v13
        rw [← e15] at r15
        have t15 : v15 = if tb x0 x2 then 1 else 0 := by rw [e15, e13]; exact kbit (by omega)
        refine K_iadd (pc := 16) (i := 13) rfl ?_
        refine K_ist_n (pc := 17) (i := 14) (lo' := [(0, _), (1, _), (2, _)]) rfl rfl rfl rfl ?_
        refine K_inc (pc := 18) (i := 15) (q := 2) (lo' := [(0, _), (1, _), (2, _)]) rfl rfl rfl rfl rfl ?_
        refine K_goto 4 (pc := 21) (i := 16) rfl rfl ?_
        exact ih4 (x1 + v15) (x2 + 1) (by omega) ⟨by omega, by rw [show (x2 + 1).toNat = x2.toNat + 1 by omega, pcB, ← hV4.2, show ((x2.toNat : Nat) : Int) = x2 by omega, t15]⟩
  exact L4 _ 0 0 (Nat.lt_succ_self _) ⟨by omega, rfl⟩
set_option maxHeartbeats 4000000 in
set_option maxRecDepth 100000 in
theorem c_Model_toTakeIn (G : kG) {g : kGh} {h : kH}  (hT : g.2.2.2.2) (hI : Gd g h) : Ctr G y_Model_toTakeIn X_Model_toTakeIn 13 [.ref (G.2.2.2 184)] h (kQi (fun z h' => Fx (fun c i => False) h h' ∧ (Gd g h' ∧ ∃ k : Nat, h 184 4 = k ∧ MWc (fun s => LSt (fun i j => crK (h 187) i j) (h 184 4) s) z ((2 ^ k : Nat) : Int)))) := by
  refine Ctr.ofK (by decide) rfl T_Model_toTakeIn (Nat.le_of_ble_eq_true rfl) (lo := [(0, .ref (G.2.2.2 184))]) rfl ?_
  have fx : Fx (fun c i => False) h h := Fx.rf
  have hm8 := rd_many hI
  have hk := (hI.2.2.2.2.2 hT).1
  obtain ⟨kn, ekn⟩ : ∃ k : Nat, h 184 4 = k := Int.eq_ofNat_of_zero_le hm8.1
  obtain ⟨al1, al2⟩ := all_ok kn (by omega)
  have sy : ∀ i j : Nat, (i : Int) < h 184 4 → (j : Int) < h 184 4 → i ≠ j → crK (h 187) i j → crK (h 187) j i := fun i j hi hj hne a => (crM_sym ((hk i hi).2.2.2 j hj (Ne.symm hne))).1 a
  refine K_bipush (pc := 0) (i := 0) rfl rfl ?_
  refine K_ist_n (pc := 2) (i := 1) (lo' := [(0, _), (1, _)]) rfl rfl rfl rfl ?_
  refine K_iconst (pc := 3) (i := 2) rfl ?_
  refine K_ist_n (pc := 4) (i := 3) (lo' := [(0, _), (1, _), (2, _)]) rfl rfl rfl rfl ?_
  have L5 : ∀ (n : Nat) (x1 : Int) (x2 : Int), (256 - x2).toNat < n → ((0 ≤ x2 ∧ x2 ≤ 256 ∧ x2 ≤ ((2 ^ kn : Nat) : Int) ∧ (-9 ≤ x1 ∧ x1 ≤ 256)) ∧ MWc (fun s => LSt (fun i j => crK (h 187) i j) (h 184 4) s) x1 x2) → K X_Model_toTakeIn G (kZm G 13 (kQi (fun z h' => Fx (fun c i => False) h h' ∧ (Gd g h' ∧ ∃ k : Nat, h 184 4 = k ∧ MWc (fun s => LSt (fun i j => crK (h 187) i j) (h 184 4) s) z ((2 ^ k : Nat) : Int))))) 5 [(0, .ref (G.2.2.2 184)), (1, kI x1), (2, kI x2)] [] h := by
    intro n
    induction n with
    | zero => intro x1 x2 hm; exact absurd hm (Nat.not_lt_zero _)
    | succ n ih5 =>
      intro x1 x2 hm5 hV5
      refine K_iload_n (pc := 5) (i := 4) rfl rfl ?_
      refine K_iconst (pc := 6) (i := 5) rfl ?_
      refine K_aload_n (pc := 7) (i := 6) rfl rfl ?_
      refine K_getI (pc := 8) (i := 7) (j := 4) rfl S_184 rfl (by decide) rfl fw_Model_59 ?_
      refine K_nm (fun v8 e8 => ?_)
      have r8 := rd_many hI
      rw [← e8] at r8
      have n8 : v8 = kn := by rw [e8, ekn]
      refine K_ishl (pc := 11) (i := 8) rfl ?_
      refine K_nm (fun v11 e11 => ?_)
      have r11 := kShl_R 1 v8
      rw [← e11] at r11
      have y11 : v11 = ((2 ^ kn : Nat) : Int) := by rw [e11, n8]; exact al1
      have t11 : 1 ≤ v11 ∧ v11 ≤ 256 := by rw [e11]; exact kShl_le (by omega)
      first | refine K_icmp_ge 126 (pc := 12) (i := 9) rfl rfl (by omega) (by omega) (fun b12 => ?_) (fun b12 => ?_) | refine K_icmp_ge_an 126 (pc := 12) (i := 9) rfl rfl (fun b12 => ?_) (fun b12 => ?_)
      · skip
        refine K_iload_n (pc := 126) (i := 69) rfl rfl ?_
        exact K_retI (pc := 127) (i := 70) rfl rfl ⟨fx, ⟨hI, kn, ekn, by have q := hV5.2; rw [show x2 = ((2 ^ kn : Nat) : Int) by omega] at q; exact q⟩⟩
      · skip
        refine K_iconst (pc := 15) (i := 10) rfl ?_
        refine K_ist_n (pc := 16) (i := 11) (lo' := [(0, _), (1, _), (2, _), (3, _)]) rfl rfl rfl rfl ?_
        refine K_iconst (pc := 17) (i := 12) rfl ?_
        refine K_ist (pc := 18) (i := 13) (lo' := [(0, _), (1, _), (2, _), (3, _), (4, _)]) rfl rfl rfl rfl ?_
        have L20 : ∀ (n : Nat) (x3 : Int) (x4 : Int), (8 - x4).toNat < n → ((0 ≤ x4 ∧ x4 ≤ h 184 4) ∧ ((x3 = 1 ∧ LSi (fun i j => crK (h 187) i j) x2 x4 0) ∨ (x3 = 0 ∧ ¬ LSi (fun i j => crK (h 187) i j) x2 x4 0))) → K X_Model_toTakeIn G (kZm G 13 (kQi (fun z h' => Fx (fun c i => False) h h' ∧ (Gd g h' ∧ ∃ k : Nat, h 184 4 = k ∧ MWc (fun s => LSt (fun i j => crK (h 187) i j) (h 184 4) s) z ((2 ^ k : Nat) : Int))))) 20 [(0, .ref (G.2.2.2 184)), (1, kI x1), (2, kI x2), (3, kI x3), (4, kI x4)] [] h := by
          intro n
          induction n with
          | zero => intro x3 x4 hm; exact absurd hm (Nat.not_lt_zero _)
          | succ n ih20 =>
            intro x3 x4 hm20 hV20
            have k20 : x3 = 0 ∨ x3 = 1 := hV20.2.elim (fun q => Or.inr q.1) (fun q => Or.inl q.1)
            refine K_iload (pc := 20) (i := 14) rfl rfl ?_
            refine K_aload_n (pc := 22) (i := 15) rfl rfl ?_
            refine K_getI (pc := 23) (i := 16) (j := 4) rfl S_184 rfl (by decide) rfl fw_Model_59 ?_
            refine K_nm (fun v23 e23 => ?_)
            have r23 := rd_many hI
            rw [← e23] at r23
            first | refine K_icmp_ge 93 (pc := 26) (i := 17) rfl rfl (by omega) (by omega) (fun b26 => ?_) (fun b26 => ?_) | refine K_icmp_ge_an 93 (pc := 26) (i := 17) rfl rfl (fun b26 => ?_) (fun b26 => ?_)
            · skip
              have fr93 : (x3 = 1 ∧ LSt (fun i j => crK (h 187) i j) (h 184 4) x2) ∨ (x3 = 0 ∧ ¬ LSt (fun i j => crK (h 187) i j) (h 184 4) x2) := by have q := hV20.2; rw [show x4 = h 184 4 by omega, LSi.end sy] at q; exact q
              have b93 : x1 = -9 ∨ 0 ≤ x1 := by rcases hV5.2 with q | q; exact Or.inl q.1; exact Or.inr q.1.1
              refine K_iload_n (pc := 93) (i := 53) rfl rfl ?_
              first | refine K_if_eq 118 (pc := 94) (i := 54) rfl rfl (by omega) (fun b94 => ?_) (fun b94 => ?_) | refine K_if_eq_an 118 (pc := 94) (i := 54) rfl rfl (fun b94 => ?_) (fun b94 => ?_)
              · skip
                refine K_iload_n (pc := 118) (i := 65) rfl rfl ?_
                refine K_ist_n (pc := 119) (i := 66) (lo' := [(0, _), (1, _), (2, _), (3, _), (4, _)]) rfl rfl rfl rfl ?_
                refine K_inc (pc := 120) (i := 67) (q := 2) (lo' := [(0, _), (1, _), (2, _), (3, _), (4, _)]) rfl rfl rfl rfl rfl ?_
                refine K_goto 5 (pc := 123) (i := 68) rfl rfl ?_
                refine K_drop (lo' := [(0, .ref (G.2.2.2 184)), (1, kI x1), (2, kI (x2 + 1))]) [0, 1, 2] rfl ?_
                exact ih5 x1 (x2 + 1) (by omega) (by first | exact ⟨by omega, hV5.2.yes (by omega) (fr93.elim (fun q => q.2) (fun q => absurd q.1 (by omega))) (by omega)⟩ | exact ⟨by omega, hV5.2.no (fun q => absurd q (fr93.elim (fun e => absurd e.1 (by omega)) (fun e => e.2)))⟩ | exact ⟨by omega, hV5.2.no (fun q => ⟨by omega, by omega⟩)⟩)
              · skip
                refine K_iload_n (pc := 97) (i := 55) rfl rfl ?_
                refine K_bipush (pc := 98) (i := 56) rfl rfl ?_
                first | refine K_icmp_eq 114 (pc := 100) (i := 57) rfl rfl (by omega) (by omega) (fun b100 => ?_) (fun b100 => ?_) | refine K_icmp_eq_an 114 (pc := 100) (i := 57) rfl rfl (fun b100 => ?_) (fun b100 => ?_)
                · skip
                  refine K_iload_n (pc := 114) (i := 63) rfl rfl ?_
                  refine K_goto 119 (pc := 115) (i := 64) rfl rfl ?_
                  refine K_ist_n (pc := 119) (i := 66) (lo' := [(0, _), (1, _), (2, _), (3, _), (4, _)]) rfl rfl rfl rfl ?_
                  refine K_inc (pc := 120) (i := 67) (q := 2) (lo' := [(0, _), (1, _), (2, _), (3, _), (4, _)]) rfl rfl rfl rfl rfl ?_
                  refine K_goto 5 (pc := 123) (i := 68) rfl rfl ?_
                  refine K_drop (lo' := [(0, .ref (G.2.2.2 184)), (1, kI x2), (2, kI (x2 + 1))]) [0, 1, 2] rfl ?_
                  exact ih5 x2 (x2 + 1) (by omega) (by first | exact ⟨by omega, hV5.2.yes (by omega) (fr93.elim (fun q => q.2) (fun q => absurd q.1 (by omega))) (by omega)⟩ | exact ⟨by omega, hV5.2.no (fun q => absurd q (fr93.elim (fun e => absurd e.1 (by omega)) (fun e => e.2)))⟩ | exact ⟨by omega, hV5.2.no (fun q => ⟨by omega, by omega⟩)⟩)
                · skip
                  refine K_iload_n (pc := 103) (i := 58) rfl rfl ?_
                  refine K_cSI (pc := 104) (i := 59) rfl (c_Model_ones G (x0 := x2)) (ls_Model_160 rfl) rfl rfl rfl rfl (fun v104 h104 q104 => ?_)
                  obtain ⟨eh, r104⟩ := q104
                  rw [eh]; clear eh
                  have t104 : v104 = pcI x2 := by rw [r104.2, pcI_8 (by omega) (by omega)]
                  refine K_iload_n (pc := 107) (i := 60) rfl rfl ?_
                  refine K_cSI (pc := 108) (i := 61) rfl (c_Model_ones G (x0 := x1)) (ls_Model_160 rfl) rfl rfl rfl rfl (fun v108 h108 q108 => ?_)
                  obtain ⟨eh, r108⟩ := q108
                  rw [eh]; clear eh
                  have t108 : v108 = pcI x1 := by rw [r108.2]; rcases hV5.2 with q | q; exact absurd q.1 (by omega); exact (pcI_8 q.1.1 (by have := q.1.2; omega)).symm
                  first | refine K_icmp_ge 118 (pc := 111) (i := 62) rfl rfl (by omega) (by omega) (fun b111 => ?_) (fun b111 => ?_) | refine K_icmp_ge_an 118 (pc := 111) (i := 62) rfl rfl (fun b111 => ?_) (fun b111 => ?_)
                  · skip
                    refine K_iload_n (pc := 118) (i := 65) rfl rfl ?_
                    refine K_ist_n (pc := 119) (i := 66) (lo' := [(0, _), (1, _), (2, _), (3, _), (4, _)]) rfl rfl rfl rfl ?_
                    refine K_inc (pc := 120) (i := 67) (q := 2) (lo' := [(0, _), (1, _), (2, _), (3, _), (4, _)]) rfl rfl rfl rfl rfl ?_
                    refine K_goto 5 (pc := 123) (i := 68) rfl rfl ?_
                    refine K_drop (lo' := [(0, .ref (G.2.2.2 184)), (1, kI x1), (2, kI (x2 + 1))]) [0, 1, 2] rfl ?_
                    exact ih5 x1 (x2 + 1) (by omega) (by first | exact ⟨by omega, hV5.2.yes (by omega) (fr93.elim (fun q => q.2) (fun q => absurd q.1 (by omega))) (by omega)⟩ | exact ⟨by omega, hV5.2.no (fun q => absurd q (fr93.elim (fun e => absurd e.1 (by omega)) (fun e => e.2)))⟩ | exact ⟨by omega, hV5.2.no (fun q => ⟨by omega, by omega⟩)⟩)
                  · skip
                    refine K_iload_n (pc := 114) (i := 63) rfl rfl ?_
                    refine K_goto 119 (pc := 115) (i := 64) rfl rfl ?_
                    refine K_ist_n (pc := 119) (i := 66) (lo' := [(0, _), (1, _), (2, _), (3, _), (4, _)]) rfl rfl rfl rfl ?_
                    refine K_inc (pc := 120) (i := 67) (q := 2) (lo' := [(0, _), (1, _), (2, _), (3, _), (4, _)]) rfl rfl rfl rfl rfl ?_
                    refine K_goto 5 (pc := 123) (i := 68) rfl rfl ?_
                    refine K_drop (lo' := [(0, .ref (G.2.2.2 184)), (1, kI x2), (2, kI (x2 + 1))]) [0, 1, 2] rfl ?_
                    exact ih5 x2 (x2 + 1) (by omega) (by first | exact ⟨by omega, hV5.2.yes (by omega) (fr93.elim (fun q => q.2) (fun q => absurd q.1 (by omega))) (by omega)⟩ | exact ⟨by omega, hV5.2.no (fun q => absurd q (fr93.elim (fun e => absurd e.1 (by omega)) (fun e => e.2)))⟩ | exact ⟨by omega, hV5.2.no (fun q => ⟨by omega, by omega⟩)⟩)
            · skip
              refine K_iconst (pc := 29) (i := 18) rfl ?_
              refine K_ist (pc := 30) (i := 19) (lo' := [(0, _), (1, _), (2, _), (3, _), (4, _), (5, _)]) rfl rfl rfl rfl ?_
              have L32 : ∀ (n : Nat) (x3 : Int) (x5 : Int), (8 - x5).toNat < n → ((0 ≤ x5 ∧ x5 ≤ x4) ∧ ((x3 = 1 ∧ LSi (fun i j => crK (h 187) i j) x2 x4 x5) ∨ (x3 = 0 ∧ ¬ LSi (fun i j => crK (h 187) i j) x2 x4 x5))) → K X_Model_toTakeIn G (kZm G 13 (kQi (fun z h' => Fx (fun c i => False) h h' ∧ (Gd g h' ∧ ∃ k : Nat, h 184 4 = k ∧ MWc (fun s => LSt (fun i j => crK (h 187) i j) (h 184 4) s) z ((2 ^ k : Nat) : Int))))) 32 [(0, .ref (G.2.2.2 184)), (1, kI x1), (2, kI x2), (3, kI x3), (4, kI x4), (5, kI x5)] [] h := by
                intro n
                induction n with
                | zero => intro x3 x5 hm; exact absurd hm (Nat.not_lt_zero _)
                | succ n ih32 =>
                  intro x3 x5 hm32 hV32
                  have k32 : x3 = 0 ∨ x3 = 1 := hV32.2.elim (fun q => Or.inr q.1) (fun q => Or.inl q.1)
                  refine K_iload (pc := 32) (i := 20) rfl rfl ?_
                  refine K_iload (pc := 34) (i := 21) rfl rfl ?_
                  first | refine K_icmp_ge 87 (pc := 36) (i := 22) rfl rfl (by omega) (by omega) (fun b36 => ?_) (fun b36 => ?_) | refine K_icmp_ge_an 87 (pc := 36) (i := 22) rfl rfl (fun b36 => ?_) (fun b36 => ?_)
                  · skip
                    refine K_inc (pc := 87) (i := 51) (q := 4) (lo' := [(0, _), (1, _), (2, _), (3, _), (4, _), (5, _)]) rfl rfl rfl rfl rfl ?_
                    refine K_goto 20 (pc := 90) (i := 52) rfl rfl ?_
                    refine K_drop (lo' := [(0, .ref (G.2.2.2 184)), (1, kI x1), (2, kI x2), (3, kI x3), (4, kI (x4 + 1))]) [0, 1, 2, 3, 4] rfl ?_
                    exact ih20 x3 (x4 + 1) (by omega) ⟨by omega, hV32.2.elim (fun q => Or.inl ⟨q.1, q.2.next (by omega)⟩) (fun q => Or.inr ⟨q.1, fun e => q.2 (e.back (by omega))⟩)⟩
                  · skip
                    refine K_iload_n (pc := 39) (i := 23) rfl rfl ?_
                    first | refine K_if_eq 79 (pc := 40) (i := 24) rfl rfl (by omega) (fun b40 => ?_) (fun b40 => ?_) | refine K_if_eq_an 79 (pc := 40) (i := 24) rfl rfl (fun b40 => ?_) (fun b40 => ?_)
                    · skip
                      refine K_iconst (pc := 79) (i := 47) rfl ?_
                      refine K_ist_n (pc := 80) (i := 48) (lo' := [(0, _), (1, _), (2, _), (3, _), (4, _), (5, _)]) rfl rfl rfl rfl ?_
                      refine K_inc (pc := 81) (i := 49) (q := 5) (lo' := [(0, _), (1, _), (2, _), (3, _), (4, _), (5, _)]) rfl rfl rfl rfl rfl ?_
                      refine K_goto 32 (pc := 84) (i := 50) rfl rfl ?_
                      exact ih32 0 (x5 + 1) (by omega) (by first | exact ⟨by omega, Or.inr ⟨rfl, fun e => hV32.2.elim (fun q => absurd q.1 (by omega)) (fun q => q.2 e.less)⟩⟩ | exact ⟨by omega, Or.inl ⟨rfl, (hV32.2.elim (fun q => q.2) (fun q => absurd q.1 (by omega))).st (fun q => absurd q.1 (by rw [tbx t48 (by omega)]; simp))⟩⟩ | exact ⟨by omega, Or.inl ⟨rfl, (hV32.2.elim (fun q => q.2) (fun q => absurd q.1 (by omega))).st (fun q => absurd q.2.1 (by rw [tbx t58 (by omega)]; simp))⟩⟩ | exact ⟨by omega, Or.inl ⟨rfl, (hV32.2.elim (fun q => q.2) (fun q => absurd q.1 (by omega))).st (fun q => r69.elim (fun e => absurd e.1 (by omega)) (fun e => e.2 q.2.2))⟩⟩ | exact ⟨by omega, Or.inr ⟨rfl, LSi.bad (by omega) ⟨tbf t48 (by omega), tbf t58 (by omega), r69.elim (fun e => e.2) (fun e => absurd e.1 (by omega))⟩⟩⟩)
                    · skip
                      refine K_iload_n (pc := 43) (i := 25) rfl rfl ?_
                      refine K_iload (pc := 44) (i := 26) rfl rfl ?_
                      refine K_ishr (pc := 46) (i := 27) rfl ?_
                      refine K_nm (fun v46 e46 => ?_)
                      have r46 := kShr_R x2 x4
                      rw [← e46] at r46
                      refine K_iconst (pc := 47) (i := 28) rfl ?_
                      refine K_iand (pc := 48) (i := 29) rfl ?_
                      refine K_nm (fun v48 e48 => ?_)
                      have r48 := kAnd_1 v46
                      rw [← e48] at r48
                      have t48 : v48 = if tb x2 x4 then 1 else 0 := by rw [e48, e46]; exact kbit (by omega)
                      refine K_iconst (pc := 49) (i := 30) rfl ?_
                      first | refine K_icmp_eq 75 (pc := 50) (i := 31) rfl rfl (by omega) (by omega) (fun b50 => ?_) (fun b50 => ?_) | refine K_icmp_eq_an 75 (pc := 50) (i := 31) rfl rfl (fun b50 => ?_) (fun b50 => ?_)
                      · skip
                        refine K_iconst (pc := 75) (i := 45) rfl ?_
                        refine K_goto 80 (pc := 76) (i := 46) rfl rfl ?_
                        refine K_ist_n (pc := 80) (i := 48) (lo' := [(0, _), (1, _), (2, _), (3, _), (4, _), (5, _)]) rfl rfl rfl rfl ?_
                        refine K_inc (pc := 81) (i := 49) (q := 5) (lo' := [(0, _), (1, _), (2, _), (3, _), (4, _), (5, _)]) rfl rfl rfl rfl rfl ?_
                        refine K_goto 32 (pc := 84) (i := 50) rfl rfl ?_
                        exact ih32 1 (x5 + 1) (by omega) (by first | exact ⟨by omega, Or.inr ⟨rfl, fun e => hV32.2.elim (fun q => absurd q.1 (by omega)) (fun q => q.2 e.less)⟩⟩ | exact ⟨by omega, Or.inl ⟨rfl, (hV32.2.elim (fun q => q.2) (fun q => absurd q.1 (by omega))).st (fun q => absurd q.1 (by rw [tbx t48 (by omega)]; simp))⟩⟩ | exact ⟨by omega, Or.inl ⟨rfl, (hV32.2.elim (fun q => q.2) (fun q => absurd q.1 (by omega))).st (fun q => absurd q.2.1 (by rw [tbx t58 (by omega)]; simp))⟩⟩ | exact ⟨by omega, Or.inl ⟨rfl, (hV32.2.elim (fun q => q.2) (fun q => absurd q.1 (by omega))).st (fun q => r69.elim (fun e => absurd e.1 (by omega)) (fun e => e.2 q.2.2))⟩⟩ | exact ⟨by omega, Or.inr ⟨rfl, LSi.bad (by omega) ⟨tbf t48 (by omega), tbf t58 (by omega), r69.elim (fun e => e.2) (fun e => absurd e.1 (by omega))⟩⟩⟩)
                      · skip
                        refine K_iload_n (pc := 53) (i := 32) rfl rfl ?_
                        refine K_iload (pc := 54) (i := 33) rfl rfl ?_
                        refine K_ishr (pc := 56) (i := 34) rfl ?_
                        refine K_nm (fun v56 e56 => ?_)
                        have r56 := kShr_R x2 x5
                        rw [← e56] at r56
                        refine K_iconst (pc := 57) (i := 35) rfl ?_
                        refine K_iand (pc := 58) (i := 36) rfl ?_
                        refine K_nm (fun v58 e58 => ?_)
                        have r58 := kAnd_1 v56
                        rw [← e58] at r58
                        have t58 : v58 = if tb x2 x5 then 1 else 0 := by rw [e58, e56]; exact kbit (by omega)
                        refine K_iconst (pc := 59) (i := 37) rfl ?_
                        first | refine K_icmp_eq 75 (pc := 60) (i := 38) rfl rfl (by omega) (by omega) (fun b60 => ?_) (fun b60 => ?_) | refine K_icmp_eq_an 75 (pc := 60) (i := 38) rfl rfl (fun b60 => ?_) (fun b60 => ?_)
                        · skip
                          refine K_iconst (pc := 75) (i := 45) rfl ?_
                          refine K_goto 80 (pc := 76) (i := 46) rfl rfl ?_
                          refine K_ist_n (pc := 80) (i := 48) (lo' := [(0, _), (1, _), (2, _), (3, _), (4, _), (5, _)]) rfl rfl rfl rfl ?_
                          refine K_inc (pc := 81) (i := 49) (q := 5) (lo' := [(0, _), (1, _), (2, _), (3, _), (4, _), (5, _)]) rfl rfl rfl rfl rfl ?_
                          refine K_goto 32 (pc := 84) (i := 50) rfl rfl ?_
                          exact ih32 1 (x5 + 1) (by omega) (by first | exact ⟨by omega, Or.inr ⟨rfl, fun e => hV32.2.elim (fun q => absurd q.1 (by omega)) (fun q => q.2 e.less)⟩⟩ | exact ⟨by omega, Or.inl ⟨rfl, (hV32.2.elim (fun q => q.2) (fun q => absurd q.1 (by omega))).st (fun q => absurd q.1 (by rw [tbx t48 (by omega)]; simp))⟩⟩ | exact ⟨by omega, Or.inl ⟨rfl, (hV32.2.elim (fun q => q.2) (fun q => absurd q.1 (by omega))).st (fun q => absurd q.2.1 (by rw [tbx t58 (by omega)]; simp))⟩⟩ | exact ⟨by omega, Or.inl ⟨rfl, (hV32.2.elim (fun q => q.2) (fun q => absurd q.1 (by omega))).st (fun q => r69.elim (fun e => absurd e.1 (by omega)) (fun e => e.2 q.2.2))⟩⟩ | exact ⟨by omega, Or.inr ⟨rfl, LSi.bad (by omega) ⟨tbf t48 (by omega), tbf t58 (by omega), r69.elim (fun e => e.2) (fun e => absurd e.1 (by omega))⟩⟩⟩)
                        · skip
                          refine K_aload_n (pc := 63) (i := 39) rfl rfl ?_
                          refine K_iconst (pc := 64) (i := 40) rfl ?_
                          refine K_iload (pc := 65) (i := 41) rfl rfl ?_
                          refine K_iload (pc := 67) (i := 42) rfl rfl ?_
                          refine K_cVI (pc := 69) (i := 43) rfl (c_Model_doCross G (x1 := 0) (x2 := x4) (x3 := x5) (hk := FK0 hk) (hI := hI) (hn := by omega) (s1 := by omega) (s2 := by omega) (s3 := by omega)) S_184 rfl (lv_Model_137 rfl) rfl rfl rfl rfl rfl (fun v69 h69 q69 => ?_)
                          obtain ⟨eh, r69⟩ := q69
                          rw [eh]; clear eh
                          rw [show kap h (0 : Int).toNat = h 187 from kap_0 h] at r69
                          first | refine K_if_ne 79 (pc := 72) (i := 44) rfl rfl (by omega) (fun b72 => ?_) (fun b72 => ?_) | refine K_if_ne_an 79 (pc := 72) (i := 44) rfl rfl (fun b72 => ?_) (fun b72 => ?_)
                          · skip
                            refine K_iconst (pc := 79) (i := 47) rfl ?_
                            refine K_ist_n (pc := 80) (i := 48) (lo' := [(0, _), (1, _), (2, _), (3, _), (4, _), (5, _)]) rfl rfl rfl rfl ?_
                            refine K_inc (pc := 81) (i := 49) (q := 5) (lo' := [(0, _), (1, _), (2, _), (3, _), (4, _), (5, _)]) rfl rfl rfl rfl rfl ?_
                            refine K_goto 32 (pc := 84) (i := 50) rfl rfl ?_
                            exact ih32 0 (x5 + 1) (by omega) (by first | exact ⟨by omega, Or.inr ⟨rfl, fun e => hV32.2.elim (fun q => absurd q.1 (by omega)) (fun q => q.2 e.less)⟩⟩ | exact ⟨by omega, Or.inl ⟨rfl, (hV32.2.elim (fun q => q.2) (fun q => absurd q.1 (by omega))).st (fun q => absurd q.1 (by rw [tbx t48 (by omega)]; simp))⟩⟩ | exact ⟨by omega, Or.inl ⟨rfl, (hV32.2.elim (fun q => q.2) (fun q => absurd q.1 (by omega))).st (fun q => absurd q.2.1 (by rw [tbx t58 (by omega)]; simp))⟩⟩ | exact ⟨by omega, Or.inl ⟨rfl, (hV32.2.elim (fun q => q.2) (fun q => absurd q.1 (by omega))).st (fun q => r69.elim (fun e => absurd e.1 (by omega)) (fun e => e.2 q.2.2))⟩⟩ | exact ⟨by omega, Or.inr ⟨rfl, LSi.bad (by omega) ⟨tbf t48 (by omega), tbf t58 (by omega), r69.elim (fun e => e.2) (fun e => absurd e.1 (by omega))⟩⟩⟩)
                          · skip
                            refine K_iconst (pc := 75) (i := 45) rfl ?_
                            refine K_goto 80 (pc := 76) (i := 46) rfl rfl ?_
                            refine K_ist_n (pc := 80) (i := 48) (lo' := [(0, _), (1, _), (2, _), (3, _), (4, _), (5, _)]) rfl rfl rfl rfl ?_
                            refine K_inc (pc := 81) (i := 49) (q := 5) (lo' := [(0, _), (1, _), (2, _), (3, _), (4, _), (5, _)]) rfl rfl rfl rfl rfl ?_
                            refine K_goto 32 (pc := 84) (i := 50) rfl rfl ?_
                            exact ih32 1 (x5 + 1) (by omega) (by first | exact ⟨by omega, Or.inr ⟨rfl, fun e => hV32.2.elim (fun q => absurd q.1 (by omega)) (fun q => q.2 e.less)⟩⟩ | exact ⟨by omega, Or.inl ⟨rfl, (hV32.2.elim (fun q => q.2) (fun q => absurd q.1 (by omega))).st (fun q => absurd q.1 (by rw [tbx t48 (by omega)]; simp))⟩⟩ | exact ⟨by omega, Or.inl ⟨rfl, (hV32.2.elim (fun q => q.2) (fun q => absurd q.1 (by omega))).st (fun q => absurd q.2.1 (by rw [tbx t58 (by omega)]; simp))⟩⟩ | exact ⟨by omega, Or.inl ⟨rfl, (hV32.2.elim (fun q => q.2) (fun q => absurd q.1 (by omega))).st (fun q => r69.elim (fun e => absurd e.1 (by omega)) (fun e => e.2 q.2.2))⟩⟩ | exact ⟨by omega, Or.inr ⟨rfl, LSi.bad (by omega) ⟨tbf t48 (by omega), tbf t58 (by omega), r69.elim (fun e => e.2) (fun e => absurd e.1 (by omega))⟩⟩⟩)
              exact L32 _ x3 0 (Nat.lt_succ_self _) ⟨by omega, hV20.2⟩
        exact L20 _ 1 0 (Nat.lt_succ_self _) ⟨by omega, Or.inl ⟨rfl, LSi.z⟩⟩
  exact L5 _ (-9) 0 (Nat.lt_succ_self _) ⟨by have q := Int.natCast_nonneg (2 ^ kn); omega, MWc.z⟩
