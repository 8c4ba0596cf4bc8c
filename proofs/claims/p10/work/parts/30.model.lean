set_option maxHeartbeats 4000000 in
set_option maxRecDepth 100000 in
theorem c_Model_in (G : kG)  {h : kH} {l0 : Int} {l2 : Int} {l4 : Int} (s0 : kR l0) (s2 : kR l2) (s4 : kR l4) : Ctr G y_Model_in X_Model_in 1 [kJ l0, kJ l2, kJ l4] h (kQi (fun z h' => h' = h ∧ ((z = 1 ∧ l2 ≤ l0 ∧ l0 ≤ l4) ∨ (z = 0 ∧ (l0 < l2 ∨ l4 < l0))))) := by
  refine Ctr.ofK (by decide) rfl T_Model_in (Nat.le_of_ble_eq_true rfl) (lo := [(0, kJ l0), (2, kJ l2), (4, kJ l4)]) rfl ?_
  refine K_lload_n (pc := 0) (i := 0) rfl rfl ?_
  refine K_lload_n (pc := 1) (i := 1) rfl rfl ?_
  refine K_lcmp (pc := 2) (i := 2) rfl ?_
  refine K_nm (fun v2 e2 => ?_)
  have r2 := kLcmp_R l0 l2
  rw [← e2] at r2
  have t2 := kLcmp_s (a := l0) (b := l2) (by omega) (by omega)
  rw [← e2] at t2
  first | refine K_if_lt 17 (pc := 3) (i := 3) rfl rfl (by omega) (fun b3 => ?_) (fun b3 => ?_) | refine K_if_lt_an 17 (pc := 3) (i := 3) rfl rfl (fun b3 => ?_) (fun b3 => ?_)
  · skip
    refine K_iconst (pc := 17) (i := 10) rfl ?_
    exact K_retZ (pc := 18) (i := 11) rfl rfl (by omega) ⟨rfl, by omega⟩
  · skip
    refine K_lload_n (pc := 6) (i := 4) rfl rfl ?_
    refine K_lload (pc := 7) (i := 5) rfl rfl ?_
    refine K_lcmp (pc := 9) (i := 6) rfl ?_
    refine K_nm (fun v9 e9 => ?_)
    have r9 := kLcmp_R l0 l4
    rw [← e9] at r9
    have t9 := kLcmp_s (a := l0) (b := l4) (by omega) (by omega)
    rw [← e9] at t9
    first | refine K_if_gt 17 (pc := 10) (i := 7) rfl rfl (by omega) (fun b10 => ?_) (fun b10 => ?_) | refine K_if_gt_an 17 (pc := 10) (i := 7) rfl rfl (fun b10 => ?_) (fun b10 => ?_)
    · skip
      refine K_iconst (pc := 17) (i := 10) rfl ?_
      exact K_retZ (pc := 18) (i := 11) rfl rfl (by omega) ⟨rfl, by omega⟩
    · skip
      refine K_iconst (pc := 13) (i := 8) rfl ?_
      refine K_goto 18 (pc := 14) (i := 9) rfl rfl ?_
      exact K_retZ (pc := 18) (i := 11) rfl rfl (by omega) ⟨rfl, by omega⟩
set_option maxHeartbeats 4000000 in
set_option maxRecDepth 100000 in
theorem c_Model_isKite (G : kG) {g : kGh} {h : kH} {x1 : Int} (s1 : kR x1) (hI : Gd g h) : Ctr G y_Model_isKite X_Model_isKite 2 [.ref (G.2.2.2 184), kI x1] h (kQi (fun z h' => h' = h ∧ ((z = 1 ∧ 0 ≤ x1 ∧ x1 < h 184 4 ∧ h 184 4 ≤ 8) ∨ (z = 0 ∧ ¬ (0 ≤ x1 ∧ x1 < h 184 4))))) := by
  refine Ctr.ofK (by decide) rfl T_Model_isKite (Nat.le_of_ble_eq_true rfl) (lo := [(0, .ref (G.2.2.2 184)), (1, kI x1)]) rfl ?_
  refine K_iload_n (pc := 0) (i := 0) rfl rfl ?_
  refine K_i2l (pc := 1) (i := 1) rfl ?_
  refine K_eqJ (kI2l_eq (a := x1) (by omega)) ?_
  refine K_lconst 0 (pc := 2) (i := 2) rfl rfl ?_
  refine K_aload_n (pc := 3) (i := 3) rfl rfl ?_
  refine K_getI (pc := 4) (i := 4) (j := 4) rfl S_184 rfl (by decide) rfl fw_Model_59 ?_
  refine K_nm (fun v4 e4 => ?_)
  have r4 := rd_many hI
  rw [← e4] at r4
  refine K_iconst (pc := 7) (i := 5) rfl ?_
  refine K_isub (pc := 8) (i := 6) rfl ?_
  refine K_i2l (pc := 9) (i := 7) rfl ?_
  refine K_eqJ (kI2l_eq (a := v4 - 1) (by omega)) ?_
  refine K_cSI (pc := 10) (i := 8) rfl (c_Model_in G (l0 := x1) (l2 := 0) (l4 := v4 - 1) (s0 := by omega) (s2 := by omega) (s4 := by omega)) (ls_Model_65 rfl) rfl rfl rfl rfl (fun v10 h10 q10 => ?_)
  obtain ⟨eh, r10⟩ := q10
  rw [eh]; clear eh
  exact K_retZ (pc := 13) (i := 9) rfl rfl (by omega) ⟨rfl, by omega⟩
theorem egR {a b : Int} (ha : 0 ≤ a ∧ a ≤ 9) (hb : 0 ≤ b ∧ b ≤ 4) : 0 ≤ a * b ∧ a * b ≤ 36 := by
  have h1 := mul_bd (A := 9) (B := 4) (a := a) (b := b) (by omega) (by omega)
  have h2 := Int.mul_nonneg ha.1 hb.1
  omega
set_option maxHeartbeats 4000000 in
set_option maxRecDepth 100000 in
theorem c_Model_edgeOf (G : kG) {g : kGh} {h : kH} {x1 : Int} {x2 : Int} (s1 : x1 = 0 ∨ x1 = 40) (s2 : 0 ≤ x2 ∧ x2 ≤ 7) (hI : Gd g h) : Ctr G y_Model_edgeOf X_Model_edgeOf 1 [.ref (G.2.2.2 184), kI x1, kI x2] h (kQi (fun z h' => h' = h ∧ (0 ≤ z ∧ z ≤ 36) ∧ z = egK (kap h x1.toNat) (h 188) x2.toNat)) := by
  refine Ctr.ofK (by decide) rfl T_Model_edgeOf (Nat.le_of_ble_eq_true rfl) (lo := [(0, .ref (G.2.2.2 184)), (1, kI x1), (2, kI x2)]) rfl ?_
  refine K_aload_n (pc := 0) (i := 0) rfl rfl ?_
  refine K_getR (pc := 1) (i := 1) (j := 5) (d := 188) rfl S_184 rfl (by decide) rfl fw_Model_19 ?_
  refine K_aload_n (pc := 4) (i := 2) rfl rfl ?_
  refine K_getR (pc := 5) (i := 3) (j := 3) (d := 187) rfl S_184 rfl (by decide) rfl fw_Model_16 ?_
  refine K_iload_n (pc := 8) (i := 4) rfl rfl ?_
  refine K_iconst (pc := 9) (i := 5) rfl ?_
  refine K_iload_n (pc := 10) (i := 6) rfl rfl ?_
  refine K_imul (pc := 11) (i := 7) rfl ?_
  refine K_iadd (pc := 12) (i := 8) rfl ?_
  refine K_iconst (pc := 13) (i := 9) rfl ?_
  refine K_iadd (pc := 14) (i := 10) rfl ?_
  refine K_iald (pc := 15) (i := 11) rfl S_187 (by omega) (by omega) (by decide) ?_
  refine K_nm (fun v15 e15 => ?_)
  have r15 := (rd_mkites hI ((x1 + (5 * x2)) + 3).toNat).2.1 (by omega)
  rw [← e15] at r15
  have w15 : kap h x1.toNat (5 * x2.toNat + 3) = v15 := by rw [e15]; unfold kap; congr 1; omega
  refine K_iald (pc := 16) (i := 12) rfl S_188 (by omega) (by omega) (by decide) ?_
  refine K_nm (fun v16 e16 => ?_)
  have r16 := rd_mwinds hI (v15).toNat
  rw [← e16] at r16
  refine K_ist_n (pc := 17) (i := 13) (lo' := [(0, _), (1, _), (2, _), (3, _)]) rfl rfl rfl rfl ?_
  refine K_aload_n (pc := 18) (i := 14) rfl rfl ?_
  refine K_getR (pc := 19) (i := 15) (j := 3) (d := 187) rfl S_184 rfl (by decide) rfl fw_Model_16 ?_
  refine K_iload_n (pc := 22) (i := 16) rfl rfl ?_
  refine K_iconst (pc := 23) (i := 17) rfl ?_
  refine K_iload_n (pc := 24) (i := 18) rfl rfl ?_
  refine K_imul (pc := 25) (i := 19) rfl ?_
  refine K_iadd (pc := 26) (i := 20) rfl ?_
  refine K_iconst (pc := 27) (i := 21) rfl ?_
  refine K_iadd (pc := 28) (i := 22) rfl ?_
  refine K_iald (pc := 29) (i := 23) rfl S_187 (by omega) (by omega) (by decide) ?_
  refine K_nm (fun v29 e29 => ?_)
  have r29 := (rd_mkites hI ((x1 + (5 * x2)) + 4).toNat).2.2 (by omega)
  rw [← e29] at r29
  have w29 : kap h x1.toNat (5 * x2.toNat + 4) = v29 := by rw [e29]; unfold kap; congr 1; omega
  refine K_iload_n (pc := 30) (i := 24) rfl rfl ?_
  first | refine K_if_ge 39 (pc := 31) (i := 25) rfl rfl (by omega) (fun b31 => ?_) (fun b31 => ?_) | refine K_if_ge_an 39 (pc := 31) (i := 25) rfl rfl (fun b31 => ?_) (fun b31 => ?_)
  · skip
    refine K_iload_n (pc := 39) (i := 29) rfl rfl ?_
    refine K_iconst (pc := 40) (i := 30) rfl ?_
    refine K_iadd (pc := 41) (i := 31) rfl ?_
    refine K_imul (pc := 42) (i := 32) rfl ?_
    refine K_nm (fun v42 e42 => ?_)
    have t42 : v42 = egK (kap h x1.toNat) (h 188) x2.toNat := by unfold egK; rw [w29, w15, ← e16, e42]; congr 1; unfold kAbs; split <;> omega
    have u42 : 0 ≤ v42 ∧ v42 ≤ 36 := by rw [e42]; first | exact egR (by omega) (by omega)
    exact K_retI (pc := 43) (i := 33) rfl rfl ⟨rfl, u42, t42⟩
  · skip
    refine K_iload_n (pc := 34) (i := 26) rfl rfl ?_
    refine K_ineg (pc := 35) (i := 27) rfl ?_
    refine K_goto 40 (pc := 36) (i := 28) rfl rfl ?_
    refine K_iconst (pc := 40) (i := 30) rfl ?_
    refine K_iadd (pc := 41) (i := 31) rfl ?_
    refine K_imul (pc := 42) (i := 32) rfl ?_
    refine K_nm (fun v42 e42 => ?_)
    have t42 : v42 = egK (kap h x1.toNat) (h 188) x2.toNat := by unfold egK; rw [w29, w15, ← e16, e42]; congr 1; unfold kAbs; split <;> omega
    have u42 : 0 ≤ v42 ∧ v42 ≤ 36 := by rw [e42]; first | exact egR (by omega) (by omega)
    exact K_retI (pc := 43) (i := 33) rfl rfl ⟨rfl, u42, t42⟩
set_option maxHeartbeats 4000000 in
set_option maxRecDepth 100000 in
theorem c_Model_drift (G : kG) {g : kGh} {h : kH} {x1 : Int} {x2 : Int} {x3 : Int} (s1 : x1 = 0 ∨ x1 = 40) {n : Int} (hn : n ≤ 8) (hk : FK (kap h x1.toNat) n) (s2 : 0 ≤ x2 ∧ x2 < n) (s3 : 0 ≤ x3 ∧ x3 < n) (hI : Gd g h) : Ctr G y_Model_drift X_Model_drift 1 [.ref (G.2.2.2 184), kI x1, kI x2, kI x3] h (kQi (fun z h' => h' = h ∧ z = drK (kap h x1.toNat) x2.toNat x3.toNat ∧ -720 ≤ z ∧ z ≤ 720)) := by
  refine Ctr.ofK (by decide) rfl T_Model_drift (Nat.le_of_ble_eq_true rfl) (lo := [(0, .ref (G.2.2.2 184)), (1, kI x1), (2, kI x2), (3, kI x3)]) rfl ?_
  refine K_iload_n (pc := 0) (i := 0) rfl rfl ?_
  refine K_iconst (pc := 1) (i := 1) rfl ?_
  refine K_iload_n (pc := 2) (i := 2) rfl rfl ?_
  refine K_imul (pc := 3) (i := 3) rfl ?_
  refine K_iadd (pc := 4) (i := 4) rfl ?_
  refine K_ist (pc := 5) (i := 5) (lo' := [(0, _), (1, _), (2, _), (3, _), (4, _)]) rfl rfl rfl rfl ?_
  refine K_iload_n (pc := 7) (i := 6) rfl rfl ?_
  refine K_iconst (pc := 8) (i := 7) rfl ?_
  refine K_iload_n (pc := 9) (i := 8) rfl rfl ?_
  refine K_imul (pc := 10) (i := 9) rfl ?_
  refine K_iadd (pc := 11) (i := 10) rfl ?_
  refine K_ist (pc := 12) (i := 11) (lo' := [(0, _), (1, _), (2, _), (3, _), (4, _), (5, _)]) rfl rfl rfl rfl ?_
  refine K_aload_n (pc := 14) (i := 12) rfl rfl ?_
  refine K_getR (pc := 15) (i := 13) (j := 3) (d := 187) rfl S_184 rfl (by decide) rfl fw_Model_16 ?_
  refine K_iload (pc := 18) (i := 14) rfl rfl ?_
  refine K_iconst (pc := 20) (i := 15) rfl ?_
  refine K_iadd (pc := 21) (i := 16) rfl ?_
  refine K_iald (pc := 22) (i := 17) rfl S_187 (by omega) (by omega) (by decide) ?_
  refine K_nm (fun v22 e22 => ?_)
  have w22 : kap h x1.toNat (5 * x2.toNat + 2) = v22 := by rw [e22]; unfold kap; congr 1; omega
  have u22 := (hk x2.toNat (by omega)).2.1
  rw [w22] at u22
  refine K_aload_n (pc := 23) (i := 18) rfl rfl ?_
  refine K_getR (pc := 24) (i := 19) (j := 3) (d := 187) rfl S_184 rfl (by decide) rfl fw_Model_16 ?_
  refine K_iload (pc := 27) (i := 20) rfl rfl ?_
  refine K_iconst (pc := 29) (i := 21) rfl ?_
  refine K_iadd (pc := 30) (i := 22) rfl ?_
  refine K_iald (pc := 31) (i := 23) rfl S_187 (by omega) (by omega) (by decide) ?_
  refine K_nm (fun v31 e31 => ?_)
  have w31 : kap h x1.toNat (5 * x2.toNat + 1) = v31 := by rw [e31]; unfold kap; congr 1; omega
  have u31 := (hk x2.toNat (by omega)).1
  rw [w31] at u31
  refine K_isub (pc := 32) (i := 24) rfl ?_
  refine K_aload_n (pc := 33) (i := 25) rfl rfl ?_
  refine K_getR (pc := 34) (i := 26) (j := 3) (d := 187) rfl S_184 rfl (by decide) rfl fw_Model_16 ?_
  refine K_iload (pc := 37) (i := 27) rfl rfl ?_
  refine K_iconst (pc := 39) (i := 28) rfl ?_
  refine K_iadd (pc := 40) (i := 29) rfl ?_
  refine K_iald (pc := 41) (i := 30) rfl S_187 (by omega) (by omega) (by decide) ?_
  refine K_nm (fun v41 e41 => ?_)
  have r41 := (rd_mkites hI ((x1 + (5 * x3)) + 3).toNat).2.1 (by omega)
  rw [← e41] at r41
  have w41 : kap h x1.toNat (5 * x3.toNat + 3) = v41 := by rw [e41]; unfold kap; congr 1; omega
  have u41 := (hk x3.toNat (by omega)).2.2.1
  rw [w41] at u41
  refine K_imul (pc := 42) (i := 31) rfl ?_
  refine K_nm (fun v42 e42 => ?_)
  have u42 := mul_bd (A := 40) (B := 9) (a := v22 - v31) (b := v41) (by omega) (by omega)
  rw [← e42] at u42
  refine K_aload_n (pc := 43) (i := 32) rfl rfl ?_
  refine K_getR (pc := 44) (i := 33) (j := 3) (d := 187) rfl S_184 rfl (by decide) rfl fw_Model_16 ?_
  refine K_iload (pc := 47) (i := 34) rfl rfl ?_
  refine K_iconst (pc := 49) (i := 35) rfl ?_
  refine K_iadd (pc := 50) (i := 36) rfl ?_
  refine K_iald (pc := 51) (i := 37) rfl S_187 (by omega) (by omega) (by decide) ?_
  refine K_nm (fun v51 e51 => ?_)
  have w51 : kap h x1.toNat (5 * x3.toNat + 2) = v51 := by rw [e51]; unfold kap; congr 1; omega
  have u51 := (hk x3.toNat (by omega)).2.1
  rw [w51] at u51
  refine K_aload_n (pc := 52) (i := 38) rfl rfl ?_
  refine K_getR (pc := 53) (i := 39) (j := 3) (d := 187) rfl S_184 rfl (by decide) rfl fw_Model_16 ?_
  refine K_iload (pc := 56) (i := 40) rfl rfl ?_
  refine K_iconst (pc := 58) (i := 41) rfl ?_
  refine K_iadd (pc := 59) (i := 42) rfl ?_
  refine K_iald (pc := 60) (i := 43) rfl S_187 (by omega) (by omega) (by decide) ?_
  refine K_nm (fun v60 e60 => ?_)
  have w60 : kap h x1.toNat (5 * x3.toNat + 1) = v60 := by rw [e60]; unfold kap; congr 1; omega
  have u60 := (hk x3.toNat (by omega)).1
  rw [w60] at u60
  refine K_isub (pc := 61) (i := 44) rfl ?_
  refine K_aload_n (pc := 62) (i := 45) rfl rfl ?_
  refine K_getR (pc := 63) (i := 46) (j := 3) (d := 187) rfl S_184 rfl (by decide) rfl fw_Model_16 ?_
  refine K_iload (pc := 66) (i := 47) rfl rfl ?_
  refine K_iconst (pc := 68) (i := 48) rfl ?_
  refine K_iadd (pc := 69) (i := 49) rfl ?_
  refine K_iald (pc := 70) (i := 50) rfl S_187 (by omega) (by omega) (by decide) ?_
  refine K_nm (fun v70 e70 => ?_)
  have r70 := (rd_mkites hI ((x1 + (5 * x2)) + 3).toNat).2.1 (by omega)
  rw [← e70] at r70
  have w70 : kap h x1.toNat (5 * x2.toNat + 3) = v70 := by rw [e70]; unfold kap; congr 1; omega
  have u70 := (hk x2.toNat (by omega)).2.2.1
  rw [w70] at u70
  refine K_imul (pc := 71) (i := 51) rfl ?_
  refine K_nm (fun v71 e71 => ?_)
  have u71 := mul_bd (A := 40) (B := 9) (a := v51 - v60) (b := v70) (by omega) (by omega)
  rw [← e71] at u71
  refine K_isub (pc := 72) (i := 52) rfl ?_
  exact K_retI (pc := 73) (i := 53) rfl rfl ⟨rfl, by unfold drK; rw [w22, w31, w41, w51, w60, w70, e42, e71], by omega⟩
set_option maxHeartbeats 4000000 in
set_option maxRecDepth 100000 in
theorem c_Model_doCross (G : kG) {g : kGh} {h : kH} {x1 : Int} {x2 : Int} {x3 : Int} (s1 : x1 = 0 ∨ x1 = 40) {n : Int} (hn : n ≤ 8) (hk : FK (kap h x1.toNat) n) (s2 : 0 ≤ x2 ∧ x2 < n) (s3 : 0 ≤ x3 ∧ x3 < n) (hI : Gd g h) : Ctr G y_Model_doCross X_Model_doCross 2 [.ref (G.2.2.2 184), kI x1, kI x2, kI x3] h (kQi (fun z h' => h' = h ∧ ((z = 1 ∧ crK (kap h x1.toNat) x2.toNat x3.toNat) ∨ (z = 0 ∧ ¬ crK (kap h x1.toNat) x2.toNat x3.toNat)))) := by
  refine Ctr.ofK (by decide) rfl T_Model_doCross (Nat.le_of_ble_eq_true rfl) (lo := [(0, .ref (G.2.2.2 184)), (1, kI x1), (2, kI x2), (3, kI x3)]) rfl ?_
  refine K_iload_n (pc := 0) (i := 0) rfl rfl ?_
  refine K_iconst (pc := 1) (i := 1) rfl ?_
  refine K_iload_n (pc := 2) (i := 2) rfl rfl ?_
  refine K_imul (pc := 3) (i := 3) rfl ?_
  refine K_iadd (pc := 4) (i := 4) rfl ?_
  refine K_ist (pc := 5) (i := 5) (lo' := [(0, _), (1, _), (2, _), (3, _), (4, _)]) rfl rfl rfl rfl ?_
  refine K_iload_n (pc := 7) (i := 6) rfl rfl ?_
  refine K_iconst (pc := 8) (i := 7) rfl ?_
  refine K_iload_n (pc := 9) (i := 8) rfl rfl ?_
  refine K_imul (pc := 10) (i := 9) rfl ?_
  refine K_iadd (pc := 11) (i := 10) rfl ?_
  refine K_ist (pc := 12) (i := 11) (lo' := [(0, _), (1, _), (2, _), (3, _), (4, _), (5, _)]) rfl rfl rfl rfl ?_
  refine K_aload_n (pc := 14) (i := 12) rfl rfl ?_
  refine K_getR (pc := 15) (i := 13) (j := 3) (d := 187) rfl S_184 rfl (by decide) rfl fw_Model_16 ?_
  refine K_iload (pc := 18) (i := 14) rfl rfl ?_
  refine K_iconst (pc := 20) (i := 15) rfl ?_
  refine K_iadd (pc := 21) (i := 16) rfl ?_
  refine K_iald (pc := 22) (i := 17) rfl S_187 (by omega) (by omega) (by decide) ?_
  refine K_nm (fun v22 e22 => ?_)
  have w22 : kap h x1.toNat (5 * x2.toNat + 1) = v22 := by rw [e22]; unfold kap; congr 1; omega
  have u22 := (hk x2.toNat (by omega)).1
  rw [w22] at u22
  refine K_aload_n (pc := 23) (i := 18) rfl rfl ?_
  refine K_getR (pc := 24) (i := 19) (j := 3) (d := 187) rfl S_184 rfl (by decide) rfl fw_Model_16 ?_
  refine K_iload (pc := 27) (i := 20) rfl rfl ?_
  refine K_iconst (pc := 29) (i := 21) rfl ?_
  refine K_iadd (pc := 30) (i := 22) rfl ?_
  refine K_iald (pc := 31) (i := 23) rfl S_187 (by omega) (by omega) (by decide) ?_
  refine K_nm (fun v31 e31 => ?_)
  have w31 : kap h x1.toNat (5 * x3.toNat + 1) = v31 := by rw [e31]; unfold kap; congr 1; omega
  have u31 := (hk x3.toNat (by omega)).1
  rw [w31] at u31
  refine K_isub (pc := 32) (i := 24) rfl ?_
  refine K_ist (pc := 33) (i := 25) (lo' := [(0, _), (1, _), (2, _), (3, _), (4, _), (5, _), (6, _)]) rfl rfl rfl rfl ?_
  refine K_aload_n (pc := 35) (i := 26) rfl rfl ?_
  refine K_getR (pc := 36) (i := 27) (j := 3) (d := 187) rfl S_184 rfl (by decide) rfl fw_Model_16 ?_
  refine K_iload (pc := 39) (i := 28) rfl rfl ?_
  refine K_iconst (pc := 41) (i := 29) rfl ?_
  refine K_iadd (pc := 42) (i := 30) rfl ?_
  refine K_iald (pc := 43) (i := 31) rfl S_187 (by omega) (by omega) (by decide) ?_
  refine K_nm (fun v43 e43 => ?_)
  have r43 := (rd_mkites hI ((x1 + (5 * x2)) + 3).toNat).2.1 (by omega)
  rw [← e43] at r43
  have w43 : kap h x1.toNat (5 * x2.toNat + 3) = v43 := by rw [e43]; unfold kap; congr 1; omega
  have u43 := (hk x2.toNat (by omega)).2.2.1
  rw [w43] at u43
  refine K_aload_n (pc := 44) (i := 32) rfl rfl ?_
  refine K_getR (pc := 45) (i := 33) (j := 3) (d := 187) rfl S_184 rfl (by decide) rfl fw_Model_16 ?_
  refine K_iload (pc := 48) (i := 34) rfl rfl ?_
  refine K_iconst (pc := 50) (i := 35) rfl ?_
  refine K_iadd (pc := 51) (i := 36) rfl ?_
  refine K_iald (pc := 52) (i := 37) rfl S_187 (by omega) (by omega) (by decide) ?_
  refine K_nm (fun v52 e52 => ?_)
  have r52 := (rd_mkites hI ((x1 + (5 * x3)) + 3).toNat).2.1 (by omega)
  rw [← e52] at r52
  have w52 : kap h x1.toNat (5 * x3.toNat + 3) = v52 := by rw [e52]; unfold kap; congr 1; omega
  have u52 := (hk x3.toNat (by omega)).2.2.1
  rw [w52] at u52
  first | refine K_icmp_ge 68 (pc := 53) (i := 38) rfl rfl (by omega) (by omega) (fun b53 => ?_) (fun b53 => ?_) | refine K_icmp_ge_an 68 (pc := 53) (i := 38) rfl rfl (fun b53 => ?_) (fun b53 => ?_)
  · skip
    refine K_aload_n (pc := 68) (i := 46) rfl rfl ?_
    refine K_getR (pc := 69) (i := 47) (j := 3) (d := 187) rfl S_184 rfl (by decide) rfl fw_Model_16 ?_
    refine K_iload (pc := 72) (i := 48) rfl rfl ?_
    refine K_iconst (pc := 74) (i := 49) rfl ?_
    refine K_iadd (pc := 75) (i := 50) rfl ?_
    refine K_iald (pc := 76) (i := 51) rfl S_187 (by omega) (by omega) (by decide) ?_
    refine K_nm (fun v76 e76 => ?_)
    have r76 := (rd_mkites hI ((x1 + (5 * x3)) + 3).toNat).2.1 (by omega)
    rw [← e76] at r76
    have w76 : kap h x1.toNat (5 * x3.toNat + 3) = v76 := by rw [e76]; unfold kap; congr 1; omega
    have u76 := (hk x3.toNat (by omega)).2.2.1
    rw [w76] at u76
    refine K_ist (pc := 77) (i := 52) (lo' := [(0, _), (1, _), (2, _), (3, _), (4, _), (5, _), (6, _), (7, _)]) rfl rfl rfl rfl ?_
    refine K_iload (pc := 79) (i := 53) rfl rfl ?_
    refine K_aload_n (pc := 81) (i := 54) rfl rfl ?_
    refine K_getR (pc := 82) (i := 55) (j := 3) (d := 187) rfl S_184 rfl (by decide) rfl fw_Model_16 ?_
    refine K_iload (pc := 85) (i := 56) rfl rfl ?_
    refine K_iconst (pc := 87) (i := 57) rfl ?_
    refine K_iadd (pc := 88) (i := 58) rfl ?_
    refine K_iald (pc := 89) (i := 59) rfl S_187 (by omega) (by omega) (by decide) ?_
    refine K_nm (fun v89 e89 => ?_)
    have r89 := (rd_mkites hI ((x1 + (5 * x2)) + 3).toNat).2.1 (by omega)
    rw [← e89] at r89
    have w89 : kap h x1.toNat (5 * x2.toNat + 3) = v89 := by rw [e89]; unfold kap; congr 1; omega
    have u89 := (hk x2.toNat (by omega)).2.2.1
    rw [w89] at u89
    refine K_imul (pc := 90) (i := 60) rfl ?_
    refine K_nm (fun v90 e90 => ?_)
    have u90 := mul_bd (A := 40) (B := 9) (a := v22 - v31) (b := v89) (by omega) (by omega)
    rw [← e90] at u90
    refine K_aload_n (pc := 91) (i := 61) rfl rfl ?_
    refine K_getR (pc := 92) (i := 62) (j := 3) (d := 187) rfl S_184 rfl (by decide) rfl fw_Model_16 ?_
    refine K_iload (pc := 95) (i := 63) rfl rfl ?_
    refine K_iconst (pc := 97) (i := 64) rfl ?_
    refine K_iadd (pc := 98) (i := 65) rfl ?_
    refine K_iald (pc := 99) (i := 66) rfl S_187 (by omega) (by omega) (by decide) ?_
    refine K_nm (fun v99 e99 => ?_)
    have r99 := (rd_mkites hI ((x1 + (5 * x3)) + 3).toNat).2.1 (by omega)
    rw [← e99] at r99
    have w99 : kap h x1.toNat (5 * x3.toNat + 3) = v99 := by rw [e99]; unfold kap; congr 1; omega
    have u99 := (hk x3.toNat (by omega)).2.2.1
    rw [w99] at u99
    refine K_imul (pc := 100) (i := 67) rfl ?_
    refine K_nm (fun v100 e100 => ?_)
    have u100 := mul_bd (A := 360) (B := 9) (a := v90) (b := v99) (by omega) (by omega)
    rw [← e100] at u100
    refine K_aload_n (pc := 101) (i := 68) rfl rfl ?_
    refine K_iload_n (pc := 102) (i := 69) rfl rfl ?_
    refine K_iload_n (pc := 103) (i := 70) rfl rfl ?_
    refine K_iload_n (pc := 104) (i := 71) rfl rfl ?_
    refine K_cVI (pc := 105) (i := 72) rfl (c_Model_drift G (x1 := x1) (x2 := x2) (x3 := x3) (hk := hk) (hI := hI) (hn := by omega) (s1 := by omega) (s2 := by omega) (s3 := by omega)) S_184 rfl (lv_Model_133 rfl) rfl rfl rfl rfl rfl (fun v105 h105 q105 => ?_)
    obtain ⟨eh, r105⟩ := q105
    rw [eh]; clear eh
    refine K_iload (pc := 108) (i := 73) rfl rfl ?_
    refine K_imul (pc := 110) (i := 74) rfl ?_
    refine K_nm (fun v110 e110 => ?_)
    have u110 := mul_bd (A := 720) (B := 9) (a := v105) (b := v76) (by omega) (by omega)
    rw [← e110] at u110
    refine K_iadd (pc := 111) (i := 75) rfl ?_
    have t111 : v100 + v110 = thM (kap h x1.toNat (5 * x2.toNat + 1)) (kap h x1.toNat (5 * x2.toNat + 2)) (kap h x1.toNat (5 * x2.toNat + 3)) (kap h x1.toNat (5 * x3.toNat + 1)) (kap h x1.toNat (5 * x3.toNat + 2)) (kap h x1.toNat (5 * x3.toNat + 3)) := by unfold thM; rw [e110, e100, e90, r105.1]; unfold drK; rw [w22, w31, w43, w52, show v89 = v43 from w89.symm.trans w43, show v99 = v52 from w99.symm.trans w52]; first | rw [show v64 = v43 from w64.symm.trans w43, if_pos (by omega)] | rw [show v76 = v52 from w76.symm.trans w52, if_neg (by omega)]
    refine K_ist (pc := 112) (i := 76) (lo' := [(0, _), (1, _), (2, _), (3, _), (4, _), (5, _), (6, _), (7, _), (8, _)]) rfl rfl rfl rfl ?_
    refine K_iload (pc := 114) (i := 77) rfl rfl ?_
    first | refine K_if_le 132 (pc := 116) (i := 78) rfl rfl (by omega) (fun b116 => ?_) (fun b116 => ?_) | refine K_if_le_an 132 (pc := 116) (i := 78) rfl rfl (fun b116 => ?_) (fun b116 => ?_)
    · skip
      refine K_iload (pc := 132) (i := 85) rfl rfl ?_
      first | refine K_if_lt 141 (pc := 134) (i := 86) rfl rfl (by omega) (fun b134 => ?_) (fun b134 => ?_) | refine K_if_lt_an 141 (pc := 134) (i := 86) rfl rfl (fun b134 => ?_) (fun b134 => ?_)
      · skip
        refine K_iconst (pc := 141) (i := 89) rfl ?_
        exact K_retZ (pc := 142) (i := 90) rfl rfl (by omega) (by first | exact ⟨rfl, Or.inl ⟨rfl, (cr_pos (by rw [w22, w31]; omega)).2 (by rw [← t111]; omega)⟩⟩ | exact ⟨rfl, Or.inr ⟨rfl, fun q => absurd ((cr_pos (by rw [w22, w31]; omega)).1 q) (by rw [← t111]; omega)⟩⟩ | exact ⟨rfl, Or.inl ⟨rfl, (cr_neg (by rw [w22, w31]; omega)).2 (by rw [← t111]; omega)⟩⟩ | exact ⟨rfl, Or.inr ⟨rfl, fun q => absurd ((cr_neg (by rw [w22, w31]; omega)).1 q) (by rw [← t111]; omega)⟩⟩)
      · skip
        refine K_iconst (pc := 137) (i := 87) rfl ?_
        refine K_goto 142 (pc := 138) (i := 88) rfl rfl ?_
        exact K_retZ (pc := 142) (i := 90) rfl rfl (by omega) (by first | exact ⟨rfl, Or.inl ⟨rfl, (cr_pos (by rw [w22, w31]; omega)).2 (by rw [← t111]; omega)⟩⟩ | exact ⟨rfl, Or.inr ⟨rfl, fun q => absurd ((cr_pos (by rw [w22, w31]; omega)).1 q) (by rw [← t111]; omega)⟩⟩ | exact ⟨rfl, Or.inl ⟨rfl, (cr_neg (by rw [w22, w31]; omega)).2 (by rw [← t111]; omega)⟩⟩ | exact ⟨rfl, Or.inr ⟨rfl, fun q => absurd ((cr_neg (by rw [w22, w31]; omega)).1 q) (by rw [← t111]; omega)⟩⟩)
    · skip
      refine K_iload (pc := 119) (i := 79) rfl rfl ?_
      first | refine K_if_gt 128 (pc := 121) (i := 80) rfl rfl (by omega) (fun b121 => ?_) (fun b121 => ?_) | refine K_if_gt_an 128 (pc := 121) (i := 80) rfl rfl (fun b121 => ?_) (fun b121 => ?_)
      · skip
        refine K_iconst (pc := 128) (i := 83) rfl ?_
        refine K_goto 142 (pc := 129) (i := 84) rfl rfl ?_
        exact K_retZ (pc := 142) (i := 90) rfl rfl (by omega) (by first | exact ⟨rfl, Or.inl ⟨rfl, (cr_pos (by rw [w22, w31]; omega)).2 (by rw [← t111]; omega)⟩⟩ | exact ⟨rfl, Or.inr ⟨rfl, fun q => absurd ((cr_pos (by rw [w22, w31]; omega)).1 q) (by rw [← t111]; omega)⟩⟩ | exact ⟨rfl, Or.inl ⟨rfl, (cr_neg (by rw [w22, w31]; omega)).2 (by rw [← t111]; omega)⟩⟩ | exact ⟨rfl, Or.inr ⟨rfl, fun q => absurd ((cr_neg (by rw [w22, w31]; omega)).1 q) (by rw [← t111]; omega)⟩⟩)
      · skip
        refine K_iconst (pc := 124) (i := 81) rfl ?_
        refine K_goto 142 (pc := 125) (i := 82) rfl rfl ?_
        exact K_retZ (pc := 142) (i := 90) rfl rfl (by omega) (by first | exact ⟨rfl, Or.inl ⟨rfl, (cr_pos (by rw [w22, w31]; omega)).2 (by rw [← t111]; omega)⟩⟩ | exact ⟨rfl, Or.inr ⟨rfl, fun q => absurd ((cr_pos (by rw [w22, w31]; omega)).1 q) (by rw [← t111]; omega)⟩⟩ | exact ⟨rfl, Or.inl ⟨rfl, (cr_neg (by rw [w22, w31]; omega)).2 (by rw [← t111]; omega)⟩⟩ | exact ⟨rfl, Or.inr ⟨rfl, fun q => absurd ((cr_neg (by rw [w22, w31]; omega)).1 q) (by rw [← t111]; omega)⟩⟩)
  · skip
    refine K_aload_n (pc := 56) (i := 39) rfl rfl ?_
    refine K_getR (pc := 57) (i := 40) (j := 3) (d := 187) rfl S_184 rfl (by decide) rfl fw_Model_16 ?_
    refine K_iload (pc := 60) (i := 41) rfl rfl ?_
    refine K_iconst (pc := 62) (i := 42) rfl ?_
    refine K_iadd (pc := 63) (i := 43) rfl ?_
    refine K_iald (pc := 64) (i := 44) rfl S_187 (by omega) (by omega) (by decide) ?_
    refine K_nm (fun v64 e64 => ?_)
    have r64 := (rd_mkites hI ((x1 + (5 * x2)) + 3).toNat).2.1 (by omega)
    rw [← e64] at r64
    have w64 : kap h x1.toNat (5 * x2.toNat + 3) = v64 := by rw [e64]; unfold kap; congr 1; omega
    have u64 := (hk x2.toNat (by omega)).2.2.1
    rw [w64] at u64
    refine K_goto 77 (pc := 65) (i := 45) rfl rfl ?_
    refine K_ist (pc := 77) (i := 52) (lo' := [(0, _), (1, _), (2, _), (3, _), (4, _), (5, _), (6, _), (7, _)]) rfl rfl rfl rfl ?_
    refine K_iload (pc := 79) (i := 53) rfl rfl ?_
    refine K_aload_n (pc := 81) (i := 54) rfl rfl ?_
    refine K_getR (pc := 82) (i := 55) (j := 3) (d := 187) rfl S_184 rfl (by decide) rfl fw_Model_16 ?_
    refine K_iload (pc := 85) (i := 56) rfl rfl ?_
    refine K_iconst (pc := 87) (i := 57) rfl ?_
    refine K_iadd (pc := 88) (i := 58) rfl ?_
    refine K_iald (pc := 89) (i := 59) rfl S_187 (by omega) (by omega) (by decide) ?_
    refine K_nm (fun v89 e89 => ?_)
    have r89 := (rd_mkites hI ((x1 + (5 * x2)) + 3).toNat).2.1 (by omega)
    rw [← e89] at r89
    have w89 : kap h x1.toNat (5 * x2.toNat + 3) = v89 := by rw [e89]; unfold kap; congr 1; omega
    have u89 := (hk x2.toNat (by omega)).2.2.1
    rw [w89] at u89
    refine K_imul (pc := 90) (i := 60) rfl ?_
    refine K_nm (fun v90 e90 => ?_)
    have u90 := mul_bd (A := 40) (B := 9) (a := v22 - v31) (b := v89) (by omega) (by omega)
    rw [← e90] at u90
    refine K_aload_n (pc := 91) (i := 61) rfl rfl ?_
    refine K_getR (pc := 92) (i := 62) (j := 3) (d := 187) rfl S_184 rfl (by decide) rfl fw_Model_16 ?_
    refine K_iload (pc := 95) (i := 63) rfl rfl ?_
    refine K_iconst (pc := 97) (i := 64) rfl ?_
    refine K_iadd (pc := 98) (i := 65) rfl ?_
    refine K_iald (pc := 99) (i := 66) rfl S_187 (by omega) (by omega) (by decide) ?_
    refine K_nm (fun v99 e99 => ?_)
    have r99 := (rd_mkites hI ((x1 + (5 * x3)) + 3).toNat).2.1 (by omega)
    rw [← e99] at r99
    have w99 : kap h x1.toNat (5 * x3.toNat + 3) = v99 := by rw [e99]; unfold kap; congr 1; omega
    have u99 := (hk x3.toNat (by omega)).2.2.1
    rw [w99] at u99
    refine K_imul (pc := 100) (i := 67) rfl ?_
    refine K_nm (fun v100 e100 => ?_)
    have u100 := mul_bd (A := 360) (B := 9) (a := v90) (b := v99) (by omega) (by omega)
    rw [← e100] at u100
    refine K_aload_n (pc := 101) (i := 68) rfl rfl ?_
    refine K_iload_n (pc := 102) (i := 69) rfl rfl ?_
    refine K_iload_n (pc := 103) (i := 70) rfl rfl ?_
    refine K_iload_n (pc := 104) (i := 71) rfl rfl ?_
    refine K_cVI (pc := 105) (i := 72) rfl (c_Model_drift G (x1 := x1) (x2 := x2) (x3 := x3) (hk := hk) (hI := hI) (hn := by omega) (s1 := by omega) (s2 := by omega) (s3 := by omega)) S_184 rfl (lv_Model_133 rfl) rfl rfl rfl rfl rfl (fun v105 h105 q105 => ?_)
    obtain ⟨eh, r105⟩ := q105
    rw [eh]; clear eh
    refine K_iload (pc := 108) (i := 73) rfl rfl ?_
    refine K_imul (pc := 110) (i := 74) rfl ?_
    refine K_nm (fun v110 e110 => ?_)
    have u110 := mul_bd (A := 720) (B := 9) (a := v105) (b := v64) (by omega) (by omega)
    rw [← e110] at u110
    refine K_iadd (pc := 111) (i := 75) rfl ?_
    have t111 : v100 + v110 = thM (kap h x1.toNat (5 * x2.toNat + 1)) (kap h x1.toNat (5 * x2.toNat + 2)) (kap h x1.toNat (5 * x2.toNat + 3)) (kap h x1.toNat (5 * x3.toNat + 1)) (kap h x1.toNat (5 * x3.toNat + 2)) (kap h x1.toNat (5 * x3.toNat + 3)) := by unfold thM; rw [e110, e100, e90, r105.1]; unfold drK; rw [w22, w31, w43, w52, show v89 = v43 from w89.symm.trans w43, show v99 = v52 from w99.symm.trans w52]; first | rw [show v64 = v43 from w64.symm.trans w43, if_pos (by omega)] | rw [show v76 = v52 from w76.symm.trans w52, if_neg (by omega)]
    refine K_ist (pc := 112) (i := 76) (lo' := [(0, _), (1, _), (2, _), (3, _), (4, _), (5, _), (6, _), (7, _), (8, _)]) rfl rfl rfl rfl ?_
    refine K_iload (pc := 114) (i := 77) rfl rfl ?_
    first | refine K_if_le 132 (pc := 116) (i := 78) rfl rfl (by omega) (fun b116 => ?_) (fun b116 => ?_) | refine K_if_le_an 132 (pc := 116) (i := 78) rfl rfl (fun b116 => ?_) (fun b116 => ?_)
    · skip
      refine K_iload (pc := 132) (i := 85) rfl rfl ?_
      first | refine K_if_lt 141 (pc := 134) (i := 86) rfl rfl (by omega) (fun b134 => ?_) (fun b134 => ?_) | refine K_if_lt_an 141 (pc := 134) (i := 86) rfl rfl (fun b134 => ?_) (fun b134 => ?_)
      · skip
        refine K_iconst (pc := 141) (i := 89) rfl ?_
        exact K_retZ (pc := 142) (i := 90) rfl rfl (by omega) (by first | exact ⟨rfl, Or.inl ⟨rfl, (cr_pos (by rw [w22, w31]; omega)).2 (by rw [← t111]; omega)⟩⟩ | exact ⟨rfl, Or.inr ⟨rfl, fun q => absurd ((cr_pos (by rw [w22, w31]; omega)).1 q) (by rw [← t111]; omega)⟩⟩ | exact ⟨rfl, Or.inl ⟨rfl, (cr_neg (by rw [w22, w31]; omega)).2 (by rw [← t111]; omega)⟩⟩ | exact ⟨rfl, Or.inr ⟨rfl, fun q => absurd ((cr_neg (by rw [w22, w31]; omega)).1 q) (by rw [← t111]; omega)⟩⟩)
      · skip
        refine K_iconst (pc := 137) (i := 87) rfl ?_
        refine K_goto 142 (pc := 138) (i := 88) rfl rfl ?_
        exact K_retZ (pc := 142) (i := 90) rfl rfl (by omega) (by first | exact ⟨rfl, Or.inl ⟨rfl, (cr_pos (by rw [w22, w31]; omega)).2 (by rw [← t111]; omega)⟩⟩ | exact ⟨rfl, Or.inr ⟨rfl, fun q => absurd ((cr_pos (by rw [w22, w31]; omega)).1 q) (by rw [← t111]; omega)⟩⟩ | exact ⟨rfl, Or.inl ⟨rfl, (cr_neg (by rw [w22, w31]; omega)).2 (by rw [← t111]; omega)⟩⟩ | exact ⟨rfl, Or.inr ⟨rfl, fun q => absurd ((cr_neg (by rw [w22, w31]; omega)).1 q) (by rw [← t111]; omega)⟩⟩)
    · skip
      refine K_iload (pc := 119) (i := 79) rfl rfl ?_
      first | refine K_if_gt 128 (pc := 121) (i := 80) rfl rfl (by omega) (fun b121 => ?_) (fun b121 => ?_) | refine K_if_gt_an 128 (pc := 121) (i := 80) rfl rfl (fun b121 => ?_) (fun b121 => ?_)
      · skip
        refine K_iconst (pc := 128) (i := 83) rfl ?_
        refine K_goto 142 (pc := 129) (i := 84) rfl rfl ?_
        exact K_retZ (pc := 142) (i := 90) rfl rfl (by omega) (by first | exact ⟨rfl, Or.inl ⟨rfl, (cr_pos (by rw [w22, w31]; omega)).2 (by rw [← t111]; omega)⟩⟩ | exact ⟨rfl, Or.inr ⟨rfl, fun q => absurd ((cr_pos (by rw [w22, w31]; omega)).1 q) (by rw [← t111]; omega)⟩⟩ | exact ⟨rfl, Or.inl ⟨rfl, (cr_neg (by rw [w22, w31]; omega)).2 (by rw [← t111]; omega)⟩⟩ | exact ⟨rfl, Or.inr ⟨rfl, fun q => absurd ((cr_neg (by rw [w22, w31]; omega)).1 q) (by rw [← t111]; omega)⟩⟩)
      · skip
        refine K_iconst (pc := 124) (i := 81) rfl ?_
        refine K_goto 142 (pc := 125) (i := 82) rfl rfl ?_
        exact K_retZ (pc := 142) (i := 90) rfl rfl (by omega) (by first | exact ⟨rfl, Or.inl ⟨rfl, (cr_pos (by rw [w22, w31]; omega)).2 (by rw [← t111]; omega)⟩⟩ | exact ⟨rfl, Or.inr ⟨rfl, fun q => absurd ((cr_pos (by rw [w22, w31]; omega)).1 q) (by rw [← t111]; omega)⟩⟩ | exact ⟨rfl, Or.inl ⟨rfl, (cr_neg (by rw [w22, w31]; omega)).2 (by rw [← t111]; omega)⟩⟩ | exact ⟨rfl, Or.inr ⟨rfl, fun q => absurd ((cr_neg (by rw [w22, w31]; omega)).1 q) (by rw [← t111]; omega)⟩⟩)
