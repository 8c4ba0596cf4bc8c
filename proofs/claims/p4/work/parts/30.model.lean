/-- nothing but the reference's kites and what was gained has changed -/
def FM (h h' : kH) : Prop := ∀ c, c ≠ 187 → c ≠ 192 → h' c = h c
theorem FM.tr {h h1 h2 : kH} (a : FM h h1) (b : FM h1 h2) : FM h h2 := fun c q r => (b c q r).trans (a c q r)
theorem FM.st {h h1 : kH} {c i : Nat} {v : Int} (a : FM h h1) (hc : c = 187 ∨ c = 192) : FM h (kU h1 c i v) := fun d q r => (kU_c h1 c i v (by omega)).trans (a d q r)
set_option maxHeartbeats 4000000 in
set_option maxRecDepth 100000 in
theorem c_Model_in (G : kG)  {h : kH} {l0 : Int} {l2 : Int} {l4 : Int} (s0 : kR l0) (s2 : kR l2) (s4 : kR l4) : Ctr G y_Model_in X_Model_in 1 [kJ l0, kJ l2, kJ l4] h (kQi (fun z h' => h' = h ∧ ((z = 1 ∧ l2 ≤ l0 ∧ l0 ≤ l4) ∨ (z = 0 ∧ (l0 < l2 ∨ l4 < l0))))) := by
  refine Ctr.ofK (by decide) rfl T_Model_in (Nat.le_of_ble_eq_true rfl) (lo := [(0, kJ l0), (2, kJ l2), (4, kJ l4)]) rfl ?_
  refine K_lload_n (pc := 0) (i := 0) rfl rfl ?_
  refine K_lload_n (pc := 1) (i := 1) rfl rfl ?_
  refine K_lcmp (pc := 2) (i := 2) rfl ?_
  refine K_nm (fun v2 e2 => ?_)
  have r2 := kLcmp_R l0 l2
  rw [← e2] at r2
  have t2 := kLcmp_s (a := l0) (b := l2) (by omega) (by omega)
  rw [← e2] at t2
  first | refine K_if_lt 17 (pc := 3) (i := 3) rfl rfl (by omega) (fun b3 => ?_) (fun b3 => ?_) | refine K_if_lt_an 17 (pc := 3) (i := 3) rfl rfl (fun b3 => ?_) (fun b3 => ?_)
  · skip
    refine K_iconst (pc := 17) (i := 10) rfl ?_
    exact K_retZ (pc := 18) (i := 11) rfl rfl (by omega) ⟨rfl, by omega⟩
  · skip
    refine K_lload_n (pc := 6) (i := 4) rfl rfl ?_
    refine K_lload (pc := 7) (i := 5) rfl rfl ?_
    refine K_lcmp (pc := 9) (i := 6) rfl ?_
    refine K_nm (fun v9 e9 => ?_)
    have r9 := kLcmp_R l0 l4
    rw [← e9] at r9
    have t9 := kLcmp_s (a := l0) (b := l4) (by omega) (by omega)
    rw [← e9] at t9
    first | refine K_if_gt 17 (pc := 10) (i := 7) rfl rfl (by omega) (fun b10 => ?_) (fun b10 => ?_) | refine K_if_gt_an 17 (pc := 10) (i := 7) rfl rfl (fun b10 => ?_) (fun b10 => ?_)
    · skip
      refine K_iconst (pc := 17) (i := 10) rfl ?_
      exact K_retZ (pc := 18) (i := 11) rfl rfl (by omega) ⟨rfl, by omega⟩
    · skip
      refine K_iconst (pc := 13) (i := 8) rfl ?_
      refine K_goto 18 (pc := 14) (i := 9) rfl rfl ?_
      exact K_retZ (pc := 18) (i := 11) rfl rfl (by omega) ⟨rfl, by omega⟩
set_option maxHeartbeats 4000000 in
set_option maxRecDepth 100000 in
theorem c_Model_isKite (G : kG) {g : kGh} {h : kH} {x1 : Int} (s1 : kR x1) (hI : Gd g h) : Ctr G y_Model_isKite X_Model_isKite 2 [.ref (G.2.2.2 184), kI x1] h (kQi (fun z h' => h' = h ∧ ((z = 1 ∧ 0 ≤ x1 ∧ x1 < h 184 4 ∧ h 184 4 ≤ 8) ∨ z = 0))) := by
  refine Ctr.ofK (by decide) rfl T_Model_isKite (Nat.le_of_ble_eq_true rfl) (lo := [(0, .ref (G.2.2.2 184)), (1, kI x1)]) rfl ?_
  refine K_iload_n (pc := 0) (i := 0) rfl rfl ?_
  refine K_i2l (pc := 1) (i := 1) rfl ?_
  refine K_eqJ (kI2l_eq (a := x1) (by omega)) ?_
  refine K_lconst 0 (pc := 2) (i := 2) rfl rfl ?_
  refine K_aload_n (pc := 3) (i := 3) rfl rfl ?_
  refine K_getI (pc := 4) (i := 4) (j := 4) rfl S_184 rfl (by decide) rfl fw_Model_59 ?_
  refine K_nm (fun v4 e4 => ?_)
  have r4 := rd_many hI
  rw [← e4] at r4
  refine K_iconst (pc := 7) (i := 5) rfl ?_
  refine K_isub (pc := 8) (i := 6) rfl ?_
  refine K_i2l (pc := 9) (i := 7) rfl ?_
  refine K_eqJ (kI2l_eq (a := v4 - 1) (by omega)) ?_
  refine K_cSI (pc := 10) (i := 8) rfl (c_Model_in G (l0 := x1) (l2 := 0) (l4 := v4 - 1) (s0 := by omega) (s2 := by omega) (s4 := by omega)) (ls_Model_65 rfl) rfl rfl rfl rfl (fun v10 h10 q10 => ?_)
  obtain ⟨eh, r10⟩ := q10
  rw [eh]; clear eh
  exact K_retZ (pc := 13) (i := 9) rfl rfl (by omega) ⟨rfl, by omega⟩
set_option maxHeartbeats 4000000 in
set_option maxRecDepth 100000 in
theorem c_Model_edgeOf (G : kG) {g : kGh} {h : kH} {x1 : Int} {x2 : Int} (s1 : x1 = 0 ∨ x1 = 40) (s2 : 0 ≤ x2 ∧ x2 ≤ 7) (hI : Gd g h) : Ctr G y_Model_edgeOf X_Model_edgeOf 1 [.ref (G.2.2.2 184), kI x1, kI x2] h (kQi (fun z h' => h' = h ∧ kR z)) := by
  refine Ctr.ofK (by decide) rfl T_Model_edgeOf (Nat.le_of_ble_eq_true rfl) (lo := [(0, .ref (G.2.2.2 184)), (1, kI x1), (2, kI x2)]) rfl ?_
  refine K_aload_n (pc := 0) (i := 0) rfl rfl ?_
  refine K_getR (pc := 1) (i := 1) (j := 5) (d := 188) rfl S_184 rfl (by decide) rfl fw_Model_19 ?_
  refine K_aload_n (pc := 4) (i := 2) rfl rfl ?_
  refine K_getR (pc := 5) (i := 3) (j := 3) (d := 187) rfl S_184 rfl (by decide) rfl fw_Model_16 ?_
  refine K_iload_n (pc := 8) (i := 4) rfl rfl ?_
  refine K_iconst (pc := 9) (i := 5) rfl ?_
  refine K_iload_n (pc := 10) (i := 6) rfl rfl ?_
  refine K_imul (pc := 11) (i := 7) rfl ?_
  refine K_iadd (pc := 12) (i := 8) rfl ?_
  refine K_iconst (pc := 13) (i := 9) rfl ?_
  refine K_iadd (pc := 14) (i := 10) rfl ?_
  refine K_iald (pc := 15) (i := 11) rfl S_187 (by omega) (by omega) (by decide) ?_
  refine K_nm (fun v15 e15 => ?_)
  have r15 := (rd_mkites hI ((x1 + (5 * x2)) + 3).toNat).2 (by omega)
  rw [← e15] at r15
  refine K_iald (pc := 16) (i := 12) rfl S_188 (by omega) (by omega) (by decide) ?_
  refine K_any (fun v16 r16 => ?_)
  refine K_ist_n (pc := 17) (i := 13) (lo' := [(0, _), (1, _), (2, _), (3, _)]) rfl rfl rfl rfl ?_
  refine K_aload_n (pc := 18) (i := 14) rfl rfl ?_
  refine K_getR (pc := 19) (i := 15) (j := 3) (d := 187) rfl S_184 rfl (by decide) rfl fw_Model_16 ?_
  refine K_iload_n (pc := 22) (i := 16) rfl rfl ?_
  refine K_iconst (pc := 23) (i := 17) rfl ?_
  refine K_iload_n (pc := 24) (i := 18) rfl rfl ?_
  refine K_imul (pc := 25) (i := 19) rfl ?_
  refine K_iadd (pc := 26) (i := 20) rfl ?_
  refine K_iconst (pc := 27) (i := 21) rfl ?_
  refine K_iadd (pc := 28) (i := 22) rfl ?_
  refine K_iald (pc := 29) (i := 23) rfl S_187 (by omega) (by omega) (by decide) ?_
  refine K_any (fun v29 r29 => ?_)
  refine K_iload_n (pc := 30) (i := 24) rfl rfl ?_
  first | refine K_if_ge 39 (pc := 31) (i := 25) rfl rfl (by omega) (fun b31 => ?_) (fun b31 => ?_) | refine K_if_ge_an 39 (pc := 31) (i := 25) rfl rfl (fun b31 => ?_) (fun b31 => ?_)
  · skip
    refine K_iload_n (pc := 39) (i := 29) rfl rfl ?_
    refine K_iconst (pc := 40) (i := 30) rfl ?_
    refine K_iadd (pc := 41) (i := 31) rfl ?_
    refine K_imul (pc := 42) (i := 32) rfl ?_
    refine K_any (fun v42 r42 => ?_)
    refine K_any (fun v43 r43 => ?_)
    exact K_retI (pc := 43) (i := 33) rfl rfl ⟨rfl, by omega⟩
  · skip
    refine K_iload_n (pc := 34) (i := 26) rfl rfl ?_
    refine K_ineg (pc := 35) (i := 27) rfl ?_
    refine K_goto 40 (pc := 36) (i := 28) rfl rfl ?_
    refine K_iconst (pc := 40) (i := 30) rfl ?_
    refine K_iadd (pc := 41) (i := 31) rfl ?_
    refine K_imul (pc := 42) (i := 32) rfl ?_
    refine K_any (fun v42 r42 => ?_)
    refine K_any (fun v43 r43 => ?_)
    exact K_retI (pc := 43) (i := 33) rfl rfl ⟨rfl, by omega⟩
set_option maxHeartbeats 4000000 in
set_option maxRecDepth 100000 in
theorem c_Model_drift (G : kG) {g : kGh} {h : kH} {x1 : Int} {x2 : Int} {x3 : Int} (s1 : x1 = 0 ∨ x1 = 40) (s2 : 0 ≤ x2 ∧ x2 ≤ 7) (s3 : 0 ≤ x3 ∧ x3 ≤ 7) (hI : Gd g h) : Ctr G y_Model_drift X_Model_drift 1 [.ref (G.2.2.2 184), kI x1, kI x2, kI x3] h (kQi (fun z h' => h' = h ∧ kR z)) := by
  refine Ctr.ofK (by decide) rfl T_Model_drift (Nat.le_of_ble_eq_true rfl) (lo := [(0, .ref (G.2.2.2 184)), (1, kI x1), (2, kI x2), (3, kI x3)]) rfl ?_
  refine K_iload_n (pc := 0) (i := 0) rfl rfl ?_
  refine K_iconst (pc := 1) (i := 1) rfl ?_
  refine K_iload_n (pc := 2) (i := 2) rfl rfl ?_
  refine K_imul (pc := 3) (i := 3) rfl ?_
  refine K_iadd (pc := 4) (i := 4) rfl ?_
  refine K_ist (pc := 5) (i := 5) (lo' := [(0, _), (1, _), (2, _), (3, _), (4, _)]) rfl rfl rfl rfl ?_
  refine K_iload_n (pc := 7) (i := 6) rfl rfl ?_
  refine K_iconst (pc := 8) (i := 7) rfl ?_
  refine K_iload_n (pc := 9) (i := 8) rfl rfl ?_
  refine K_imul (pc := 10) (i := 9) rfl ?_
  refine K_iadd (pc := 11) (i := 10) rfl ?_
  refine K_ist (pc := 12) (i := 11) (lo' := [(0, _), (1, _), (2, _), (3, _), (4, _), (5, _)]) rfl rfl rfl rfl ?_
  refine K_aload_n (pc := 14) (i := 12) rfl rfl ?_
  refine K_getR (pc := 15) (i := 13) (j := 3) (d := 187) rfl S_184 rfl (by decide) rfl fw_Model_16 ?_
  refine K_iload (pc := 18) (i := 14) rfl rfl ?_
  refine K_iconst (pc := 20) (i := 15) rfl ?_
  refine K_iadd (pc := 21) (i := 16) rfl ?_
  refine K_iald (pc := 22) (i := 17) rfl S_187 (by omega) (by omega) (by decide) ?_
  refine K_any (fun v22 r22 => ?_)
  refine K_aload_n (pc := 23) (i := 18) rfl rfl ?_
  refine K_getR (pc := 24) (i := 19) (j := 3) (d := 187) rfl S_184 rfl (by decide) rfl fw_Model_16 ?_
  refine K_iload (pc := 27) (i := 20) rfl rfl ?_
  refine K_iconst (pc := 29) (i := 21) rfl ?_
  refine K_iadd (pc := 30) (i := 22) rfl ?_
  refine K_iald (pc := 31) (i := 23) rfl S_187 (by omega) (by omega) (by decide) ?_
  refine K_any (fun v31 r31 => ?_)
  refine K_isub (pc := 32) (i := 24) rfl ?_
  refine K_aload_n (pc := 33) (i := 25) rfl rfl ?_
  refine K_getR (pc := 34) (i := 26) (j := 3) (d := 187) rfl S_184 rfl (by decide) rfl fw_Model_16 ?_
  refine K_iload (pc := 37) (i := 27) rfl rfl ?_
  refine K_iconst (pc := 39) (i := 28) rfl ?_
  refine K_iadd (pc := 40) (i := 29) rfl ?_
  refine K_iald (pc := 41) (i := 30) rfl S_187 (by omega) (by omega) (by decide) ?_
  refine K_nm (fun v41 e41 => ?_)
  have r41 := (rd_mkites hI ((x1 + (5 * x3)) + 3).toNat).2 (by omega)
  rw [← e41] at r41
  refine K_imul (pc := 42) (i := 31) rfl ?_
  refine K_any (fun v42 r42 => ?_)
  refine K_aload_n (pc := 43) (i := 32) rfl rfl ?_
  refine K_getR (pc := 44) (i := 33) (j := 3) (d := 187) rfl S_184 rfl (by decide) rfl fw_Model_16 ?_
  refine K_iload (pc := 47) (i := 34) rfl rfl ?_
  refine K_iconst (pc := 49) (i := 35) rfl ?_
  refine K_iadd (pc := 50) (i := 36) rfl ?_
  refine K_iald (pc := 51) (i := 37) rfl S_187 (by omega) (by omega) (by decide) ?_
  refine K_any (fun v51 r51 => ?_)
  refine K_aload_n (pc := 52) (i := 38) rfl rfl ?_
  refine K_getR (pc := 53) (i := 39) (j := 3) (d := 187) rfl S_184 rfl (by decide) rfl fw_Model_16 ?_
  refine K_iload (pc := 56) (i := 40) rfl rfl ?_
  refine K_iconst (pc := 58) (i := 41) rfl ?_
  refine K_iadd (pc := 59) (i := 42) rfl ?_
  refine K_iald (pc := 60) (i := 43) rfl S_187 (by omega) (by omega) (by decide) ?_
  refine K_any (fun v60 r60 => ?_)
  refine K_isub (pc := 61) (i := 44) rfl ?_
  refine K_aload_n (pc := 62) (i := 45) rfl rfl ?_
  refine K_getR (pc := 63) (i := 46) (j := 3) (d := 187) rfl S_184 rfl (by decide) rfl fw_Model_16 ?_
  refine K_iload (pc := 66) (i := 47) rfl rfl ?_
  refine K_iconst (pc := 68) (i := 48) rfl ?_
  refine K_iadd (pc := 69) (i := 49) rfl ?_
  refine K_iald (pc := 70) (i := 50) rfl S_187 (by omega) (by omega) (by decide) ?_
  refine K_nm (fun v70 e70 => ?_)
  have r70 := (rd_mkites hI ((x1 + (5 * x2)) + 3).toNat).2 (by omega)
  rw [← e70] at r70
  refine K_imul (pc := 71) (i := 51) rfl ?_
  refine K_any (fun v71 r71 => ?_)
  refine K_isub (pc := 72) (i := 52) rfl ?_
  refine K_any (fun v73 r73 => ?_)
  exact K_retI (pc := 73) (i := 53) rfl rfl ⟨rfl, by omega⟩
set_option maxHeartbeats 4000000 in
set_option maxRecDepth 100000 in
theorem c_Model_doCross (G : kG) {g : kGh} {h : kH} {x1 : Int} {x2 : Int} {x3 : Int} (s1 : x1 = 0 ∨ x1 = 40) (s2 : 0 ≤ x2 ∧ x2 ≤ 7) (s3 : 0 ≤ x3 ∧ x3 ≤ 7) (hI : Gd g h) : Ctr G y_Model_doCross X_Model_doCross 2 [.ref (G.2.2.2 184), kI x1, kI x2, kI x3] h (kQi (fun z h' => h' = h ∧ (z = 0 ∨ z = 1))) := by
  refine Ctr.ofK (by decide) rfl T_Model_doCross (Nat.le_of_ble_eq_true rfl) (lo := [(0, .ref (G.2.2.2 184)), (1, kI x1), (2, kI x2), (3, kI x3)]) rfl ?_
  refine K_iload_n (pc := 0) (i := 0) rfl rfl ?_
  refine K_iconst (pc := 1) (i := 1) rfl ?_
  refine K_iload_n (pc := 2) (i := 2) rfl rfl ?_
  refine K_imul (pc := 3) (i := 3) rfl ?_
  refine K_iadd (pc := 4) (i := 4) rfl ?_
  refine K_ist (pc := 5) (i := 5) (lo' := [(0, _), (1, _), (2, _), (3, _), (4, _)]) rfl rfl rfl rfl ?_
  refine K_iload_n (pc := 7) (i := 6) rfl rfl ?_
  refine K_iconst (pc := 8) (i := 7) rfl ?_
  refine K_iload_n (pc := 9) (i := 8) rfl rfl ?_
  refine K_imul (pc := 10) (i := 9) rfl ?_
  refine K_iadd (pc := 11) (i := 10) rfl ?_
  refine K_ist (pc := 12) (i := 11) (lo' := [(0, _), (1, _), (2, _), (3, _), (4, _), (5, _)]) rfl rfl rfl rfl ?_
  refine K_aload_n (pc := 14) (i := 12) rfl rfl ?_
  refine K_getR (pc := 15) (i := 13) (j := 3) (d := 187) rfl S_184 rfl (by decide) rfl fw_Model_16 ?_
  refine K_iload (pc := 18) (i := 14) rfl rfl ?_
  refine K_iconst (pc := 20) (i := 15) rfl ?_
  refine K_iadd (pc := 21) (i := 16) rfl ?_
  refine K_iald (pc := 22) (i := 17) rfl S_187 (by omega) (by omega) (by decide) ?_
  refine K_any (fun v22 r22 => ?_)
  refine K_aload_n (pc := 23) (i := 18) rfl rfl ?_
  refine K_getR (pc := 24) (i := 19) (j := 3) (d := 187) rfl S_184 rfl (by decide) rfl fw_Model_16 ?_
  refine K_iload (pc := 27) (i := 20) rfl rfl ?_
  refine K_iconst (pc := 29) (i := 21) rfl ?_
  refine K_iadd (pc := 30) (i := 22) rfl ?_
  refine K_iald (pc := 31) (i := 23) rfl S_187 (by omega) (by omega) (by decide) ?_
  refine K_any (fun v31 r31 => ?_)
  refine K_isub (pc := 32) (i := 24) rfl ?_
  refine K_ist (pc := 33) (i := 25) (lo' := [(0, _), (1, _), (2, _), (3, _), (4, _), (5, _), (6, _)]) rfl rfl rfl rfl ?_
  refine K_aload_n (pc := 35) (i := 26) rfl rfl ?_
  refine K_getR (pc := 36) (i := 27) (j := 3) (d := 187) rfl S_184 rfl (by decide) rfl fw_Model_16 ?_
  refine K_iload (pc := 39) (i := 28) rfl rfl ?_
  refine K_iconst (pc := 41) (i := 29) rfl ?_
  refine K_iadd (pc := 42) (i := 30) rfl ?_
  refine K_iald (pc := 43) (i := 31) rfl S_187 (by omega) (by omega) (by decide) ?_
  refine K_nm (fun v43 e43 => ?_)
  have r43 := (rd_mkites hI ((x1 + (5 * x2)) + 3).toNat).2 (by omega)
  rw [← e43] at r43
  refine K_aload_n (pc := 44) (i := 32) rfl rfl ?_
  refine K_getR (pc := 45) (i := 33) (j := 3) (d := 187) rfl S_184 rfl (by decide) rfl fw_Model_16 ?_
  refine K_iload (pc := 48) (i := 34) rfl rfl ?_
  refine K_iconst (pc := 50) (i := 35) rfl ?_
  refine K_iadd (pc := 51) (i := 36) rfl ?_
  refine K_iald (pc := 52) (i := 37) rfl S_187 (by omega) (by omega) (by decide) ?_
  refine K_nm (fun v52 e52 => ?_)
  have r52 := (rd_mkites hI ((x1 + (5 * x3)) + 3).toNat).2 (by omega)
  rw [← e52] at r52
  first | refine K_icmp_ge 68 (pc := 53) (i := 38) rfl rfl (by omega) (by omega) (fun b53 => ?_) (fun b53 => ?_) | refine K_icmp_ge_an 68 (pc := 53) (i := 38) rfl rfl (fun b53 => ?_) (fun b53 => ?_)
  · skip
    refine K_aload_n (pc := 68) (i := 46) rfl rfl ?_
    refine K_getR (pc := 69) (i := 47) (j := 3) (d := 187) rfl S_184 rfl (by decide) rfl fw_Model_16 ?_
    refine K_iload (pc := 72) (i := 48) rfl rfl ?_
    refine K_iconst (pc := 74) (i := 49) rfl ?_
    refine K_iadd (pc := 75) (i := 50) rfl ?_
    refine K_iald (pc := 76) (i := 51) rfl S_187 (by omega) (by omega) (by decide) ?_
    refine K_nm (fun v76 e76 => ?_)
    have r76 := (rd_mkites hI ((x1 + (5 * x3)) + 3).toNat).2 (by omega)
    rw [← e76] at r76
    refine K_ist (pc := 77) (i := 52) (lo' := [(0, _), (1, _), (2, _), (3, _), (4, _), (5, _), (6, _), (7, _)]) rfl rfl rfl rfl ?_
    refine K_iload (pc := 79) (i := 53) rfl rfl ?_
    refine K_aload_n (pc := 81) (i := 54) rfl rfl ?_
    refine K_getR (pc := 82) (i := 55) (j := 3) (d := 187) rfl S_184 rfl (by decide) rfl fw_Model_16 ?_
    refine K_iload (pc := 85) (i := 56) rfl rfl ?_
    refine K_iconst (pc := 87) (i := 57) rfl ?_
    refine K_iadd (pc := 88) (i := 58) rfl ?_
    refine K_iald (pc := 89) (i := 59) rfl S_187 (by omega) (by omega) (by decide) ?_
    refine K_nm (fun v89 e89 => ?_)
    have r89 := (rd_mkites hI ((x1 + (5 * x2)) + 3).toNat).2 (by omega)
    rw [← e89] at r89
    refine K_imul (pc := 90) (i := 60) rfl ?_
    refine K_any (fun v90 r90 => ?_)
    refine K_aload_n (pc := 91) (i := 61) rfl rfl ?_
    refine K_getR (pc := 92) (i := 62) (j := 3) (d := 187) rfl S_184 rfl (by decide) rfl fw_Model_16 ?_
    refine K_iload (pc := 95) (i := 63) rfl rfl ?_
    refine K_iconst (pc := 97) (i := 64) rfl ?_
    refine K_iadd (pc := 98) (i := 65) rfl ?_
    refine K_iald (pc := 99) (i := 66) rfl S_187 (by omega) (by omega) (by decide) ?_
    refine K_nm (fun v99 e99 => ?_)
    have r99 := (rd_mkites hI ((x1 + (5 * x3)) + 3).toNat).2 (by omega)
    rw [← e99] at r99
    refine K_imul (pc := 100) (i := 67) rfl ?_
    refine K_any (fun v100 r100 => ?_)
    refine K_aload_n (pc := 101) (i := 68) rfl rfl ?_
    refine K_iload_n (pc := 102) (i := 69) rfl rfl ?_
    refine K_iload_n (pc := 103) (i := 70) rfl rfl ?_
    refine K_iload_n (pc := 104) (i := 71) rfl rfl ?_
    refine K_cVI (pc := 105) (i := 72) rfl (c_Model_drift G (x1 := x1) (x2 := x2) (x3 := x3) (hI := hI) (s1 := by omega) (s2 := by omega) (s3 := by omega)) S_184 rfl (lv_Model_133 rfl) rfl rfl rfl rfl rfl (fun v105 h105 q105 => ?_)
    obtain ⟨eh, r105⟩ := q105
    rw [eh]; clear eh
    refine K_iload (pc := 108) (i := 73) rfl rfl ?_
    refine K_imul (pc := 110) (i := 74) rfl ?_
    refine K_any (fun v110 r110 => ?_)
    refine K_iadd (pc := 111) (i := 75) rfl ?_
    refine K_ist (pc := 112) (i := 76) (lo' := [(0, _), (1, _), (2, _), (3, _), (4, _), (5, _), (6, _), (7, _), (8, _)]) rfl rfl rfl rfl ?_
    refine K_iload (pc := 114) (i := 77) rfl rfl ?_
    first | refine K_if_le 132 (pc := 116) (i := 78) rfl rfl (by omega) (fun b116 => ?_) (fun b116 => ?_) | refine K_if_le_an 132 (pc := 116) (i := 78) rfl rfl (fun b116 => ?_) (fun b116 => ?_)
    · skip
      refine K_iload (pc := 132) (i := 85) rfl rfl ?_
      first | refine K_if_lt 141 (pc := 134) (i := 86) rfl rfl (by omega) (fun b134 => ?_) (fun b134 => ?_) | refine K_if_lt_an 141 (pc := 134) (i := 86) rfl rfl (fun b134 => ?_) (fun b134 => ?_)
      · skip
        refine K_iconst (pc := 141) (i := 89) rfl ?_
        exact K_retZ (pc := 142) (i := 90) rfl rfl (by omega) ⟨rfl, by omega⟩
      · skip
        refine K_iconst (pc := 137) (i := 87) rfl ?_
        refine K_goto 142 (pc := 138) (i := 88) rfl rfl ?_
        exact K_retZ (pc := 142) (i := 90) rfl rfl (by omega) ⟨rfl, by omega⟩
    · skip
      refine K_iload (pc := 119) (i := 79) rfl rfl ?_
      first | refine K_if_gt 128 (pc := 121) (i := 80) rfl rfl (by omega) (fun b121 => ?_) (fun b121 => ?_) | refine K_if_gt_an 128 (pc := 121) (i := 80) rfl rfl (fun b121 => ?_) (fun b121 => ?_)
      · skip
        refine K_iconst (pc := 128) (i := 83) rfl ?_
        refine K_goto 142 (pc := 129) (i := 84) rfl rfl ?_
        exact K_retZ (pc := 142) (i := 90) rfl rfl (by omega) ⟨rfl, by omega⟩
      · skip
        refine K_iconst (pc := 124) (i := 81) rfl ?_
        refine K_goto 142 (pc := 125) (i := 82) rfl rfl ?_
        exact K_retZ (pc := 142) (i := 90) rfl rfl (by omega) ⟨rfl, by omega⟩
  · skip
    refine K_aload_n (pc := 56) (i := 39) rfl rfl ?_
    refine K_getR (pc := 57) (i := 40) (j := 3) (d := 187) rfl S_184 rfl (by decide) rfl fw_Model_16 ?_
    refine K_iload (pc := 60) (i := 41) rfl rfl ?_
    refine K_iconst (pc := 62) (i := 42) rfl ?_
    refine K_iadd (pc := 63) (i := 43) rfl ?_
    refine K_iald (pc := 64) (i := 44) rfl S_187 (by omega) (by omega) (by decide) ?_
    refine K_nm (fun v64 e64 => ?_)
    have r64 := (rd_mkites hI ((x1 + (5 * x2)) + 3).toNat).2 (by omega)
    rw [← e64] at r64
    refine K_goto 77 (pc := 65) (i := 45) rfl rfl ?_
    refine K_ist (pc := 77) (i := 52) (lo' := [(0, _), (1, _), (2, _), (3, _), (4, _), (5, _), (6, _), (7, _)]) rfl rfl rfl rfl ?_
    refine K_iload (pc := 79) (i := 53) rfl rfl ?_
    refine K_aload_n (pc := 81) (i := 54) rfl rfl ?_
    refine K_getR (pc := 82) (i := 55) (j := 3) (d := 187) rfl S_184 rfl (by decide) rfl fw_Model_16 ?_
    refine K_iload (pc := 85) (i := 56) rfl rfl ?_
    refine K_iconst (pc := 87) (i := 57) rfl ?_
    refine K_iadd (pc := 88) (i := 58) rfl ?_
    refine K_iald (pc := 89) (i := 59) rfl S_187 (by omega) (by omega) (by decide) ?_
    refine K_nm (fun v89 e89 => ?_)
    have r89 := (rd_mkites hI ((x1 + (5 * x2)) + 3).toNat).2 (by omega)
    rw [← e89] at r89
    refine K_imul (pc := 90) (i := 60) rfl ?_
    refine K_any (fun v90 r90 => ?_)
    refine K_aload_n (pc := 91) (i := 61) rfl rfl ?_
    refine K_getR (pc := 92) (i := 62) (j := 3) (d := 187) rfl S_184 rfl (by decide) rfl fw_Model_16 ?_
    refine K_iload (pc := 95) (i := 63) rfl rfl ?_
    refine K_iconst (pc := 97) (i := 64) rfl ?_
    refine K_iadd (pc := 98) (i := 65) rfl ?_
    refine K_iald (pc := 99) (i := 66) rfl S_187 (by omega) (by omega) (by decide) ?_
    refine K_nm (fun v99 e99 => ?_)
    have r99 := (rd_mkites hI ((x1 + (5 * x3)) + 3).toNat).2 (by omega)
    rw [← e99] at r99
    refine K_imul (pc := 100) (i := 67) rfl ?_
    refine K_any (fun v100 r100 => ?_)
    refine K_aload_n (pc := 101) (i := 68) rfl rfl ?_
    refine K_iload_n (pc := 102) (i := 69) rfl rfl ?_
    refine K_iload_n (pc := 103) (i := 70) rfl rfl ?_
    refine K_iload_n (pc := 104) (i := 71) rfl rfl ?_
    refine K_cVI (pc := 105) (i := 72) rfl (c_Model_drift G (x1 := x1) (x2 := x2) (x3 := x3) (hI := hI) (s1 := by omega) (s2 := by omega) (s3 := by omega)) S_184 rfl (lv_Model_133 rfl) rfl rfl rfl rfl rfl (fun v105 h105 q105 => ?_)
    obtain ⟨eh, r105⟩ := q105
    rw [eh]; clear eh
    refine K_iload (pc := 108) (i := 73) rfl rfl ?_
    refine K_imul (pc := 110) (i := 74) rfl ?_
    refine K_any (fun v110 r110 => ?_)
    refine K_iadd (pc := 111) (i := 75) rfl ?_
    refine K_ist (pc := 112) (i := 76) (lo' := [(0, _), (1, _), (2, _), (3, _), (4, _), (5, _), (6, _), (7, _), (8, _)]) rfl rfl rfl rfl ?_
    refine K_iload (pc := 114) (i := 77) rfl rfl ?_
    first | refine K_if_le 132 (pc := 116) (i := 78) rfl rfl (by omega) (fun b116 => ?_) (fun b116 => ?_) | refine K_if_le_an 132 (pc := 116) (i := 78) rfl rfl (fun b116 => ?_) (fun b116 => ?_)
    · skip
      refine K_iload (pc := 132) (i := 85) rfl rfl ?_
      first | refine K_if_lt 141 (pc := 134) (i := 86) rfl rfl (by omega) (fun b134 => ?_) (fun b134 => ?_) | refine K_if_lt_an 141 (pc := 134) (i := 86) rfl rfl (fun b134 => ?_) (fun b134 => ?_)
      · skip
        refine K_iconst (pc := 141) (i := 89) rfl ?_
        exact K_retZ (pc := 142) (i := 90) rfl rfl (by omega) ⟨rfl, by omega⟩
      · skip
        refine K_iconst (pc := 137) (i := 87) rfl ?_
        refine K_goto 142 (pc := 138) (i := 88) rfl rfl ?_
        exact K_retZ (pc := 142) (i := 90) rfl rfl (by omega) ⟨rfl, by omega⟩
    · skip
      refine K_iload (pc := 119) (i := 79) rfl rfl ?_
      first | refine K_if_gt 128 (pc := 121) (i := 80) rfl rfl (by omega) (fun b121 => ?_) (fun b121 => ?_) | refine K_if_gt_an 128 (pc := 121) (i := 80) rfl rfl (fun b121 => ?_) (fun b121 => ?_)
      · skip
        refine K_iconst (pc := 128) (i := 83) rfl ?_
        refine K_goto 142 (pc := 129) (i := 84) rfl rfl ?_
        exact K_retZ (pc := 142) (i := 90) rfl rfl (by omega) ⟨rfl, by omega⟩
      · skip
        refine K_iconst (pc := 124) (i := 81) rfl ?_
        refine K_goto 142 (pc := 125) (i := 82) rfl rfl ?_
        exact K_retZ (pc := 142) (i := 90) rfl rfl (by omega) ⟨rfl, by omega⟩
set_option maxHeartbeats 4000000 in
set_option maxRecDepth 100000 in
theorem c_Model_blow40 (G : kG) {g : kGh} {h : kH} {x1 : Int} {x2 : Int} (s1 : x1 = 40) (s2 : 0 ≤ x2 ∧ x2 ≤ 8) (hI : Gd g h) : Ctr G y_Model_blow X_Model_blow 3 [.ref (G.2.2.2 184), kI x1, kI x2] h (kQi (fun z h' => Fx (fun c i => (c = 187 ∧ 40 ≤ i)) h h' ∧ (Gd g h' ∧ FM h h' ∧ kR z))) := by
  refine Ctr.ofK (by decide) rfl T_Model_blow (Nat.le_of_ble_eq_true rfl) (lo := [(0, .ref (G.2.2.2 184)), (1, kI x1), (2, kI x2)]) rfl ?_
  have fM : FM h h := fun _ _ _ => rfl
  have fx : Fx (fun c i => (c = 187 ∧ 40 ≤ i)) h h := Fx.rf
  refine K_iconst (pc := 0) (i := 0) rfl ?_
  refine K_ist_n (pc := 1) (i := 1) (lo' := [(0, _), (1, _), (2, _), (3, _)]) rfl rfl rfl rfl ?_
  have L2 : ∀ (n : Nat) (x3 : Int) (ha : kH), (8 - x3).toNat < n → (Gd g ha) → (FM h ha) → (Fx (fun c i => (c = 187 ∧ 40 ≤ i)) h ha) → (0 ≤ x3 ∧ x3 ≤ 8) → K X_Model_blow G (kZm G 3 (kQi (fun z h' => Fx (fun c i => (c = 187 ∧ 40 ≤ i)) h h' ∧ (Gd g h' ∧ FM h h' ∧ kR z)))) 2 [(0, .ref (G.2.2.2 184)), (1, kI x1), (2, kI x2), (3, kI x3)] [] ha := by
    intro n
    induction n with
    | zero => intro x3 ha hm; exact absurd hm (Nat.not_lt_zero _)
    | succ n ih2 =>
      intro x3 ha hm2 hI fM fx hV2
      refine K_iload_n (pc := 2) (i := 2) rfl rfl ?_
      refine K_iload_n (pc := 3) (i := 3) rfl rfl ?_
      first | refine K_icmp_ge 80 (pc := 4) (i := 4) rfl rfl (by omega) (by omega) (fun b4 => ?_) (fun b4 => ?_) | refine K_icmp_ge_an 80 (pc := 4) (i := 4) rfl rfl (fun b4 => ?_) (fun b4 => ?_)
      · skip
        refine K_iconst (pc := 80) (i := 52) rfl ?_
        refine K_ist_n (pc := 81) (i := 53) (lo' := [(0, _), (1, _), (2, _), (3, _)]) rfl rfl rfl rfl ?_
        refine K_iconst (pc := 82) (i := 54) rfl ?_
        refine K_ist (pc := 83) (i := 55) (lo' := [(0, _), (1, _), (2, _), (3, _), (4, _)]) rfl rfl rfl rfl ?_
        have L85 : ∀ (n : Nat) (x3 : Int) (x4 : Int), (8 - x4).toNat < n → ((0 ≤ x4 ∧ x4 ≤ 8) ∧ kR x3) → K X_Model_blow G (kZm G 3 (kQi (fun z h' => Fx (fun c i => (c = 187 ∧ 40 ≤ i)) h h' ∧ (Gd g h' ∧ FM h h' ∧ kR z)))) 85 [(0, .ref (G.2.2.2 184)), (1, kI x1), (2, kI x2), (3, kI x3), (4, kI x4)] [] ha := by
          intro n
          induction n with
          | zero => intro x3 x4 hm; exact absurd hm (Nat.not_lt_zero _)
          | succ n ih85 =>
            intro x3 x4 hm85 hV85
            refine K_iload (pc := 85) (i := 56) rfl rfl ?_
            refine K_iload_n (pc := 87) (i := 57) rfl rfl ?_
            first | refine K_icmp_ge 189 (pc := 88) (i := 58) rfl rfl (by omega) (by omega) (fun b88 => ?_) (fun b88 => ?_) | refine K_icmp_ge_an 189 (pc := 88) (i := 58) rfl rfl (fun b88 => ?_) (fun b88 => ?_)
            · skip
              refine K_iload_n (pc := 189) (i := 114) rfl rfl ?_
              exact K_retI (pc := 190) (i := 115) rfl rfl ⟨fx, ⟨hI, fM, by omega⟩⟩
            · skip
              refine K_iconst (pc := 91) (i := 59) rfl ?_
              refine K_ist (pc := 92) (i := 60) (lo' := [(0, _), (1, _), (2, _), (3, _), (4, _), (5, _)]) rfl rfl rfl rfl ?_
              have L94 : ∀ (n : Nat) (x3 : Int) (x5 : Int), (8 - x5).toNat < n → ((0 ≤ x5 ∧ x5 ≤ 8) ∧ kR x3) → K X_Model_blow G (kZm G 3 (kQi (fun z h' => Fx (fun c i => (c = 187 ∧ 40 ≤ i)) h h' ∧ (Gd g h' ∧ FM h h' ∧ kR z)))) 94 [(0, .ref (G.2.2.2 184)), (1, kI x1), (2, kI x2), (3, kI x3), (4, kI x4), (5, kI x5)] [] ha := by
                intro n
                induction n with
                | zero => intro x3 x5 hm; exact absurd hm (Nat.not_lt_zero _)
                | succ n ih94 =>
                  intro x3 x5 hm94 hV94
                  refine K_iload (pc := 94) (i := 61) rfl rfl ?_
                  refine K_iload_n (pc := 96) (i := 62) rfl rfl ?_
                  first | refine K_icmp_ge 183 (pc := 97) (i := 63) rfl rfl (by omega) (by omega) (fun b97 => ?_) (fun b97 => ?_) | refine K_icmp_ge_an 183 (pc := 97) (i := 63) rfl rfl (fun b97 => ?_) (fun b97 => ?_)
                  · skip
                    refine K_inc (pc := 183) (i := 112) (q := 4) (lo' := [(0, _), (1, _), (2, _), (3, _), (4, _), (5, _)]) rfl rfl rfl rfl rfl ?_
                    refine K_goto 85 (pc := 186) (i := 113) rfl rfl ?_
                    refine K_drop (lo' := [(0, .ref (G.2.2.2 184)), (1, kI x1), (2, kI x2), (3, kI x3), (4, kI (x4 + 1))]) [0, 1, 2, 3, 4] rfl ?_
                    exact ih85 x3 (x4 + 1) (by omega) (by omega)
                  · skip
                    refine K_aload_n (pc := 100) (i := 64) rfl rfl ?_
                    refine K_getR (pc := 101) (i := 65) (j := 3) (d := 187) rfl S_184 rfl (by decide) rfl fw_Model_16 ?_
                    refine K_iload_n (pc := 104) (i := 66) rfl rfl ?_
                    refine K_iconst (pc := 105) (i := 67) rfl ?_
                    refine K_iload (pc := 106) (i := 68) rfl rfl ?_
                    refine K_imul (pc := 108) (i := 69) rfl ?_
                    refine K_iadd (pc := 109) (i := 70) rfl ?_
                    refine K_iald (pc := 110) (i := 71) rfl S_187 (by omega) (by omega) (by decide) ?_
                    refine K_nm (fun v110 e110 => ?_)
                    have r110 := (rd_mkites hI (x1 + (5 * x4)).toNat).1 (by omega)
                    rw [← e110] at r110
                    refine K_aload_n (pc := 111) (i := 72) rfl rfl ?_
                    refine K_getR (pc := 112) (i := 73) (j := 3) (d := 187) rfl S_184 rfl (by decide) rfl fw_Model_16 ?_
                    refine K_iload_n (pc := 115) (i := 74) rfl rfl ?_
                    refine K_iconst (pc := 116) (i := 75) rfl ?_
                    refine K_iload (pc := 117) (i := 76) rfl rfl ?_
                    refine K_imul (pc := 119) (i := 77) rfl ?_
                    refine K_iadd (pc := 120) (i := 78) rfl ?_
                    refine K_iald (pc := 121) (i := 79) rfl S_187 (by omega) (by omega) (by decide) ?_
                    refine K_nm (fun v121 e121 => ?_)
                    have r121 := (rd_mkites hI (x1 + (5 * x5)).toNat).1 (by omega)
                    rw [← e121] at r121
                    first | refine K_icmp_eq 158 (pc := 122) (i := 80) rfl rfl (by omega) (by omega) (fun b122 => ?_) (fun b122 => ?_) | refine K_icmp_eq_an 158 (pc := 122) (i := 80) rfl rfl (fun b122 => ?_) (fun b122 => ?_)
                    · skip
                      refine K_iconst (pc := 158) (i := 98) rfl ?_
                      refine K_ist (pc := 159) (i := 99) (lo' := [(0, _), (1, _), (2, _), (3, _), (4, _), (5, _), (6, _)]) rfl rfl rfl rfl ?_
                      refine K_iload_n (pc := 161) (i := 100) rfl rfl ?_
                      refine K_iload (pc := 162) (i := 101) rfl rfl ?_
                      first | refine K_if_eq 174 (pc := 164) (i := 102) rfl rfl (by omega) (fun b164 => ?_) (fun b164 => ?_) | refine K_if_eq_an 174 (pc := 164) (i := 102) rfl rfl (fun b164 => ?_) (fun b164 => ?_)
                      · skip
                        refine K_iconst (pc := 174) (i := 107) rfl ?_
                        refine K_ior (pc := 175) (i := 108) rfl ?_
                        refine K_any (fun v175 r175 => ?_)
                        refine K_ist_n (pc := 176) (i := 109) (lo' := [(0, _), (1, _), (2, _), (3, _), (4, _), (5, _), (6, _)]) rfl rfl rfl rfl ?_
                        refine K_inc (pc := 177) (i := 110) (q := 5) (lo' := [(0, _), (1, _), (2, _), (3, _), (4, _), (5, _), (6, _)]) rfl rfl rfl rfl rfl ?_
                        refine K_goto 94 (pc := 180) (i := 111) rfl rfl ?_
                        refine K_drop (lo' := [(0, .ref (G.2.2.2 184)), (1, kI x1), (2, kI x2), (3, kI v175), (4, kI x4), (5, kI (x5 + 1))]) [0, 1, 2, 3, 4, 5] rfl ?_
                        exact ih94 v175 (x5 + 1) (by omega) (by omega)
                      · skip
                        refine K_iconst (pc := 167) (i := 103) rfl ?_
                        refine K_iload (pc := 168) (i := 104) rfl rfl ?_
                        refine K_ishl (pc := 170) (i := 105) rfl ?_
                        refine K_any (fun v170 r170 => ?_)
                        refine K_goto 175 (pc := 171) (i := 106) rfl rfl ?_
                        refine K_ior (pc := 175) (i := 108) rfl ?_
                        refine K_any (fun v175 r175 => ?_)
                        refine K_ist_n (pc := 176) (i := 109) (lo' := [(0, _), (1, _), (2, _), (3, _), (4, _), (5, _), (6, _)]) rfl rfl rfl rfl ?_
                        refine K_inc (pc := 177) (i := 110) (q := 5) (lo' := [(0, _), (1, _), (2, _), (3, _), (4, _), (5, _), (6, _)]) rfl rfl rfl rfl rfl ?_
                        refine K_goto 94 (pc := 180) (i := 111) rfl rfl ?_
                        refine K_drop (lo' := [(0, .ref (G.2.2.2 184)), (1, kI x1), (2, kI x2), (3, kI v175), (4, kI x4), (5, kI (x5 + 1))]) [0, 1, 2, 3, 4, 5] rfl ?_
                        exact ih94 v175 (x5 + 1) (by omega) (by omega)
                    · skip
                      refine K_aload_n (pc := 125) (i := 81) rfl rfl ?_
                      refine K_iload_n (pc := 126) (i := 82) rfl rfl ?_
                      refine K_iload (pc := 127) (i := 83) rfl rfl ?_
                      refine K_cVI (pc := 129) (i := 84) rfl (c_Model_edgeOf G (x1 := x1) (x2 := x4) (hI := hI) (s1 := by omega) (s2 := by omega)) S_184 rfl (lv_Model_108 rfl) rfl rfl rfl rfl rfl (fun v129 h129 q129 => ?_)
                      obtain ⟨eh, r129⟩ := q129
                      rw [eh]; clear eh
                      refine K_aload_n (pc := 132) (i := 85) rfl rfl ?_
                      refine K_iload_n (pc := 133) (i := 86) rfl rfl ?_
                      refine K_iload (pc := 134) (i := 87) rfl rfl ?_
                      refine K_cVI (pc := 136) (i := 88) rfl (c_Model_edgeOf G (x1 := x1) (x2 := x5) (hI := hI) (s1 := by omega) (s2 := by omega)) S_184 rfl (lv_Model_108 rfl) rfl rfl rfl rfl rfl (fun v136 h136 q136 => ?_)
                      obtain ⟨eh, r136⟩ := q136
                      rw [eh]; clear eh
                      first | refine K_icmp_le 158 (pc := 139) (i := 89) rfl rfl (by omega) (by omega) (fun b139 => ?_) (fun b139 => ?_) | refine K_icmp_le_an 158 (pc := 139) (i := 89) rfl rfl (fun b139 => ?_) (fun b139 => ?_)
                      · skip
                        refine K_iconst (pc := 158) (i := 98) rfl ?_
                        refine K_ist (pc := 159) (i := 99) (lo' := [(0, _), (1, _), (2, _), (3, _), (4, _), (5, _), (6, _)]) rfl rfl rfl rfl ?_
                        refine K_iload_n (pc := 161) (i := 100) rfl rfl ?_
                        refine K_iload (pc := 162) (i := 101) rfl rfl ?_
                        first | refine K_if_eq 174 (pc := 164) (i := 102) rfl rfl (by omega) (fun b164 => ?_) (fun b164 => ?_) | refine K_if_eq_an 174 (pc := 164) (i := 102) rfl rfl (fun b164 => ?_) (fun b164 => ?_)
                        · skip
                          refine K_iconst (pc := 174) (i := 107) rfl ?_
                          refine K_ior (pc := 175) (i := 108) rfl ?_
                          refine K_any (fun v175 r175 => ?_)
                          refine K_ist_n (pc := 176) (i := 109) (lo' := [(0, _), (1, _), (2, _), (3, _), (4, _), (5, _), (6, _)]) rfl rfl rfl rfl ?_
                          refine K_inc (pc := 177) (i := 110) (q := 5) (lo' := [(0, _), (1, _), (2, _), (3, _), (4, _), (5, _), (6, _)]) rfl rfl rfl rfl rfl ?_
                          refine K_goto 94 (pc := 180) (i := 111) rfl rfl ?_
                          refine K_drop (lo' := [(0, .ref (G.2.2.2 184)), (1, kI x1), (2, kI x2), (3, kI v175), (4, kI x4), (5, kI (x5 + 1))]) [0, 1, 2, 3, 4, 5] rfl ?_
                          exact ih94 v175 (x5 + 1) (by omega) (by omega)
                        · skip
                          refine K_iconst (pc := 167) (i := 103) rfl ?_
                          refine K_iload (pc := 168) (i := 104) rfl rfl ?_
                          refine K_ishl (pc := 170) (i := 105) rfl ?_
                          refine K_any (fun v170 r170 => ?_)
                          refine K_goto 175 (pc := 171) (i := 106) rfl rfl ?_
                          refine K_ior (pc := 175) (i := 108) rfl ?_
                          refine K_any (fun v175 r175 => ?_)
                          refine K_ist_n (pc := 176) (i := 109) (lo' := [(0, _), (1, _), (2, _), (3, _), (4, _), (5, _), (6, _)]) rfl rfl rfl rfl ?_
                          refine K_inc (pc := 177) (i := 110) (q := 5) (lo' := [(0, _), (1, _), (2, _), (3, _), (4, _), (5, _), (6, _)]) rfl rfl rfl rfl rfl ?_
                          refine K_goto 94 (pc := 180) (i := 111) rfl rfl ?_
                          refine K_drop (lo' := [(0, .ref (G.2.2.2 184)), (1, kI x1), (2, kI x2), (3, kI v175), (4, kI x4), (5, kI (x5 + 1))]) [0, 1, 2, 3, 4, 5] rfl ?_
                          exact ih94 v175 (x5 + 1) (by omega) (by omega)
                      · skip
                        refine K_aload_n (pc := 142) (i := 90) rfl rfl ?_
                        refine K_iload_n (pc := 143) (i := 91) rfl rfl ?_
                        refine K_iload (pc := 144) (i := 92) rfl rfl ?_
                        refine K_iload (pc := 146) (i := 93) rfl rfl ?_
                        refine K_cVI (pc := 148) (i := 94) rfl (c_Model_doCross G (x1 := x1) (x2 := x4) (x3 := x5) (hI := hI) (s1 := by omega) (s2 := by omega) (s3 := by omega)) S_184 rfl (lv_Model_137 rfl) rfl rfl rfl rfl rfl (fun v148 h148 q148 => ?_)
                        obtain ⟨eh, r148⟩ := q148
                        rw [eh]; clear eh
                        first | refine K_if_eq 158 (pc := 151) (i := 95) rfl rfl (by omega) (fun b151 => ?_) (fun b151 => ?_) | refine K_if_eq_an 158 (pc := 151) (i := 95) rfl rfl (fun b151 => ?_) (fun b151 => ?_)
                        · skip
                          refine K_iconst (pc := 158) (i := 98) rfl ?_
                          refine K_ist (pc := 159) (i := 99) (lo' := [(0, _), (1, _), (2, _), (3, _), (4, _), (5, _), (6, _)]) rfl rfl rfl rfl ?_
                          refine K_iload_n (pc := 161) (i := 100) rfl rfl ?_
                          refine K_iload (pc := 162) (i := 101) rfl rfl ?_
                          first | refine K_if_eq 174 (pc := 164) (i := 102) rfl rfl (by omega) (fun b164 => ?_) (fun b164 => ?_) | refine K_if_eq_an 174 (pc := 164) (i := 102) rfl rfl (fun b164 => ?_) (fun b164 => ?_)
                          · skip
                            refine K_iconst (pc := 174) (i := 107) rfl ?_
                            refine K_ior (pc := 175) (i := 108) rfl ?_
                            refine K_any (fun v175 r175 => ?_)
                            refine K_ist_n (pc := 176) (i := 109) (lo' := [(0, _), (1, _), (2, _), (3, _), (4, _), (5, _), (6, _)]) rfl rfl rfl rfl ?_
                            refine K_inc (pc := 177) (i := 110) (q := 5) (lo' := [(0, _), (1, _), (2, _), (3, _), (4, _), (5, _), (6, _)]) rfl rfl rfl rfl rfl ?_
                            refine K_goto 94 (pc := 180) (i := 111) rfl rfl ?_
                            refine K_drop (lo' := [(0, .ref (G.2.2.2 184)), (1, kI x1), (2, kI x2), (3, kI v175), (4, kI x4), (5, kI (x5 + 1))]) [0, 1, 2, 3, 4, 5] rfl ?_
                            exact ih94 v175 (x5 + 1) (by omega) (by omega)
                          · skip
                            refine K_iconst (pc := 167) (i := 103) rfl ?_
                            refine K_iload (pc := 168) (i := 104) rfl rfl ?_
                            refine K_ishl (pc := 170) (i := 105) rfl ?_
                            refine K_any (fun v170 r170 => ?_)
                            refine K_goto 175 (pc := 171) (i := 106) rfl rfl ?_
                            refine K_ior (pc := 175) (i := 108) rfl ?_
                            refine K_any (fun v175 r175 => ?_)
                            refine K_ist_n (pc := 176) (i := 109) (lo' := [(0, _), (1, _), (2, _), (3, _), (4, _), (5, _), (6, _)]) rfl rfl rfl rfl ?_
                            refine K_inc (pc := 177) (i := 110) (q := 5) (lo' := [(0, _), (1, _), (2, _), (3, _), (4, _), (5, _), (6, _)]) rfl rfl rfl rfl rfl ?_
                            refine K_goto 94 (pc := 180) (i := 111) rfl rfl ?_
                            refine K_drop (lo' := [(0, .ref (G.2.2.2 184)), (1, kI x1), (2, kI x2), (3, kI v175), (4, kI x4), (5, kI (x5 + 1))]) [0, 1, 2, 3, 4, 5] rfl ?_
                            exact ih94 v175 (x5 + 1) (by omega) (by omega)
                        · skip
                          refine K_iconst (pc := 154) (i := 96) rfl ?_
                          refine K_goto 159 (pc := 155) (i := 97) rfl rfl ?_
                          refine K_ist (pc := 159) (i := 99) (lo' := [(0, _), (1, _), (2, _), (3, _), (4, _), (5, _), (6, _)]) rfl rfl rfl rfl ?_
                          refine K_iload_n (pc := 161) (i := 100) rfl rfl ?_
                          refine K_iload (pc := 162) (i := 101) rfl rfl ?_
                          first | refine K_if_eq 174 (pc := 164) (i := 102) rfl rfl (by omega) (fun b164 => ?_) (fun b164 => ?_) | refine K_if_eq_an 174 (pc := 164) (i := 102) rfl rfl (fun b164 => ?_) (fun b164 => ?_)
                          · skip
                            refine K_iconst (pc := 174) (i := 107) rfl ?_
                            refine K_ior (pc := 175) (i := 108) rfl ?_
                            refine K_any (fun v175 r175 => ?_)
                            refine K_ist_n (pc := 176) (i := 109) (lo' := [(0, _), (1, _), (2, _), (3, _), (4, _), (5, _), (6, _)]) rfl rfl rfl rfl ?_
                            refine K_inc (pc := 177) (i := 110) (q := 5) (lo' := [(0, _), (1, _), (2, _), (3, _), (4, _), (5, _), (6, _)]) rfl rfl rfl rfl rfl ?_
                            refine K_goto 94 (pc := 180) (i := 111) rfl rfl ?_
                            refine K_drop (lo' := [(0, .ref (G.2.2.2 184)), (1, kI x1), (2, kI x2), (3, kI v175), (4, kI x4), (5, kI (x5 + 1))]) [0, 1, 2, 3, 4, 5] rfl ?_
                            exact ih94 v175 (x5 + 1) (by omega) (by omega)
                          · skip
                            refine K_iconst (pc := 167) (i := 103) rfl ?_
                            refine K_iload (pc := 168) (i := 104) rfl rfl ?_
                            refine K_ishl (pc := 170) (i := 105) rfl ?_
                            refine K_any (fun v170 r170 => ?_)
                            refine K_goto 175 (pc := 171) (i := 106) rfl rfl ?_
                            refine K_ior (pc := 175) (i := 108) rfl ?_
                            refine K_any (fun v175 r175 => ?_)
                            refine K_ist_n (pc := 176) (i := 109) (lo' := [(0, _), (1, _), (2, _), (3, _), (4, _), (5, _), (6, _)]) rfl rfl rfl rfl ?_
                            refine K_inc (pc := 177) (i := 110) (q := 5) (lo' := [(0, _), (1, _), (2, _), (3, _), (4, _), (5, _), (6, _)]) rfl rfl rfl rfl rfl ?_
                            refine K_goto 94 (pc := 180) (i := 111) rfl rfl ?_
                            refine K_drop (lo' := [(0, .ref (G.2.2.2 184)), (1, kI x1), (2, kI x2), (3, kI v175), (4, kI x4), (5, kI (x5 + 1))]) [0, 1, 2, 3, 4, 5] rfl ?_
                            exact ih94 v175 (x5 + 1) (by omega) (by omega)
              exact L94 _ x3 0 (Nat.lt_succ_self _) (by omega)
        exact L85 _ 0 0 (Nat.lt_succ_self _) (by omega)
      · skip
        refine K_aload_n (pc := 7) (i := 5) rfl rfl ?_
        refine K_getR (pc := 8) (i := 6) (j := 3) (d := 187) rfl S_184 rfl (by decide) rfl fw_Model_16 ?_
        refine K_iload_n (pc := 11) (i := 7) rfl rfl ?_
        refine K_iconst (pc := 12) (i := 8) rfl ?_
        refine K_iload_n (pc := 13) (i := 9) rfl rfl ?_
        refine K_imul (pc := 14) (i := 10) rfl ?_
        refine K_iadd (pc := 15) (i := 11) rfl ?_
        refine K_iconst (pc := 16) (i := 12) rfl ?_
        refine K_iadd (pc := 17) (i := 13) rfl ?_
        refine K_iald (pc := 18) (i := 14) rfl S_187 (by omega) (by omega) (by decide) ?_
        refine K_any (fun v18 r18 => ?_)
        refine K_aload_n (pc := 19) (i := 15) rfl rfl ?_
        refine K_getR (pc := 20) (i := 16) (j := 5) (d := 188) rfl S_184 rfl (by decide) rfl fw_Model_19 ?_
        refine K_aload_n (pc := 23) (i := 17) rfl rfl ?_
        refine K_getR (pc := 24) (i := 18) (j := 3) (d := 187) rfl S_184 rfl (by decide) rfl fw_Model_16 ?_
        refine K_iload_n (pc := 27) (i := 19) rfl rfl ?_
        refine K_iconst (pc := 28) (i := 20) rfl ?_
        refine K_iload_n (pc := 29) (i := 21) rfl rfl ?_
        refine K_imul (pc := 30) (i := 22) rfl ?_
        refine K_iadd (pc := 31) (i := 23) rfl ?_
        refine K_iconst (pc := 32) (i := 24) rfl ?_
        refine K_iadd (pc := 33) (i := 25) rfl ?_
        refine K_iald (pc := 34) (i := 26) rfl S_187 (by omega) (by omega) (by decide) ?_
        refine K_nm (fun v34 e34 => ?_)
        have r34 := (rd_mkites hI ((x1 + (5 * x3)) + 3).toNat).2 (by omega)
        rw [← e34] at r34
        refine K_iald (pc := 35) (i := 27) rfl S_188 (by omega) (by omega) (by decide) ?_
        refine K_any (fun v35 r35 => ?_)
        refine K_iadd (pc := 36) (i := 28) rfl ?_
        refine K_any (fun v36 r36 => ?_)
        refine K_ist (pc := 37) (i := 29) (lo' := [(0, _), (1, _), (2, _), (3, _), (4, _)]) rfl rfl rfl rfl ?_
        refine K_aload_n (pc := 39) (i := 30) rfl rfl ?_
        refine K_getR (pc := 40) (i := 31) (j := 3) (d := 187) rfl S_184 rfl (by decide) rfl fw_Model_16 ?_
        refine K_iload_n (pc := 43) (i := 32) rfl rfl ?_
        refine K_iconst (pc := 44) (i := 33) rfl ?_
        refine K_iload_n (pc := 45) (i := 34) rfl rfl ?_
        refine K_imul (pc := 46) (i := 35) rfl ?_
        refine K_iadd (pc := 47) (i := 36) rfl ?_
        refine K_iconst (pc := 48) (i := 37) rfl ?_
        refine K_iadd (pc := 49) (i := 38) rfl ?_
        refine K_iload (pc := 50) (i := 39) rfl rfl ?_
        first | refine K_if_ge 59 (pc := 52) (i := 40) rfl rfl (by omega) (fun b52 => ?_) (fun b52 => ?_) | refine K_if_ge_an 59 (pc := 52) (i := 40) rfl rfl (fun b52 => ?_) (fun b52 => ?_)
        · skip
          refine K_iload (pc := 59) (i := 43) rfl rfl ?_
          refine K_bipush (pc := 61) (i := 44) rfl rfl ?_
          first | refine K_icmp_le 71 (pc := 63) (i := 45) rfl rfl (by omega) (by omega) (fun b63 => ?_) (fun b63 => ?_) | refine K_icmp_le_an 71 (pc := 63) (i := 45) rfl rfl (fun b63 => ?_) (fun b63 => ?_)
          · skip
            refine K_iload (pc := 71) (i := 48) rfl rfl ?_
            refine K_iast (pc := 73) (i := 49) rfl S_187 (by omega) (by omega) (by decide) ?_
            have hI := st_mkites hI (i := ((x1 + (5 * x3)) + 2).toNat) (v := v36) (by unfold bK; omega) (fun _ a => a.hi (rd_many hI).2 (by omega))
            have fx := Fx.st (c := 187) (i := ((x1 + (5 * x3)) + 2).toNat) (v := v36) fx (by first | omega | (dsimp only; omega) | exact not_false)
            have fM := fM.st (c := 187) (i := ((x1 + (5 * x3)) + 2).toNat) (v := v36) (by decide)
            refine K_inc (pc := 74) (i := 50) (q := 3) (lo' := [(0, _), (1, _), (2, _), (3, _), (4, _)]) rfl rfl rfl rfl rfl ?_
            refine K_goto 2 (pc := 77) (i := 51) rfl rfl ?_
            refine K_drop (lo' := [(0, .ref (G.2.2.2 184)), (1, kI x1), (2, kI x2), (3, kI (x3 + 1))]) [0, 1, 2, 3] rfl ?_
            exact ih2 (x3 + 1) _ (by omega) hI fM fx (by omega)
          · skip
            refine K_bipush (pc := 66) (i := 46) rfl rfl ?_
            refine K_goto 73 (pc := 68) (i := 47) rfl rfl ?_
            refine K_iast (pc := 73) (i := 49) rfl S_187 (by omega) (by omega) (by decide) ?_
            have hI := st_mkites hI (i := ((x1 + (5 * x3)) + 2).toNat) (v := 40) (by unfold bK; omega) (fun _ a => a.hi (rd_many hI).2 (by omega))
            have fx := Fx.st (c := 187) (i := ((x1 + (5 * x3)) + 2).toNat) (v := 40) fx (by first | omega | (dsimp only; omega) | exact not_false)
            have fM := fM.st (c := 187) (i := ((x1 + (5 * x3)) + 2).toNat) (v := 40) (by decide)
            refine K_inc (pc := 74) (i := 50) (q := 3) (lo' := [(0, _), (1, _), (2, _), (3, _), (4, _)]) rfl rfl rfl rfl rfl ?_
            refine K_goto 2 (pc := 77) (i := 51) rfl rfl ?_
            refine K_drop (lo' := [(0, .ref (G.2.2.2 184)), (1, kI x1), (2, kI x2), (3, kI (x3 + 1))]) [0, 1, 2, 3] rfl ?_
            exact ih2 (x3 + 1) _ (by omega) hI fM fx (by omega)
        · skip
          refine K_iconst (pc := 55) (i := 41) rfl ?_
          refine K_goto 73 (pc := 56) (i := 42) rfl rfl ?_
          refine K_iast (pc := 73) (i := 49) rfl S_187 (by omega) (by omega) (by decide) ?_
          have hI := st_mkites hI (i := ((x1 + (5 * x3)) + 2).toNat) (v := 0) (by unfold bK; omega) (fun _ a => a.hi (rd_many hI).2 (by omega))
          have fx := Fx.st (c := 187) (i := ((x1 + (5 * x3)) + 2).toNat) (v := 0) fx (by first | omega | (dsimp only; omega) | exact not_false)
          have fM := fM.st (c := 187) (i := ((x1 + (5 * x3)) + 2).toNat) (v := 0) (by decide)
          refine K_inc (pc := 74) (i := 50) (q := 3) (lo' := [(0, _), (1, _), (2, _), (3, _), (4, _)]) rfl rfl rfl rfl rfl ?_
          refine K_goto 2 (pc := 77) (i := 51) rfl rfl ?_
          refine K_drop (lo' := [(0, .ref (G.2.2.2 184)), (1, kI x1), (2, kI x2), (3, kI (x3 + 1))]) [0, 1, 2, 3] rfl ?_
          exact ih2 (x3 + 1) _ (by omega) hI fM fx (by omega)
  exact L2 _ 0 _ (Nat.lt_succ_self _) hI fM fx (by omega)
set_option maxHeartbeats 4000000 in
set_option maxRecDepth 100000 in
theorem c_Model_leave40 (G : kG) {g : kGh} {h : kH} {x1 : Int} {x2 : Int} {x3 : Int} (s1 : x1 = 40) (s2 : 0 ≤ x2 ∧ x2 ≤ 8) (hI : Gd g h) : Ctr G y_Model_leave X_Model_leave 1 [.ref (G.2.2.2 184), kI x1, kI x2, kI x3] h (kQi (fun z h' => Fx (fun c i => (c = 187 ∧ 40 ≤ i) ∨ c = 192) h h' ∧ (Gd g h' ∧ FM h h' ∧ 0 ≤ z ∧ z ≤ x2))) := by
  refine Ctr.ofK (by decide) rfl T_Model_leave (Nat.le_of_ble_eq_true rfl) (lo := [(0, .ref (G.2.2.2 184)), (1, kI x1), (2, kI x2), (3, kI x3)]) rfl ?_
  have fM : FM h h := fun _ _ _ => rfl
  have fx : Fx (fun c i => (c = 187 ∧ 40 ≤ i) ∨ c = 192) h h := Fx.rf
  refine K_iconst (pc := 0) (i := 0) rfl ?_
  refine K_ist (pc := 1) (i := 1) (lo' := [(0, _), (1, _), (2, _), (3, _), (4, _)]) rfl rfl rfl rfl ?_
  refine K_iconst (pc := 3) (i := 2) rfl ?_
  refine K_ist (pc := 4) (i := 3) (lo' := [(0, _), (1, _), (2, _), (3, _), (4, _), (5, _)]) rfl rfl rfl rfl ?_
  have L6 : ∀ (n : Nat) (x4 : Int) (x5 : Int) (ha : kH), (8 - x5).toNat < n → (Gd g ha) → (FM h ha) → (Fx (fun c i => (c = 187 ∧ 40 ≤ i) ∨ c = 192) h ha) → (0 ≤ x4 ∧ x4 ≤ x5 ∧ x5 ≤ x2) → K X_Model_leave G (kZm G 1 (kQi (fun z h' => Fx (fun c i => (c = 187 ∧ 40 ≤ i) ∨ c = 192) h h' ∧ (Gd g h' ∧ FM h h' ∧ 0 ≤ z ∧ z ≤ x2)))) 6 [(0, .ref (G.2.2.2 184)), (1, kI x1), (2, kI x2), (3, kI x3), (4, kI x4), (5, kI x5)] [] ha := by
    intro n
    induction n with
    | zero => intro x4 x5 ha hm; exact absurd hm (Nat.not_lt_zero _)
    | succ n ih6 =>
      intro x4 x5 ha hm6 hI fM fx hV6
      refine K_iload (pc := 6) (i := 4) rfl rfl ?_
      refine K_iload_n (pc := 8) (i := 5) rfl rfl ?_
      first | refine K_icmp_ge 99 (pc := 9) (i := 6) rfl rfl (by omega) (by omega) (fun b9 => ?_) (fun b9 => ?_) | refine K_icmp_ge_an 99 (pc := 9) (i := 6) rfl rfl (fun b9 => ?_) (fun b9 => ?_)
      · skip
        refine K_iload (pc := 99) (i := 62) rfl rfl ?_
        exact K_retI (pc := 101) (i := 63) rfl rfl ⟨fx, ⟨hI, fM, by omega⟩⟩
      · skip
        refine K_iload_n (pc := 12) (i := 7) rfl rfl ?_
        refine K_iload (pc := 13) (i := 8) rfl rfl ?_
        refine K_ishr (pc := 15) (i := 9) rfl ?_
        refine K_any (fun v15 r15 => ?_)
        refine K_iconst (pc := 16) (i := 10) rfl ?_
        refine K_iand (pc := 17) (i := 11) rfl ?_
        refine K_nm (fun v17 e17 => ?_)
        have r17 := kAnd_1 v15
        rw [← e17] at r17
        refine K_iconst (pc := 18) (i := 12) rfl ?_
        first | refine K_icmp_ne 47 (pc := 19) (i := 13) rfl rfl (by omega) (by omega) (fun b19 => ?_) (fun b19 => ?_) | refine K_icmp_ne_an 47 (pc := 19) (i := 13) rfl rfl (fun b19 => ?_) (fun b19 => ?_)
        · skip
          refine K_iconst (pc := 47) (i := 32) rfl ?_
          refine K_ist (pc := 48) (i := 33) (lo' := [(0, _), (1, _), (2, _), (3, _), (4, _), (5, _), (6, _)]) rfl rfl rfl rfl ?_
          have L50 : ∀ (n : Nat) (x6 : Int) (ha : kH), (5 - x6).toNat < n → (Gd g ha) → (FM h ha) → (Fx (fun c i => (c = 187 ∧ 40 ≤ i) ∨ c = 192) h ha) → (0 ≤ x6 ∧ x6 ≤ 5) → K X_Model_leave G (kZm G 1 (kQi (fun z h' => Fx (fun c i => (c = 187 ∧ 40 ≤ i) ∨ c = 192) h h' ∧ (Gd g h' ∧ FM h h' ∧ 0 ≤ z ∧ z ≤ x2)))) 50 [(0, .ref (G.2.2.2 184)), (1, kI x1), (2, kI x2), (3, kI x3), (4, kI x4), (5, kI x5), (6, kI x6)] [] ha := by
            intro n
            induction n with
            | zero => intro x6 ha hm; exact absurd hm (Nat.not_lt_zero _)
            | succ n ih50 =>
              intro x6 ha hm50 hI fM fx hV50
              refine K_iload (pc := 50) (i := 34) rfl rfl ?_
              refine K_iconst (pc := 52) (i := 35) rfl ?_
              first | refine K_icmp_ge 90 (pc := 53) (i := 36) rfl rfl (by omega) (by omega) (fun b53 => ?_) (fun b53 => ?_) | refine K_icmp_ge_an 90 (pc := 53) (i := 36) rfl rfl (fun b53 => ?_) (fun b53 => ?_)
              · skip
                refine K_inc (pc := 90) (i := 59) (q := 4) (lo' := [(0, _), (1, _), (2, _), (3, _), (4, _), (5, _), (6, _)]) rfl rfl rfl rfl rfl ?_
                refine K_inc (pc := 93) (i := 60) (q := 5) (lo' := [(0, _), (1, _), (2, _), (3, _), (4, _), (5, _), (6, _)]) rfl rfl rfl rfl rfl ?_
                refine K_goto 6 (pc := 96) (i := 61) rfl rfl ?_
                refine K_drop (lo' := [(0, .ref (G.2.2.2 184)), (1, kI x1), (2, kI x2), (3, kI x3), (4, kI (x4 + 1)), (5, kI (x5 + 1))]) [0, 1, 2, 3, 4, 5] rfl ?_
                exact ih6 (x4 + 1) (x5 + 1) _ (by omega) hI fM fx (by omega)
              · skip
                refine K_aload_n (pc := 56) (i := 37) rfl rfl ?_
                refine K_getR (pc := 57) (i := 38) (j := 3) (d := 187) rfl S_184 rfl (by decide) rfl fw_Model_16 ?_
                refine K_iload_n (pc := 60) (i := 39) rfl rfl ?_
                refine K_iconst (pc := 61) (i := 40) rfl ?_
                refine K_iload (pc := 62) (i := 41) rfl rfl ?_
                refine K_imul (pc := 64) (i := 42) rfl ?_
                refine K_iadd (pc := 65) (i := 43) rfl ?_
                refine K_iload (pc := 66) (i := 44) rfl rfl ?_
                refine K_iadd (pc := 68) (i := 45) rfl ?_
                refine K_aload_n (pc := 69) (i := 46) rfl rfl ?_
                refine K_getR (pc := 70) (i := 47) (j := 3) (d := 187) rfl S_184 rfl (by decide) rfl fw_Model_16 ?_
                refine K_iload_n (pc := 73) (i := 48) rfl rfl ?_
                refine K_iconst (pc := 74) (i := 49) rfl ?_
                refine K_iload (pc := 75) (i := 50) rfl rfl ?_
                refine K_imul (pc := 77) (i := 51) rfl ?_
                refine K_iadd (pc := 78) (i := 52) rfl ?_
                refine K_iload (pc := 79) (i := 53) rfl rfl ?_
                refine K_iadd (pc := 81) (i := 54) rfl ?_
                refine K_iald (pc := 82) (i := 55) rfl S_187 (by omega) (by omega) (by decide) ?_
                refine K_nm (fun v82 e82 => ?_)
                have r82 := rd_mkites hI ((x1 + (5 * x5)) + x6).toNat
                rw [← e82] at r82
                refine K_iast (pc := 83) (i := 56) rfl S_187 (by omega) (by omega) (by decide) ?_
                have hI := st_mkites hI (i := ((x1 + (5 * x4)) + x6).toNat) (v := v82) (bK_of r82 (by omega)) (fun _ a => a.hi (rd_many hI).2 (by omega))
                have fx := Fx.st (c := 187) (i := ((x1 + (5 * x4)) + x6).toNat) (v := v82) fx (by first | omega | (dsimp only; omega) | exact not_false)
                have fM := fM.st (c := 187) (i := ((x1 + (5 * x4)) + x6).toNat) (v := v82) (by decide)
                refine K_inc (pc := 84) (i := 57) (q := 6) (lo' := [(0, _), (1, _), (2, _), (3, _), (4, _), (5, _), (6, _)]) rfl rfl rfl rfl rfl ?_
                refine K_goto 50 (pc := 87) (i := 58) rfl rfl ?_
                exact ih50 (x6 + 1) _ (by omega) hI fM fx (by omega)
          exact L50 _ 0 _ (Nat.lt_succ_self _) hI fM fx (by omega)
        · skip
          refine K_aload_n (pc := 22) (i := 14) rfl rfl ?_
          refine K_getR (pc := 23) (i := 15) (j := 14) (d := 192) rfl S_184 rfl (by decide) rfl fw_Model_31 ?_
          refine K_iconst (pc := 26) (i := 16) rfl ?_
          refine K_aload_n (pc := 27) (i := 17) rfl rfl ?_
          refine K_getR (pc := 28) (i := 18) (j := 3) (d := 187) rfl S_184 rfl (by decide) rfl fw_Model_16 ?_
          refine K_iload_n (pc := 31) (i := 19) rfl rfl ?_
          refine K_iconst (pc := 32) (i := 20) rfl ?_
          refine K_iload (pc := 33) (i := 21) rfl rfl ?_
          refine K_imul (pc := 35) (i := 22) rfl ?_
          refine K_iadd (pc := 36) (i := 23) rfl ?_
          refine K_iald (pc := 37) (i := 24) rfl S_187 (by omega) (by omega) (by decide) ?_
          refine K_nm (fun v37 e37 => ?_)
          have r37 := (rd_mkites hI (x1 + (5 * x5)).toNat).1 (by omega)
          rw [← e37] at r37
          refine K_isub (pc := 38) (i := 25) rfl ?_
          refine K_dup2 (pc := 39) (i := 26) rfl rfl rfl ?_
          refine K_iald (pc := 40) (i := 27) rfl S_192 (by omega) (by omega) (by decide) ?_
          refine K_any (fun v40 r40 => ?_)
          refine K_iconst (pc := 41) (i := 28) rfl ?_
          refine K_iadd (pc := 42) (i := 29) rfl ?_
          refine K_iast (pc := 43) (i := 30) rfl S_192 (by omega) (by omega) (by decide) ?_
          have hI := st_free (c := 192) hI (by decide +kernel) (by decide) (i := (1 - v37).toNat) (v := v40 + 1)
          have fx := Fx.st (c := 192) (i := (1 - v37).toNat) (v := v40 + 1) fx (by first | omega | (dsimp only; omega) | exact not_false)
          have fM := fM.st (c := 192) (i := (1 - v37).toNat) (v := v40 + 1) (by decide)
          refine K_goto 93 (pc := 44) (i := 31) rfl rfl ?_
          refine K_inc (pc := 93) (i := 60) (q := 5) (lo' := [(0, _), (1, _), (2, _), (3, _), (4, _), (5, _)]) rfl rfl rfl rfl rfl ?_
          refine K_goto 6 (pc := 96) (i := 61) rfl rfl ?_
          exact ih6 x4 (x5 + 1) _ (by omega) hI fM fx (by omega)
  exact L6 _ 0 0 _ (Nat.lt_succ_self _) hI fM fx (by omega)
set_option maxHeartbeats 4000000 in
set_option maxRecDepth 100000 in
theorem c_Model_copy (G : kG) {g : kGh} {h : kH}  (hI : Gd g h) : Ctr G y_Model_copy X_Model_copy 1 [.ref (G.2.2.2 184)] h (kQv (fun h' => Fx (fun c i => (c = 187 ∧ 40 ≤ i)) h h' ∧ (Gd g h' ∧ FM h h'))) := by
  refine Ctr.ofK (by decide) rfl T_Model_copy (Nat.le_of_ble_eq_true rfl) (lo := [(0, .ref (G.2.2.2 184))]) rfl ?_
  have fM : FM h h := fun _ _ _ => rfl
  have fx : Fx (fun c i => (c = 187 ∧ 40 ≤ i)) h h := Fx.rf
  refine K_iconst (pc := 0) (i := 0) rfl ?_
  refine K_ist_n (pc := 1) (i := 1) (lo' := [(0, _), (1, _)]) rfl rfl rfl rfl ?_
  have L2 : ∀ (n : Nat) (x1 : Int) (ha : kH), (40 - x1).toNat < n → (Gd g ha) → (FM h ha) → (Fx (fun c i => (c = 187 ∧ 40 ≤ i)) h ha) → (0 ≤ x1 ∧ x1 ≤ 40) → K X_Model_copy G (kZm G 1 (kQv (fun h' => Fx (fun c i => (c = 187 ∧ 40 ≤ i)) h h' ∧ (Gd g h' ∧ FM h h')))) 2 [(0, .ref (G.2.2.2 184)), (1, kI x1)] [] ha := by
    intro n
    induction n with
    | zero => intro x1 ha hm; exact absurd hm (Nat.not_lt_zero _)
    | succ n ih2 =>
      intro x1 ha hm2 hI fM fx hV2
      refine K_iload_n (pc := 2) (i := 2) rfl rfl ?_
      refine K_bipush (pc := 3) (i := 3) rfl rfl ?_
      first | refine K_icmp_ge 29 (pc := 5) (i := 4) rfl rfl (by omega) (by omega) (fun b5 => ?_) (fun b5 => ?_) | refine K_icmp_ge_an 29 (pc := 5) (i := 4) rfl rfl (fun b5 => ?_) (fun b5 => ?_)
      · skip
        exact K_retV (pc := 29) (i := 17) rfl rfl ⟨fx, ⟨hI, fM⟩⟩
      · skip
        refine K_aload_n (pc := 8) (i := 5) rfl rfl ?_
        refine K_getR (pc := 9) (i := 6) (j := 3) (d := 187) rfl S_184 rfl (by decide) rfl fw_Model_16 ?_
        refine K_bipush (pc := 12) (i := 7) rfl rfl ?_
        refine K_iload_n (pc := 14) (i := 8) rfl rfl ?_
        refine K_iadd (pc := 15) (i := 9) rfl ?_
        refine K_aload_n (pc := 16) (i := 10) rfl rfl ?_
        refine K_getR (pc := 17) (i := 11) (j := 3) (d := 187) rfl S_184 rfl (by decide) rfl fw_Model_16 ?_
        refine K_iload_n (pc := 20) (i := 12) rfl rfl ?_
        refine K_iald (pc := 21) (i := 13) rfl S_187 (by omega) (by omega) (by decide) ?_
        refine K_nm (fun v21 e21 => ?_)
        have r21 := rd_mkites hI (x1).toNat
        rw [← e21] at r21
        refine K_iast (pc := 22) (i := 14) rfl S_187 (by omega) (by omega) (by decide) ?_
        have hI := st_mkites hI (i := (40 + x1).toNat) (v := v21) (bK_of r21 (by omega)) (fun _ a => a.hi (rd_many hI).2 (by omega))
        have fx := Fx.st (c := 187) (i := (40 + x1).toNat) (v := v21) fx (by first | omega | (dsimp only; omega) | exact not_false)
        have fM := fM.st (c := 187) (i := (40 + x1).toNat) (v := v21) (by decide)
        refine K_inc (pc := 23) (i := 15) (q := 1) (lo' := [(0, _), (1, _)]) rfl rfl rfl rfl rfl ?_
        refine K_goto 2 (pc := 26) (i := 16) rfl rfl ?_
        exact ih2 (x1 + 1) _ (by omega) hI fM fx (by omega)
  exact L2 _ 0 _ (Nat.lt_succ_self _) hI fM fx (by omega)
set_option maxHeartbeats 4000000 in
set_option maxRecDepth 100000 in
theorem c_Model_blowAll (G : kG) {g : kGh} {h : kH} {x1 : Int} {x2 : Int} (s1 : 0 ≤ x1 ∧ x1 ≤ 8) (s2 : 0 ≤ x2 ∧ x2 ≤ 20) (hI : Gd g h) : Ctr G y_Model_blowAll X_Model_blowAll 4 [.ref (G.2.2.2 184), kI x1, kI x2] h (kQv (fun h' => Fx (fun c i => (c = 187 ∧ 40 ≤ i) ∨ c = 192) h h' ∧ (Gd g h' ∧ FM h h'))) := by
  refine Ctr.ofK (by decide) rfl T_Model_blowAll (Nat.le_of_ble_eq_true rfl) (lo := [(0, .ref (G.2.2.2 184)), (1, kI x1), (2, kI x2)]) rfl ?_
  have fM : FM h h := fun _ _ _ => rfl
  have fx : Fx (fun c i => (c = 187 ∧ 40 ≤ i) ∨ c = 192) h h := Fx.rf
  refine K_iload_n (pc := 0) (i := 0) rfl rfl ?_
  refine K_ist_n (pc := 1) (i := 1) (lo' := [(0, _), (1, _), (2, _), (3, _)]) rfl rfl rfl rfl ?_
  refine K_aload_n (pc := 2) (i := 2) rfl rfl ?_
  refine K_getR (pc := 3) (i := 3) (j := 14) (d := 192) rfl S_184 rfl (by decide) rfl fw_Model_31 ?_
  refine K_iconst (pc := 6) (i := 4) rfl ?_
  refine K_iconst (pc := 7) (i := 5) rfl ?_
  refine K_iast (pc := 8) (i := 6) rfl S_192 (by omega) (by omega) (by decide) ?_
  have hI := st_free (c := 192) hI (by decide +kernel) (by decide) (i := (0 : Int).toNat) (v := 0)
  have fx := Fx.st (c := 192) (i := (0 : Int).toNat) (v := 0) fx (by first | omega | (dsimp only; omega) | exact not_false)
  have fM := fM.st (c := 192) (i := (0 : Int).toNat) (v := 0) (by decide)
  refine K_aload_n (pc := 9) (i := 7) rfl rfl ?_
  refine K_getR (pc := 10) (i := 8) (j := 14) (d := 192) rfl S_184 rfl (by decide) rfl fw_Model_31 ?_
  refine K_iconst (pc := 13) (i := 9) rfl ?_
  refine K_iconst (pc := 14) (i := 10) rfl ?_
  refine K_iast (pc := 15) (i := 11) rfl S_192 (by omega) (by omega) (by decide) ?_
  have hI := st_free (c := 192) hI (by decide +kernel) (by decide) (i := (1 : Int).toNat) (v := 0)
  have fx := Fx.st (c := 192) (i := (1 : Int).toNat) (v := 0) fx (by first | omega | (dsimp only; omega) | exact not_false)
  have fM := fM.st (c := 192) (i := (1 : Int).toNat) (v := 0) (by decide)
  refine K_iconst (pc := 16) (i := 12) rfl ?_
  refine K_ist (pc := 17) (i := 13) (lo' := [(0, _), (1, _), (2, _), (3, _), (4, _)]) rfl rfl rfl rfl ?_
  have L19 : ∀ (n : Nat) (x3 : Int) (x4 : Int) (ha : kH), (20 - x4).toNat < n → (Gd g ha) → (FM h ha) → (Fx (fun c i => (c = 187 ∧ 40 ≤ i) ∨ c = 192) h ha) → ((0 ≤ x3 ∧ x3 ≤ 8) ∧ 0 ≤ x4 ∧ x4 ≤ 20) → K X_Model_blowAll G (kZm G 4 (kQv (fun h' => Fx (fun c i => (c = 187 ∧ 40 ≤ i) ∨ c = 192) h h' ∧ (Gd g h' ∧ FM h h')))) 19 [(0, .ref (G.2.2.2 184)), (1, kI x1), (2, kI x2), (3, kI x3), (4, kI x4)] [] ha := by
    intro n
    induction n with
    | zero => intro x3 x4 ha hm; exact absurd hm (Nat.not_lt_zero _)
    | succ n ih19 =>
      intro x3 x4 ha hm19 hI fM fx hV19
      refine K_iload (pc := 19) (i := 14) rfl rfl ?_
      refine K_iload_n (pc := 21) (i := 15) rfl rfl ?_
      first | refine K_icmp_ge 50 (pc := 22) (i := 16) rfl rfl (by omega) (by omega) (fun b22 => ?_) (fun b22 => ?_) | refine K_icmp_ge_an 50 (pc := 22) (i := 16) rfl rfl (fun b22 => ?_) (fun b22 => ?_)
      · skip
        exact K_retV (pc := 50) (i := 30) rfl rfl ⟨fx, ⟨hI, fM⟩⟩
      · skip
        refine K_aload_n (pc := 25) (i := 17) rfl rfl ?_
        refine K_bipush (pc := 26) (i := 18) rfl rfl ?_
        refine K_iload_n (pc := 28) (i := 19) rfl rfl ?_
        refine K_cVI (pc := 29) (i := 20) rfl (c_Model_blow40 G (x1 := 40) (x2 := x3) (hI := hI) (s1 := by omega) (s2 := by omega)) S_184 rfl (lv_Model_141 rfl) rfl rfl rfl rfl rfl (fun v29 h29 q29 => ?_)
        obtain ⟨fx29, q29⟩ := q29
        obtain ⟨hI, fM29, r29⟩ := q29
        have fM := fM.tr fM29
        have fx := fx.tr fx29 (fun c i q => (by first | omega | (dsimp only at q ⊢; omega)))
        refine K_ist (pc := 32) (i := 21) (lo' := [(0, _), (1, _), (2, _), (3, _), (4, _), (5, _)]) rfl rfl rfl rfl ?_
        refine K_aload_n (pc := 34) (i := 22) rfl rfl ?_
        refine K_bipush (pc := 35) (i := 23) rfl rfl ?_
        refine K_iload_n (pc := 37) (i := 24) rfl rfl ?_
        refine K_iload (pc := 38) (i := 25) rfl rfl ?_
        refine K_cVI (pc := 40) (i := 26) rfl (c_Model_leave40 G (x1 := 40) (x2 := x3) (x3 := v29) (hI := hI) (s1 := by omega) (s2 := by omega)) S_184 rfl (lv_Model_144 rfl) rfl rfl rfl rfl rfl (fun v40 h40 q40 => ?_)
        obtain ⟨fx40, q40⟩ := q40
        obtain ⟨hI, fM40, r40⟩ := q40
        have fM := fM.tr fM40
        have fx := fx.tr fx40 (fun c i q => (by first | omega | (dsimp only at q ⊢; omega)))
        refine K_ist_n (pc := 43) (i := 27) (lo' := [(0, _), (1, _), (2, _), (3, _), (4, _), (5, _)]) rfl rfl rfl rfl ?_
        refine K_inc (pc := 44) (i := 28) (q := 4) (lo' := [(0, _), (1, _), (2, _), (3, _), (4, _), (5, _)]) rfl rfl rfl rfl rfl ?_
        refine K_goto 19 (pc := 47) (i := 29) rfl rfl ?_
        refine K_drop (lo' := [(0, .ref (G.2.2.2 184)), (1, kI x1), (2, kI x2), (3, kI v40), (4, kI (x4 + 1))]) [0, 1, 2, 3, 4] rfl ?_
        exact ih19 v40 (x4 + 1) _ (by omega) hI fM fx (by omega)
  exact L19 _ x1 0 _ (Nat.lt_succ_self _) hI fM fx (by omega)
set_option maxHeartbeats 4000000 in
set_option maxRecDepth 100000 in
theorem c_Model_kitesOf (G : kG) {g : kGh} {h : kH} {x1 : Int} (hI : Gd g h) : Ctr G y_Model_kitesOf X_Model_kitesOf 1 [.ref (G.2.2.2 184), kI x1] h (kQi (fun z h' => h' = h ∧ 0 ≤ z ∧ z ≤ 8)) := by
  refine Ctr.ofK (by decide) rfl T_Model_kitesOf (Nat.le_of_ble_eq_true rfl) (lo := [(0, .ref (G.2.2.2 184)), (1, kI x1)]) rfl ?_
  refine K_iconst (pc := 0) (i := 0) rfl ?_
  refine K_ist_n (pc := 1) (i := 1) (lo' := [(0, _), (1, _), (2, _)]) rfl rfl rfl rfl ?_
  refine K_iconst (pc := 2) (i := 2) rfl ?_
  refine K_ist_n (pc := 3) (i := 3) (lo' := [(0, _), (1, _), (2, _), (3, _)]) rfl rfl rfl rfl ?_
  have L4 : ∀ (n : Nat) (x2 : Int) (x3 : Int), (8 - x3).toNat < n → (0 ≤ x2 ∧ x2 ≤ x3 ∧ x3 ≤ 8) → K X_Model_kitesOf G (kZm G 1 (kQi (fun z h' => h' = h ∧ 0 ≤ z ∧ z ≤ 8))) 4 [(0, .ref (G.2.2.2 184)), (1, kI x1), (2, kI x2), (3, kI x3)] [] h := by
    intro n
    induction n with
    | zero => intro x2 x3 hm; exact absurd hm (Nat.not_lt_zero _)
    | succ n ih4 =>
      intro x2 x3 hm4 hV4
      refine K_iload_n (pc := 4) (i := 4) rfl rfl ?_
      refine K_aload_n (pc := 5) (i := 5) rfl rfl ?_
      refine K_getI (pc := 6) (i := 6) (j := 4) rfl S_184 rfl (by decide) rfl fw_Model_59 ?_
      refine K_nm (fun v6 e6 => ?_)
      have r6 := rd_many hI
      rw [← e6] at r6
      first | refine K_icmp_ge 38 (pc := 9) (i := 7) rfl rfl (by omega) (by omega) (fun b9 => ?_) (fun b9 => ?_) | refine K_icmp_ge_an 38 (pc := 9) (i := 7) rfl rfl (fun b9 => ?_) (fun b9 => ?_)
      · skip
        refine K_iload_n (pc := 38) (i := 24) rfl rfl ?_
        exact K_retI (pc := 39) (i := 25) rfl rfl ⟨rfl, by omega⟩
      · skip
        refine K_iload_n (pc := 12) (i := 8) rfl rfl ?_
        refine K_aload_n (pc := 13) (i := 9) rfl rfl ?_
        refine K_getR (pc := 14) (i := 10) (j := 3) (d := 187) rfl S_184 rfl (by decide) rfl fw_Model_16 ?_
        refine K_iconst (pc := 17) (i := 11) rfl ?_
        refine K_iload_n (pc := 18) (i := 12) rfl rfl ?_
        refine K_imul (pc := 19) (i := 13) rfl ?_
        refine K_iald (pc := 20) (i := 14) rfl S_187 (by omega) (by omega) (by decide) ?_
        refine K_nm (fun v20 e20 => ?_)
        have r20 := (rd_mkites hI (5 * x3).toNat).1 (by omega)
        rw [← e20] at r20
        refine K_iload_n (pc := 21) (i := 15) rfl rfl ?_
        first | refine K_icmp_ne 29 (pc := 22) (i := 16) rfl rfl (by omega) (by omega) (fun b22 => ?_) (fun b22 => ?_) | refine K_icmp_ne_an 29 (pc := 22) (i := 16) rfl rfl (fun b22 => ?_) (fun b22 => ?_)
        · skip
          refine K_iconst (pc := 29) (i := 19) rfl ?_
          refine K_iadd (pc := 30) (i := 20) rfl ?_
          refine K_ist_n (pc := 31) (i := 21) (lo' := [(0, _), (1, _), (2, _), (3, _)]) rfl rfl rfl rfl ?_
          refine K_inc (pc := 32) (i := 22) (q := 3) (lo' := [(0, _), (1, _), (2, _), (3, _)]) rfl rfl rfl rfl rfl ?_
          refine K_goto 4 (pc := 35) (i := 23) rfl rfl ?_
          exact ih4 (x2 + 0) (x3 + 1) (by omega) (by omega)
        · skip
          refine K_iconst (pc := 25) (i := 17) rfl ?_
          refine K_goto 30 (pc := 26) (i := 18) rfl rfl ?_
          refine K_iadd (pc := 30) (i := 20) rfl ?_
          refine K_ist_n (pc := 31) (i := 21) (lo' := [(0, _), (1, _), (2, _), (3, _)]) rfl rfl rfl rfl ?_
          refine K_inc (pc := 32) (i := 22) (q := 3) (lo' := [(0, _), (1, _), (2, _), (3, _)]) rfl rfl rfl rfl rfl ?_
          refine K_goto 4 (pc := 35) (i := 23) rfl rfl ?_
          exact ih4 (x2 + 1) (x3 + 1) (by omega) (by omega)
  exact L4 _ 0 0 (Nat.lt_succ_self _) (by omega)
set_option maxHeartbeats 4000000 in
set_option maxRecDepth 100000 in
theorem c_Model_threeTo (G : kG)  {h : kH} {x0 : Int} (s0 : 0 ≤ x0 ∧ x0 ≤ 8) : Ctr G y_Model_threeTo X_Model_threeTo 1 [kI x0] h (kQi (fun z h' => h' = h ∧ 1 ≤ z ∧ z ≤ 6561)) := by
  refine Ctr.ofK (by decide) rfl T_Model_threeTo (Nat.le_of_ble_eq_true rfl) (lo := [(0, kI x0)]) rfl ?_
  refine K_iconst (pc := 0) (i := 0) rfl ?_
  refine K_ist_n (pc := 1) (i := 1) (lo' := [(0, _), (1, _)]) rfl rfl rfl rfl ?_
  refine K_iconst (pc := 2) (i := 2) rfl ?_
  refine K_ist_n (pc := 3) (i := 3) (lo' := [(0, _), (1, _), (2, _)]) rfl rfl rfl rfl ?_
  have L4 : ∀ (n : Nat) (x1 : Int) (x2 : Int), (8 - x2).toNat < n → ((x2 = 0 ∧ x1 = 1) ∨ (x2 = 1 ∧ x1 = 3) ∨ (x2 = 2 ∧ x1 = 9) ∨ (x2 = 3 ∧ x1 = 27) ∨ (x2 = 4 ∧ x1 = 81) ∨ (x2 = 5 ∧ x1 = 243) ∨ (x2 = 6 ∧ x1 = 729) ∨ (x2 = 7 ∧ x1 = 2187) ∨ (x2 = 8 ∧ x1 = 6561)) → K X_Model_threeTo G (kZm G 1 (kQi (fun z h' => h' = h ∧ 1 ≤ z ∧ z ≤ 6561))) 4 [(0, kI x0), (1, kI x1), (2, kI x2)] [] h := by
    intro n
    induction n with
    | zero => intro x1 x2 hm; exact absurd hm (Nat.not_lt_zero _)
    | succ n ih4 =>
      intro x1 x2 hm4 hV4
      refine K_iload_n (pc := 4) (i := 4) rfl rfl ?_
      refine K_iload_n (pc := 5) (i := 5) rfl rfl ?_
      first | refine K_icmp_ge 19 (pc := 6) (i := 6) rfl rfl (by omega) (by omega) (fun b6 => ?_) (fun b6 => ?_) | refine K_icmp_ge_an 19 (pc := 6) (i := 6) rfl rfl (fun b6 => ?_) (fun b6 => ?_)
      · skip
        refine K_iload_n (pc := 19) (i := 13) rfl rfl ?_
        exact K_retI (pc := 20) (i := 14) rfl rfl ⟨rfl, by omega⟩
      · skip
        refine K_iload_n (pc := 9) (i := 7) rfl rfl ?_
        refine K_iconst (pc := 10) (i := 8) rfl ?_
        refine K_imul (pc := 11) (i := 9) rfl ?_
        refine K_ist_n (pc := 12) (i := 10) (lo' := [(0, _), (1, _), (2, _)]) rfl rfl rfl rfl ?_
        refine K_inc (pc := 13) (i := 11) (q := 2) (lo' := [(0, _), (1, _), (2, _)]) rfl rfl rfl rfl rfl ?_
        refine K_goto 4 (pc := 16) (i := 12) rfl rfl ?_
        exact ih4 (x1 * 3) (x2 + 1) (by omega) (by omega)
  exact L4 _ 1 0 (Nat.lt_succ_self _) (by omega)
set_option maxHeartbeats 4000000 in
set_option maxRecDepth 100000 in
theorem c_Model_layPlan (G : kG) {g : kGh} {h : kH} {x1 : Int} {x2 : Int} (s2 : kR x2) (hI : Gd g h) : Ctr G y_Model_layPlan X_Model_layPlan 1 [.ref (G.2.2.2 184), kI x1, kI x2] h (kQv (fun h' => Fx (fun c i => (c = 187 ∧ 40 ≤ i)) h h' ∧ (Gd g h'))) := by
  refine Ctr.ofK (by decide) rfl T_Model_layPlan (Nat.le_of_ble_eq_true rfl) (lo := [(0, .ref (G.2.2.2 184)), (1, kI x1), (2, kI x2)]) rfl ?_
  have fx : Fx (fun c i => (c = 187 ∧ 40 ≤ i)) h h := Fx.rf
  refine K_iload_n (pc := 0) (i := 0) rfl rfl ?_
  refine K_ist_n (pc := 1) (i := 1) (lo' := [(0, _), (1, _), (2, _), (3, _)]) rfl rfl rfl rfl ?_
  refine K_aload_n (pc := 2) (i := 2) rfl rfl ?_
  refine K_getI (pc := 3) (i := 3) (j := 4) rfl S_184 rfl (by decide) rfl fw_Model_59 ?_
  refine K_nm (fun v3 e3 => ?_)
  have r3 := rd_many hI
  rw [← e3] at r3
  refine K_iconst (pc := 6) (i := 4) rfl ?_
  refine K_isub (pc := 7) (i := 5) rfl ?_
  refine K_ist (pc := 8) (i := 6) (lo' := [(0, _), (1, _), (2, _), (3, _), (4, _)]) rfl rfl rfl rfl ?_
  have L10 : ∀ (n : Nat) (x3 : Int) (x4 : Int) (ha : kH), (x4 + 1).toNat < n → (Gd g ha) → (Fx (fun c i => (c = 187 ∧ 40 ≤ i)) h ha) → ((-1 ≤ x4 ∧ x4 ≤ 7) ∧ kR x3) → K X_Model_layPlan G (kZm G 1 (kQv (fun h' => Fx (fun c i => (c = 187 ∧ 40 ≤ i)) h h' ∧ (Gd g h')))) 10 [(0, .ref (G.2.2.2 184)), (1, kI x1), (2, kI x2), (3, kI x3), (4, kI x4)] [] ha := by
    intro n
    induction n with
    | zero => intro x3 x4 ha hm; exact absurd hm (Nat.not_lt_zero _)
    | succ n ih10 =>
      intro x3 x4 ha hm10 hI fx hV10
      refine K_iload (pc := 10) (i := 7) rfl rfl ?_
      first | refine K_if_lt 95 (pc := 12) (i := 8) rfl rfl (by omega) (fun b12 => ?_) (fun b12 => ?_) | refine K_if_lt_an 95 (pc := 12) (i := 8) rfl rfl (fun b12 => ?_) (fun b12 => ?_)
      · skip
        exact K_retV (pc := 95) (i := 59) rfl rfl ⟨fx, hI⟩
      · skip
        refine K_aload_n (pc := 15) (i := 9) rfl rfl ?_
        refine K_getR (pc := 16) (i := 10) (j := 3) (d := 187) rfl S_184 rfl (by decide) rfl fw_Model_16 ?_
        refine K_iconst (pc := 19) (i := 11) rfl ?_
        refine K_iload (pc := 20) (i := 12) rfl rfl ?_
        refine K_imul (pc := 22) (i := 13) rfl ?_
        refine K_iald (pc := 23) (i := 14) rfl S_187 (by omega) (by omega) (by decide) ?_
        refine K_nm (fun v23 e23 => ?_)
        have r23 := (rd_mkites hI (5 * x4).toNat).1 (by omega)
        rw [← e23] at r23
        refine K_iload_n (pc := 24) (i := 15) rfl rfl ?_
        first | refine K_icmp_ne 89 (pc := 25) (i := 16) rfl rfl (by omega) (by omega) (fun b25 => ?_) (fun b25 => ?_) | refine K_icmp_ne_an 89 (pc := 25) (i := 16) rfl rfl (fun b25 => ?_) (fun b25 => ?_)
        · skip
          refine K_inc (pc := 89) (i := 57) (q := 4) (lo' := [(0, _), (1, _), (2, _), (3, _), (4, _)]) rfl rfl rfl rfl rfl ?_
          refine K_goto 10 (pc := 92) (i := 58) rfl rfl ?_
          exact ih10 x3 (x4 + (-1)) _ (by omega) hI fx (by omega)
        · skip
          refine K_aload_n (pc := 28) (i := 17) rfl rfl ?_
          refine K_getR (pc := 29) (i := 18) (j := 3) (d := 187) rfl S_184 rfl (by decide) rfl fw_Model_16 ?_
          refine K_iconst (pc := 32) (i := 19) rfl ?_
          refine K_iload (pc := 33) (i := 20) rfl rfl ?_
          refine K_imul (pc := 35) (i := 21) rfl ?_
          refine K_iconst (pc := 36) (i := 22) rfl ?_
          refine K_iadd (pc := 37) (i := 23) rfl ?_
          refine K_iald (pc := 38) (i := 24) rfl S_187 (by omega) (by omega) (by decide) ?_
          refine K_nm (fun v38 e38 => ?_)
          have r38 := (rd_mkites hI ((5 * x4) + 3).toNat).2 (by omega)
          rw [← e38] at r38
          refine K_iload_n (pc := 39) (i := 25) rfl rfl ?_
          refine K_iconst (pc := 40) (i := 26) rfl ?_
          refine K_irem (pc := 41) (i := 27) rfl (by omega) (by omega) ?_
          refine K_any (fun v41 r41 => ?_)
          refine K_iadd (pc := 42) (i := 28) rfl ?_
          refine K_iconst (pc := 43) (i := 29) rfl ?_
          refine K_isub (pc := 44) (i := 30) rfl ?_
          refine K_any (fun v44 r44 => ?_)
          refine K_ist (pc := 45) (i := 31) (lo' := [(0, _), (1, _), (2, _), (3, _), (4, _), (5, _)]) rfl rfl rfl rfl ?_
          refine K_aload_n (pc := 47) (i := 32) rfl rfl ?_
          refine K_getR (pc := 48) (i := 33) (j := 3) (d := 187) rfl S_184 rfl (by decide) rfl fw_Model_16 ?_
          refine K_bipush (pc := 51) (i := 34) rfl rfl ?_
          refine K_iconst (pc := 53) (i := 35) rfl ?_
          refine K_iload (pc := 54) (i := 36) rfl rfl ?_
          refine K_imul (pc := 56) (i := 37) rfl ?_
          refine K_iadd (pc := 57) (i := 38) rfl ?_
          refine K_iconst (pc := 58) (i := 39) rfl ?_
          refine K_iadd (pc := 59) (i := 40) rfl ?_
          refine K_iload (pc := 60) (i := 41) rfl rfl ?_
          refine K_iconst (pc := 62) (i := 42) rfl ?_
          first | refine K_icmp_ge 70 (pc := 63) (i := 43) rfl rfl (by omega) (by omega) (fun b63 => ?_) (fun b63 => ?_) | refine K_icmp_ge_an 70 (pc := 63) (i := 43) rfl rfl (fun b63 => ?_) (fun b63 => ?_)
          · skip
            refine K_iload (pc := 70) (i := 46) rfl rfl ?_
            refine K_bipush (pc := 72) (i := 47) rfl rfl ?_
            first | refine K_icmp_le 82 (pc := 74) (i := 48) rfl rfl (by omega) (by omega) (fun b74 => ?_) (fun b74 => ?_) | refine K_icmp_le_an 82 (pc := 74) (i := 48) rfl rfl (fun b74 => ?_) (fun b74 => ?_)
            · skip
              refine K_iload (pc := 82) (i := 51) rfl rfl ?_
              refine K_iast (pc := 84) (i := 52) rfl S_187 (by omega) (by omega) (by decide) ?_
              have hI := st_mkites hI (i := ((40 + (5 * x4)) + 3).toNat) (v := v44) (by unfold bK; omega) (fun _ a => a.hi (rd_many hI).2 (by omega))
              have fx := Fx.st (c := 187) (i := ((40 + (5 * x4)) + 3).toNat) (v := v44) fx (by first | omega | (dsimp only; omega) | exact not_false)
              refine K_iload_n (pc := 85) (i := 53) rfl rfl ?_
              refine K_iconst (pc := 86) (i := 54) rfl ?_
              refine K_idiv (pc := 87) (i := 55) rfl (by omega) (by omega) ?_
              refine K_any (fun v87 r87 => ?_)
              refine K_ist_n (pc := 88) (i := 56) (lo' := [(0, _), (1, _), (2, _), (3, _), (4, _), (5, _)]) rfl rfl rfl rfl ?_
              refine K_inc (pc := 89) (i := 57) (q := 4) (lo' := [(0, _), (1, _), (2, _), (3, _), (4, _), (5, _)]) rfl rfl rfl rfl rfl ?_
              refine K_goto 10 (pc := 92) (i := 58) rfl rfl ?_
              refine K_drop (lo' := [(0, .ref (G.2.2.2 184)), (1, kI x1), (2, kI x2), (3, kI v87), (4, kI (x4 + (-1)))]) [0, 1, 2, 3, 4] rfl ?_
              exact ih10 v87 (x4 + (-1)) _ (by omega) hI fx (by omega)
            · skip
              refine K_bipush (pc := 77) (i := 49) rfl rfl ?_
              refine K_goto 84 (pc := 79) (i := 50) rfl rfl ?_
              refine K_iast (pc := 84) (i := 52) rfl S_187 (by omega) (by omega) (by decide) ?_
              have hI := st_mkites hI (i := ((40 + (5 * x4)) + 3).toNat) (v := 9) (by unfold bK; omega) (fun _ a => a.hi (rd_many hI).2 (by omega))
              have fx := Fx.st (c := 187) (i := ((40 + (5 * x4)) + 3).toNat) (v := 9) fx (by first | omega | (dsimp only; omega) | exact not_false)
              refine K_iload_n (pc := 85) (i := 53) rfl rfl ?_
              refine K_iconst (pc := 86) (i := 54) rfl ?_
              refine K_idiv (pc := 87) (i := 55) rfl (by omega) (by omega) ?_
              refine K_any (fun v87 r87 => ?_)
              refine K_ist_n (pc := 88) (i := 56) (lo' := [(0, _), (1, _), (2, _), (3, _), (4, _), (5, _)]) rfl rfl rfl rfl ?_
              refine K_inc (pc := 89) (i := 57) (q := 4) (lo' := [(0, _), (1, _), (2, _), (3, _), (4, _), (5, _)]) rfl rfl rfl rfl rfl ?_
              refine K_goto 10 (pc := 92) (i := 58) rfl rfl ?_
              refine K_drop (lo' := [(0, .ref (G.2.2.2 184)), (1, kI x1), (2, kI x2), (3, kI v87), (4, kI (x4 + (-1)))]) [0, 1, 2, 3, 4] rfl ?_
              exact ih10 v87 (x4 + (-1)) _ (by omega) hI fx (by omega)
          · skip
            refine K_iconst (pc := 66) (i := 44) rfl ?_
            refine K_goto 84 (pc := 67) (i := 45) rfl rfl ?_
            refine K_iast (pc := 84) (i := 52) rfl S_187 (by omega) (by omega) (by decide) ?_
            have hI := st_mkites hI (i := ((40 + (5 * x4)) + 3).toNat) (v := 1) (by unfold bK; omega) (fun _ a => a.hi (rd_many hI).2 (by omega))
            have fx := Fx.st (c := 187) (i := ((40 + (5 * x4)) + 3).toNat) (v := 1) fx (by first | omega | (dsimp only; omega) | exact not_false)
            refine K_iload_n (pc := 85) (i := 53) rfl rfl ?_
            refine K_iconst (pc := 86) (i := 54) rfl ?_
            refine K_idiv (pc := 87) (i := 55) rfl (by omega) (by omega) ?_
            refine K_any (fun v87 r87 => ?_)
            refine K_ist_n (pc := 88) (i := 56) (lo' := [(0, _), (1, _), (2, _), (3, _), (4, _), (5, _)]) rfl rfl rfl rfl ?_
            refine K_inc (pc := 89) (i := 57) (q := 4) (lo' := [(0, _), (1, _), (2, _), (3, _), (4, _), (5, _)]) rfl rfl rfl rfl rfl ?_
            refine K_goto 10 (pc := 92) (i := 58) rfl rfl ?_
            refine K_drop (lo' := [(0, .ref (G.2.2.2 184)), (1, kI x1), (2, kI x2), (3, kI v87), (4, kI (x4 + (-1)))]) [0, 1, 2, 3, 4] rfl ?_
            exact ih10 v87 (x4 + (-1)) _ (by omega) hI fx (by omega)
  exact L10 _ x2 (v3 - 1) _ (Nat.lt_succ_self _) hI fx (by omega)
set_option maxHeartbeats 4000000 in
set_option maxRecDepth 100000 in
theorem c_Model_layTonight (G : kG) {g : kGh} {h : kH} {x1 : Int} (s1 : 0 ≤ x1 ∧ x1 ≤ 1) (hI : Gd g h) : Ctr G y_Model_layTonight X_Model_layTonight 5 [.ref (G.2.2.2 184), kI x1] h (kQi (fun z h' => Fx (fun c i => (c = 187 ∧ 40 ≤ i) ∨ c = 192 ∨ (c = 184 ∧ i = 15)) h h' ∧ (Gd g h' ∧ kR z))) := by
  refine Ctr.ofK (by decide) rfl T_Model_layTonight (Nat.le_of_ble_eq_true rfl) (lo := [(0, .ref (G.2.2.2 184)), (1, kI x1)]) rfl ?_
  have fx : Fx (fun c i => (c = 187 ∧ 40 ≤ i) ∨ c = 192 ∨ (c = 184 ∧ i = 15)) h h := Fx.rf
  refine K_iconst (pc := 0) (i := 0) rfl ?_
  refine K_ist_n (pc := 1) (i := 1) (lo' := [(0, _), (1, _), (2, _)]) rfl rfl rfl rfl ?_
  refine K_aload_n (pc := 2) (i := 2) rfl rfl ?_
  refine K_bipush (pc := 3) (i := 3) rfl rfl ?_
  refine K_putI (pc := 5) (i := 4) (j := 15) rfl S_184 rfl (by decide) rfl rfl rfl fw_Model_172 ?_
  have hI := st_tonightMost hI (v := -99)
  have fx := Fx.st (c := 184) (i := 15) (v := -99) fx (by first | omega | (dsimp only; omega) | exact not_false)
  refine K_iconst (pc := 8) (i := 5) rfl ?_
  refine K_ist_n (pc := 9) (i := 6) (lo' := [(0, _), (1, _), (2, _), (3, _)]) rfl rfl rfl rfl ?_
  have L10 : ∀ (n : Nat) (x2 : Int) (x3 : Int) (ha : kH), (6561 - x3).toNat < n → (Gd g ha) → (Fx (fun c i => (c = 187 ∧ 40 ≤ i) ∨ c = 192 ∨ (c = 184 ∧ i = 15)) h ha) → (0 ≤ x3 ∧ x3 ≤ 6561) → K X_Model_layTonight G (kZm G 5 (kQi (fun z h' => Fx (fun c i => (c = 187 ∧ 40 ≤ i) ∨ c = 192 ∨ (c = 184 ∧ i = 15)) h h' ∧ (Gd g h' ∧ kR z)))) 10 [(0, .ref (G.2.2.2 184)), (1, kI x1), (2, kI x2), (3, kI x3)] [] ha := by
    intro n
    induction n with
    | zero => intro x2 x3 ha hm; exact absurd hm (Nat.not_lt_zero _)
    | succ n ih10 =>
      intro x2 x3 ha hm10 hI fx hV10
      refine K_iload_n (pc := 10) (i := 7) rfl rfl ?_
      refine K_aload_n (pc := 11) (i := 8) rfl rfl ?_
      refine K_iload_n (pc := 12) (i := 9) rfl rfl ?_
      refine K_cVI (pc := 13) (i := 10) rfl (c_Model_kitesOf G (x1 := x1) (hI := hI)) S_184 rfl (lv_Model_175 rfl) rfl rfl rfl rfl rfl (fun v13 h13 q13 => ?_)
      obtain ⟨eh, r13⟩ := q13
      rw [eh]; clear eh
      refine K_cSI (pc := 16) (i := 11) rfl (c_Model_threeTo G (x0 := v13) (s0 := by omega)) (ls_Model_178 rfl) rfl rfl rfl rfl (fun v16 h16 q16 => ?_)
      obtain ⟨eh, r16⟩ := q16
      rw [eh]; clear eh
      first | refine K_icmp_ge 101 (pc := 19) (i := 12) rfl rfl (by omega) (by omega) (fun b19 => ?_) (fun b19 => ?_) | refine K_icmp_ge_an 101 (pc := 19) (i := 12) rfl rfl (fun b19 => ?_) (fun b19 => ?_)
      · skip
        refine K_iload_n (pc := 101) (i := 56) rfl rfl ?_
        refine K_any (fun v102 r102 => ?_)
        exact K_retI (pc := 102) (i := 57) rfl rfl ⟨fx, ⟨hI, by omega⟩⟩
      · skip
        refine K_aload_n (pc := 22) (i := 13) rfl rfl ?_
        refine K_cVV (pc := 23) (i := 14) rfl (c_Model_copy G (hI := hI)) S_184 rfl (lv_Model_165 rfl) rfl rfl rfl rfl rfl (fun h23 q23 => ?_)
        obtain ⟨fx23, q23⟩ := q23
        obtain ⟨hI, fM23⟩ := q23
        have fx := fx.tr fx23 (fun c i q => (by first | omega | (dsimp only at q ⊢; omega)))
        refine K_aload_n (pc := 26) (i := 15) rfl rfl ?_
        refine K_iload_n (pc := 27) (i := 16) rfl rfl ?_
        refine K_iload_n (pc := 28) (i := 17) rfl rfl ?_
        refine K_cVV (pc := 29) (i := 18) rfl (c_Model_layPlan G (x1 := x1) (x2 := x3) (hI := hI) (s2 := by omega)) S_184 rfl (lv_Model_181 rfl) rfl rfl rfl rfl rfl (fun h29 q29 => ?_)
        obtain ⟨fx29, q29⟩ := q29
        have hI := q29
        have fx := fx.tr fx29 (fun c i q => (by first | omega | (dsimp only at q ⊢; omega)))
        refine K_aload_n (pc := 32) (i := 19) rfl rfl ?_
        refine K_aload_n (pc := 33) (i := 20) rfl rfl ?_
        refine K_getI (pc := 34) (i := 21) (j := 4) rfl S_184 rfl (by decide) rfl fw_Model_59 ?_
        refine K_nm (fun v34 e34 => ?_)
        have r34 := rd_many hI
        rw [← e34] at r34
        refine K_iconst (pc := 37) (i := 22) rfl ?_
        refine K_cVV (pc := 38) (i := 23) rfl (c_Model_blowAll G (x1 := v34) (x2 := 1) (hI := hI) (s1 := by omega) (s2 := by omega)) S_184 rfl (lv_Model_168 rfl) rfl rfl rfl rfl rfl (fun h38 q38 => ?_)
        obtain ⟨fx38, q38⟩ := q38
        obtain ⟨hI, fM38⟩ := q38
        have fx := fx.tr fx38 (fun c i q => (by first | omega | (dsimp only at q ⊢; omega)))
        refine K_aload_n (pc := 41) (i := 24) rfl rfl ?_
        refine K_getR (pc := 42) (i := 25) (j := 14) (d := 192) rfl S_184 rfl (by decide) rfl fw_Model_31 ?_
        refine K_iload_n (pc := 45) (i := 26) rfl rfl ?_
        refine K_iald (pc := 46) (i := 27) rfl S_192 (by omega) (by omega) (by decide) ?_
        refine K_any (fun v46 r46 => ?_)
        refine K_aload_n (pc := 47) (i := 28) rfl rfl ?_
        refine K_getR (pc := 48) (i := 29) (j := 14) (d := 192) rfl S_184 rfl (by decide) rfl fw_Model_31 ?_
        refine K_iconst (pc := 51) (i := 30) rfl ?_
        refine K_iload_n (pc := 52) (i := 31) rfl rfl ?_
        refine K_isub (pc := 53) (i := 32) rfl ?_
        refine K_iald (pc := 54) (i := 33) rfl S_192 (by omega) (by omega) (by decide) ?_
        refine K_any (fun v54 r54 => ?_)
        refine K_isub (pc := 55) (i := 34) rfl ?_
        refine K_ist (pc := 56) (i := 35) (lo' := [(0, _), (1, _), (2, _), (3, _), (4, _)]) rfl rfl rfl rfl ?_
        refine K_iload (pc := 58) (i := 36) rfl rfl ?_
        refine K_aload_n (pc := 60) (i := 37) rfl rfl ?_
        refine K_getI (pc := 61) (i := 38) (j := 15) rfl S_184 rfl (by decide) rfl fw_Model_172 ?_
        refine K_any (fun v61 r61 => ?_)
        first | refine K_icmp_le 71 (pc := 64) (i := 39) rfl rfl (by omega) (by omega) (fun b64 => ?_) (fun b64 => ?_) | refine K_icmp_le_an 71 (pc := 64) (i := 39) rfl rfl (fun b64 => ?_) (fun b64 => ?_)
        · skip
          refine K_iload_n (pc := 71) (i := 42) rfl rfl ?_
          refine K_ist_n (pc := 72) (i := 43) (lo' := [(0, _), (1, _), (2, _), (3, _), (4, _)]) rfl rfl rfl rfl ?_
          refine K_aload_n (pc := 73) (i := 44) rfl rfl ?_
          refine K_iload (pc := 74) (i := 45) rfl rfl ?_
          refine K_aload_n (pc := 76) (i := 46) rfl rfl ?_
          refine K_getI (pc := 77) (i := 47) (j := 15) rfl S_184 rfl (by decide) rfl fw_Model_172 ?_
          refine K_any (fun v77 r77 => ?_)
          first | refine K_icmp_le 88 (pc := 80) (i := 48) rfl rfl (by omega) (by omega) (fun b80 => ?_) (fun b80 => ?_) | refine K_icmp_le_an 88 (pc := 80) (i := 48) rfl rfl (fun b80 => ?_) (fun b80 => ?_)
          · skip
            refine K_aload_n (pc := 88) (i := 51) rfl rfl ?_
            refine K_getI (pc := 89) (i := 52) (j := 15) rfl S_184 rfl (by decide) rfl fw_Model_172 ?_
            refine K_any (fun v89 r89 => ?_)
            refine K_putI (pc := 92) (i := 53) (j := 15) rfl S_184 rfl (by decide) rfl rfl rfl fw_Model_172 ?_
            have hI := st_tonightMost hI (v := v89)
            have fx := Fx.st (c := 184) (i := 15) (v := v89) fx (by first | omega | (dsimp only; omega) | exact not_false)
            refine K_inc (pc := 95) (i := 54) (q := 3) (lo' := [(0, _), (1, _), (2, _), (3, _), (4, _)]) rfl rfl rfl rfl rfl ?_
            refine K_goto 10 (pc := 98) (i := 55) rfl rfl ?_
            refine K_drop (lo' := [(0, .ref (G.2.2.2 184)), (1, kI x1), (2, kI x2), (3, kI (x3 + 1))]) [0, 1, 2, 3] rfl ?_
            exact ih10 x2 (x3 + 1) _ (by omega) hI fx (by omega)
          · skip
            refine K_iload (pc := 83) (i := 49) rfl rfl ?_
            refine K_goto 92 (pc := 85) (i := 50) rfl rfl ?_
            refine K_putI (pc := 92) (i := 53) (j := 15) rfl S_184 rfl (by decide) rfl rfl rfl fw_Model_172 ?_
            have hI := st_tonightMost hI (v := v46 - v54)
            have fx := Fx.st (c := 184) (i := 15) (v := v46 - v54) fx (by first | omega | (dsimp only; omega) | exact not_false)
            refine K_inc (pc := 95) (i := 54) (q := 3) (lo' := [(0, _), (1, _), (2, _), (3, _), (4, _)]) rfl rfl rfl rfl rfl ?_
            refine K_goto 10 (pc := 98) (i := 55) rfl rfl ?_
            refine K_drop (lo' := [(0, .ref (G.2.2.2 184)), (1, kI x1), (2, kI x2), (3, kI (x3 + 1))]) [0, 1, 2, 3] rfl ?_
            exact ih10 x2 (x3 + 1) _ (by omega) hI fx (by omega)
        · skip
          refine K_iload_n (pc := 67) (i := 40) rfl rfl ?_
          refine K_goto 72 (pc := 68) (i := 41) rfl rfl ?_
          refine K_ist_n (pc := 72) (i := 43) (lo' := [(0, _), (1, _), (2, _), (3, _), (4, _)]) rfl rfl rfl rfl ?_
          refine K_aload_n (pc := 73) (i := 44) rfl rfl ?_
          refine K_iload (pc := 74) (i := 45) rfl rfl ?_
          refine K_aload_n (pc := 76) (i := 46) rfl rfl ?_
          refine K_getI (pc := 77) (i := 47) (j := 15) rfl S_184 rfl (by decide) rfl fw_Model_172 ?_
          refine K_any (fun v77 r77 => ?_)
          first | refine K_icmp_le 88 (pc := 80) (i := 48) rfl rfl (by omega) (by omega) (fun b80 => ?_) (fun b80 => ?_) | refine K_icmp_le_an 88 (pc := 80) (i := 48) rfl rfl (fun b80 => ?_) (fun b80 => ?_)
          · skip
            refine K_aload_n (pc := 88) (i := 51) rfl rfl ?_
            refine K_getI (pc := 89) (i := 52) (j := 15) rfl S_184 rfl (by decide) rfl fw_Model_172 ?_
            refine K_any (fun v89 r89 => ?_)
            refine K_putI (pc := 92) (i := 53) (j := 15) rfl S_184 rfl (by decide) rfl rfl rfl fw_Model_172 ?_
            have hI := st_tonightMost hI (v := v89)
            have fx := Fx.st (c := 184) (i := 15) (v := v89) fx (by first | omega | (dsimp only; omega) | exact not_false)
            refine K_inc (pc := 95) (i := 54) (q := 3) (lo' := [(0, _), (1, _), (2, _), (3, _), (4, _)]) rfl rfl rfl rfl rfl ?_
            refine K_goto 10 (pc := 98) (i := 55) rfl rfl ?_
            refine K_drop (lo' := [(0, .ref (G.2.2.2 184)), (1, kI x1), (2, kI x3), (3, kI (x3 + 1))]) [0, 1, 2, 3] rfl ?_
            exact ih10 x3 (x3 + 1) _ (by omega) hI fx (by omega)
          · skip
            refine K_iload (pc := 83) (i := 49) rfl rfl ?_
            refine K_goto 92 (pc := 85) (i := 50) rfl rfl ?_
            refine K_putI (pc := 92) (i := 53) (j := 15) rfl S_184 rfl (by decide) rfl rfl rfl fw_Model_172 ?_
            have hI := st_tonightMost hI (v := v46 - v54)
            have fx := Fx.st (c := 184) (i := 15) (v := v46 - v54) fx (by first | omega | (dsimp only; omega) | exact not_false)
            refine K_inc (pc := 95) (i := 54) (q := 3) (lo' := [(0, _), (1, _), (2, _), (3, _), (4, _)]) rfl rfl rfl rfl rfl ?_
            refine K_goto 10 (pc := 98) (i := 55) rfl rfl ?_
            refine K_drop (lo' := [(0, .ref (G.2.2.2 184)), (1, kI x1), (2, kI x3), (3, kI (x3 + 1))]) [0, 1, 2, 3] rfl ?_
            exact ih10 x3 (x3 + 1) _ (by omega) hI fx (by omega)
  exact L10 _ 0 0 _ (Nat.lt_succ_self _) hI fx (by omega)
set_option maxHeartbeats 4000000 in
set_option maxRecDepth 100000 in
theorem c_Model_worst (G : kG) {g : kGh} {h : kH} {x1 : Int} {x2 : Int} (s1 : 0 ≤ x1 ∧ x1 ≤ 1) (s2 : kR x2) (hI : Gd g h) : Ctr G y_Model_worst X_Model_worst 5 [.ref (G.2.2.2 184), kI x1, kI x2] h (kQi (fun z h' => Fx (fun c i => (c = 187 ∧ 40 ≤ i) ∨ c = 192) h h' ∧ (Gd g h' ∧ kR z))) := by
  refine Ctr.ofK (by decide) rfl T_Model_worst (Nat.le_of_ble_eq_true rfl) (lo := [(0, .ref (G.2.2.2 184)), (1, kI x1), (2, kI x2)]) rfl ?_
  have fx : Fx (fun c i => (c = 187 ∧ 40 ≤ i) ∨ c = 192) h h := Fx.rf
  refine K_bipush (pc := 0) (i := 0) rfl rfl ?_
  refine K_ist_n (pc := 2) (i := 1) (lo' := [(0, _), (1, _), (2, _), (3, _)]) rfl rfl rfl rfl ?_
  refine K_iconst (pc := 3) (i := 2) rfl ?_
  refine K_ist (pc := 4) (i := 3) (lo' := [(0, _), (1, _), (2, _), (3, _), (4, _)]) rfl rfl rfl rfl ?_
  have L6 : ∀ (n : Nat) (x3 : Int) (x4 : Int) (ha : kH), (6561 - x4).toNat < n → (Gd g ha) → (Fx (fun c i => (c = 187 ∧ 40 ≤ i) ∨ c = 192) h ha) → (0 ≤ x4 ∧ x4 ≤ 6561) → K X_Model_worst G (kZm G 5 (kQi (fun z h' => Fx (fun c i => (c = 187 ∧ 40 ≤ i) ∨ c = 192) h h' ∧ (Gd g h' ∧ kR z)))) 6 [(0, .ref (G.2.2.2 184)), (1, kI x1), (2, kI x2), (3, kI x3), (4, kI x4)] [] ha := by
    intro n
    induction n with
    | zero => intro x3 x4 ha hm; exact absurd hm (Nat.not_lt_zero _)
    | succ n ih6 =>
      intro x3 x4 ha hm6 hI fx hV6
      refine K_iload (pc := 6) (i := 4) rfl rfl ?_
      refine K_aload_n (pc := 8) (i := 5) rfl rfl ?_
      refine K_iconst (pc := 9) (i := 6) rfl ?_
      refine K_iload_n (pc := 10) (i := 7) rfl rfl ?_
      refine K_isub (pc := 11) (i := 8) rfl ?_
      refine K_cVI (pc := 12) (i := 9) rfl (c_Model_kitesOf G (x1 := 1 - x1) (hI := hI)) S_184 rfl (lv_Model_175 rfl) rfl rfl rfl rfl rfl (fun v12 h12 q12 => ?_)
      obtain ⟨eh, r12⟩ := q12
      rw [eh]; clear eh
      refine K_cSI (pc := 15) (i := 10) rfl (c_Model_threeTo G (x0 := v12) (s0 := by omega)) (ls_Model_178 rfl) rfl rfl rfl rfl (fun v15 h15 q15 => ?_)
      obtain ⟨eh, r15⟩ := q15
      rw [eh]; clear eh
      first | refine K_icmp_ge 85 (pc := 18) (i := 11) rfl rfl (by omega) (by omega) (fun b18 => ?_) (fun b18 => ?_) | refine K_icmp_ge_an 85 (pc := 18) (i := 11) rfl rfl (fun b18 => ?_) (fun b18 => ?_)
      · skip
        refine K_iload_n (pc := 85) (i := 50) rfl rfl ?_
        refine K_any (fun v86 r86 => ?_)
        exact K_retI (pc := 86) (i := 51) rfl rfl ⟨fx, ⟨hI, by omega⟩⟩
      · skip
        refine K_aload_n (pc := 21) (i := 12) rfl rfl ?_
        refine K_cVV (pc := 22) (i := 13) rfl (c_Model_copy G (hI := hI)) S_184 rfl (lv_Model_165 rfl) rfl rfl rfl rfl rfl (fun h22 q22 => ?_)
        obtain ⟨fx22, q22⟩ := q22
        obtain ⟨hI, fM22⟩ := q22
        have fx := fx.tr fx22 (fun c i q => (by first | omega | (dsimp only at q ⊢; omega)))
        refine K_aload_n (pc := 25) (i := 14) rfl rfl ?_
        refine K_iload_n (pc := 26) (i := 15) rfl rfl ?_
        refine K_iload_n (pc := 27) (i := 16) rfl rfl ?_
        refine K_cVV (pc := 28) (i := 17) rfl (c_Model_layPlan G (x1 := x1) (x2 := x2) (hI := hI) (s2 := by omega)) S_184 rfl (lv_Model_181 rfl) rfl rfl rfl rfl rfl (fun h28 q28 => ?_)
        obtain ⟨fx28, q28⟩ := q28
        have hI := q28
        have fx := fx.tr fx28 (fun c i q => (by first | omega | (dsimp only at q ⊢; omega)))
        refine K_aload_n (pc := 31) (i := 18) rfl rfl ?_
        refine K_iconst (pc := 32) (i := 19) rfl ?_
        refine K_iload_n (pc := 33) (i := 20) rfl rfl ?_
        refine K_isub (pc := 34) (i := 21) rfl ?_
        refine K_iload (pc := 35) (i := 22) rfl rfl ?_
        refine K_cVV (pc := 37) (i := 23) rfl (c_Model_layPlan G (x1 := 1 - x1) (x2 := x4) (hI := hI) (s2 := by omega)) S_184 rfl (lv_Model_181 rfl) rfl rfl rfl rfl rfl (fun h37 q37 => ?_)
        obtain ⟨fx37, q37⟩ := q37
        have hI := q37
        have fx := fx.tr fx37 (fun c i q => (by first | omega | (dsimp only at q ⊢; omega)))
        refine K_aload_n (pc := 40) (i := 24) rfl rfl ?_
        refine K_aload_n (pc := 41) (i := 25) rfl rfl ?_
        refine K_getI (pc := 42) (i := 26) (j := 4) rfl S_184 rfl (by decide) rfl fw_Model_59 ?_
        refine K_nm (fun v42 e42 => ?_)
        have r42 := rd_many hI
        rw [← e42] at r42
        refine K_iconst (pc := 45) (i := 27) rfl ?_
        refine K_cVV (pc := 46) (i := 28) rfl (c_Model_blowAll G (x1 := v42) (x2 := 1) (hI := hI) (s1 := by omega) (s2 := by omega)) S_184 rfl (lv_Model_168 rfl) rfl rfl rfl rfl rfl (fun h46 q46 => ?_)
        obtain ⟨fx46, q46⟩ := q46
        obtain ⟨hI, fM46⟩ := q46
        have fx := fx.tr fx46 (fun c i q => (by first | omega | (dsimp only at q ⊢; omega)))
        refine K_aload_n (pc := 49) (i := 29) rfl rfl ?_
        refine K_getR (pc := 50) (i := 30) (j := 14) (d := 192) rfl S_184 rfl (by decide) rfl fw_Model_31 ?_
        refine K_iload_n (pc := 53) (i := 31) rfl rfl ?_
        refine K_iald (pc := 54) (i := 32) rfl S_192 (by omega) (by omega) (by decide) ?_
        refine K_any (fun v54 r54 => ?_)
        refine K_aload_n (pc := 55) (i := 33) rfl rfl ?_
        refine K_getR (pc := 56) (i := 34) (j := 14) (d := 192) rfl S_184 rfl (by decide) rfl fw_Model_31 ?_
        refine K_iconst (pc := 59) (i := 35) rfl ?_
        refine K_iload_n (pc := 60) (i := 36) rfl rfl ?_
        refine K_isub (pc := 61) (i := 37) rfl ?_
        refine K_iald (pc := 62) (i := 38) rfl S_192 (by omega) (by omega) (by decide) ?_
        refine K_any (fun v62 r62 => ?_)
        refine K_isub (pc := 63) (i := 39) rfl ?_
        refine K_ist (pc := 64) (i := 40) (lo' := [(0, _), (1, _), (2, _), (3, _), (4, _), (5, _)]) rfl rfl rfl rfl ?_
        refine K_iload (pc := 66) (i := 41) rfl rfl ?_
        refine K_iload_n (pc := 68) (i := 42) rfl rfl ?_
        first | refine K_icmp_ge 77 (pc := 69) (i := 43) rfl rfl (by omega) (by omega) (fun b69 => ?_) (fun b69 => ?_) | refine K_icmp_ge_an 77 (pc := 69) (i := 43) rfl rfl (fun b69 => ?_) (fun b69 => ?_)
        · skip
          refine K_iload_n (pc := 77) (i := 46) rfl rfl ?_
          refine K_ist_n (pc := 78) (i := 47) (lo' := [(0, _), (1, _), (2, _), (3, _), (4, _), (5, _)]) rfl rfl rfl rfl ?_
          refine K_inc (pc := 79) (i := 48) (q := 4) (lo' := [(0, _), (1, _), (2, _), (3, _), (4, _), (5, _)]) rfl rfl rfl rfl rfl ?_
          refine K_goto 6 (pc := 82) (i := 49) rfl rfl ?_
          refine K_drop (lo' := [(0, .ref (G.2.2.2 184)), (1, kI x1), (2, kI x2), (3, kI x3), (4, kI (x4 + 1))]) [0, 1, 2, 3, 4] rfl ?_
          exact ih6 x3 (x4 + 1) _ (by omega) hI fx (by omega)
        · skip
          refine K_iload (pc := 72) (i := 44) rfl rfl ?_
          refine K_goto 78 (pc := 74) (i := 45) rfl rfl ?_
          refine K_ist_n (pc := 78) (i := 47) (lo' := [(0, _), (1, _), (2, _), (3, _), (4, _), (5, _)]) rfl rfl rfl rfl ?_
          refine K_inc (pc := 79) (i := 48) (q := 4) (lo' := [(0, _), (1, _), (2, _), (3, _), (4, _), (5, _)]) rfl rfl rfl rfl rfl ?_
          refine K_goto 6 (pc := 82) (i := 49) rfl rfl ?_
          refine K_drop (lo' := [(0, .ref (G.2.2.2 184)), (1, kI x1), (2, kI x2), (3, kI (v54 - v62)), (4, kI (x4 + 1))]) [0, 1, 2, 3, 4] rfl ?_
          exact ih6 (v54 - v62) (x4 + 1) _ (by omega) hI fx (by omega)
  exact L6 _ 99 0 _ (Nat.lt_succ_self _) hI fx (by omega)
