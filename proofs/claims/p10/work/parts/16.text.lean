set_option maxHeartbeats 4000000 in
set_option maxRecDepth 100000 in
theorem c_War_isWithin (G : kG)  {h : kH} {x0 : Int} {x1 : Int} {x2 : Int} (s0 : kR x0) (s1 : kR x1) (s2 : kR x2) : Ctr G y_War_isWithin X_War_isWithin 1 [kI x0, kI x1, kI x2] h (kQi (fun z h' => h' = h ∧ ((z = 1 ∧ x1 ≤ x0 ∧ x0 ≤ x2) ∨ (z = 0 ∧ (x0 < x1 ∨ x2 < x0))))) := by
  refine Ctr.ofK (by decide) rfl T_War_isWithin (Nat.le_of_ble_eq_true rfl) (lo := [(0, kI x0), (1, kI x1), (2, kI x2)]) rfl ?_
  refine K_iload_n (pc := 0) (i := 0) rfl rfl ?_
  refine K_iload_n (pc := 1) (i := 1) rfl rfl ?_
  first | refine K_icmp_lt 14 (pc := 2) (i := 2) rfl rfl (by omega) (by omega) (fun b2 => ?_) (fun b2 => ?_) | refine K_icmp_lt_an 14 (pc := 2) (i := 2) rfl rfl (fun b2 => ?_) (fun b2 => ?_)
  · skip
    refine K_iconst (pc := 14) (i := 8) rfl ?_
    exact K_retZ (pc := 15) (i := 9) rfl rfl (by omega) ⟨rfl, by omega⟩
  · skip
    refine K_iload_n (pc := 5) (i := 3) rfl rfl ?_
    refine K_iload_n (pc := 6) (i := 4) rfl rfl ?_
    first | refine K_icmp_gt 14 (pc := 7) (i := 5) rfl rfl (by omega) (by omega) (fun b7 => ?_) (fun b7 => ?_) | refine K_icmp_gt_an 14 (pc := 7) (i := 5) rfl rfl (fun b7 => ?_) (fun b7 => ?_)
    · skip
      refine K_iconst (pc := 14) (i := 8) rfl ?_
      exact K_retZ (pc := 15) (i := 9) rfl rfl (by omega) ⟨rfl, by omega⟩
    · skip
      refine K_iconst (pc := 10) (i := 6) rfl ?_
      refine K_goto 15 (pc := 11) (i := 7) rfl rfl ?_
      exact K_retZ (pc := 15) (i := 9) rfl rfl (by omega) ⟨rfl, by omega⟩
set_option maxHeartbeats 4000000 in
set_option maxRecDepth 100000 in
theorem c_War_isTown (G : kG)  {h : kH} {x0 : Int} (s0 : kR x0) : Ctr G y_War_isTown X_War_isTown 2 [kI x0] h (kQi (fun z h' => h' = h ∧ ((z = 1 ∧ 0 ≤ x0 ∧ x0 ≤ 1) ∨ (z = 0 ∧ (x0 < 0 ∨ 1 < x0))))) := by
  refine Ctr.ofK (by decide) rfl T_War_isTown (Nat.le_of_ble_eq_true rfl) (lo := [(0, kI x0)]) rfl ?_
  refine K_iload_n (pc := 0) (i := 0) rfl rfl ?_
  refine K_iconst (pc := 1) (i := 1) rfl ?_
  refine K_iconst (pc := 2) (i := 2) rfl ?_
  refine K_cSI (pc := 3) (i := 3) rfl (c_War_isWithin G (x0 := x0) (x1 := 0) (x2 := 1) (s0 := by omega) (s1 := by omega) (s2 := by omega)) (ls_War_124 rfl) rfl rfl rfl rfl (fun v3 h3 q3 => ?_)
  obtain ⟨eh, r3⟩ := q3
  rw [eh]; clear eh
  exact K_retZ (pc := 6) (i := 4) rfl rfl (by omega) ⟨rfl, by omega⟩
set_option maxHeartbeats 4000000 in
set_option maxRecDepth 100000 in
theorem c_War_isStake (G : kG)  {h : kH} {x0 : Int} (s0 : kR x0) : Ctr G y_War_isStake X_War_isStake 2 [kI x0] h (kQi (fun z h' => h' = h ∧ ((z = 1 ∧ 0 ≤ x0 ∧ x0 ≤ 40) ∨ (z = 0 ∧ (x0 < 0 ∨ 40 < x0))))) := by
  refine Ctr.ofK (by decide) rfl T_War_isStake (Nat.le_of_ble_eq_true rfl) (lo := [(0, kI x0)]) rfl ?_
  refine K_iload_n (pc := 0) (i := 0) rfl rfl ?_
  refine K_iconst (pc := 1) (i := 1) rfl ?_
  refine K_bipush (pc := 2) (i := 2) rfl rfl ?_
  refine K_cSI (pc := 4) (i := 3) rfl (c_War_isWithin G (x0 := x0) (x1 := 0) (x2 := 40) (s0 := by omega) (s1 := by omega) (s2 := by omega)) (ls_War_124 rfl) rfl rfl rfl rfl (fun v4 h4 q4 => ?_)
  obtain ⟨eh, r4⟩ := q4
  rw [eh]; clear eh
  exact K_retZ (pc := 7) (i := 4) rfl rfl (by omega) ⟨rfl, by omega⟩
set_option maxHeartbeats 4000000 in
set_option maxRecDepth 100000 in
theorem c_War_isHeight (G : kG)  {h : kH} {x0 : Int} (s0 : kR x0) : Ctr G y_War_isHeight X_War_isHeight 2 [kI x0] h (kQi (fun z h' => h' = h ∧ ((z = 1 ∧ 1 ≤ x0 ∧ x0 ≤ 9) ∨ (z = 0 ∧ (x0 < 1 ∨ 9 < x0))))) := by
  refine Ctr.ofK (by decide) rfl T_War_isHeight (Nat.le_of_ble_eq_true rfl) (lo := [(0, kI x0)]) rfl ?_
  refine K_iload_n (pc := 0) (i := 0) rfl rfl ?_
  refine K_iconst (pc := 1) (i := 1) rfl ?_
  refine K_bipush (pc := 2) (i := 2) rfl rfl ?_
  refine K_cSI (pc := 4) (i := 3) rfl (c_War_isWithin G (x0 := x0) (x1 := 1) (x2 := 9) (s0 := by omega) (s1 := by omega) (s2 := by omega)) (ls_War_124 rfl) rfl rfl rfl rfl (fun v4 h4 q4 => ?_)
  obtain ⟨eh, r4⟩ := q4
  rw [eh]; clear eh
  exact K_retZ (pc := 7) (i := 4) rfl rfl (by omega) ⟨rfl, by omega⟩
set_option maxHeartbeats 4000000 in
set_option maxRecDepth 100000 in
theorem c_War_isGlass (G : kG)  {h : kH} {x0 : Int} (s0 : kR x0) : Ctr G y_War_isGlass X_War_isGlass 2 [kI x0] h (kQi (fun z h' => h' = h ∧ ((z = 1 ∧ 0 ≤ x0 ∧ x0 ≤ 9) ∨ (z = 0 ∧ (x0 < 0 ∨ 9 < x0))))) := by
  refine Ctr.ofK (by decide) rfl T_War_isGlass (Nat.le_of_ble_eq_true rfl) (lo := [(0, kI x0)]) rfl ?_
  refine K_iload_n (pc := 0) (i := 0) rfl rfl ?_
  refine K_iconst (pc := 1) (i := 1) rfl ?_
  refine K_bipush (pc := 2) (i := 2) rfl rfl ?_
  refine K_cSI (pc := 4) (i := 3) rfl (c_War_isWithin G (x0 := x0) (x1 := 0) (x2 := 9) (s0 := by omega) (s1 := by omega) (s2 := by omega)) (ls_War_124 rfl) rfl rfl rfl rfl (fun v4 h4 q4 => ?_)
  obtain ⟨eh, r4⟩ := q4
  rw [eh]; clear eh
  exact K_retZ (pc := 7) (i := 4) rfl rfl (by omega) ⟨rfl, by omega⟩
set_option maxHeartbeats 4000000 in
set_option maxRecDepth 100000 in
theorem c_Text_figure (G : kG) {g : kGh} {h : kH} {x1 : Int} (s1 : 0 ≤ x1 ∧ x1 ≤ 73) (hI : Gd g h) : Ctr G y_Text_figure X_Text_figure 1 [.ref (G.2.2.2 1), kI x1] h (kQi (fun z h' => h' = h ∧ z = h 2 x1.toNat - 48 ∧ -48 ≤ z ∧ z ≤ 207)) := by
  refine Ctr.ofK (by decide) rfl T_Text_figure (Nat.le_of_ble_eq_true rfl) (lo := [(0, .ref (G.2.2.2 1)), (1, kI x1)]) rfl ?_
  refine K_aload_n (pc := 0) (i := 0) rfl rfl ?_
  refine K_getR (pc := 1) (i := 1) (j := 0) (d := 2) rfl S_1 rfl (by decide) rfl fw_Text_11 ?_
  refine K_iload_n (pc := 4) (i := 2) rfl rfl ?_
  refine K_iald (pc := 5) (i := 3) rfl S_2 (by omega) (by omega) (by decide) ?_
  refine K_nm (fun v5 e5 => ?_)
  have r5 := rd_bytes hI (x1).toNat
  rw [← e5] at r5
  refine K_bipush (pc := 6) (i := 4) rfl rfl ?_
  refine K_isub (pc := 8) (i := 5) rfl ?_
  exact K_retI (pc := 9) (i := 6) rfl rfl ⟨rfl, by rw [e5], by omega⟩
set_option maxHeartbeats 4000000 in
set_option maxRecDepth 100000 in
theorem c_Text_pair (G : kG) {g : kGh} {h : kH} {x1 : Int} (s1 : 0 ≤ x1 ∧ x1 ≤ 72) (hI : Gd g h) : Ctr G y_Text_pair X_Text_pair 2 [.ref (G.2.2.2 1), kI x1] h (kQi (fun z h' => h' = h ∧ z = prI (h 2) x1 ∧ -528 ≤ z ∧ z ≤ 2277)) := by
  refine Ctr.ofK (by decide) rfl T_Text_pair (Nat.le_of_ble_eq_true rfl) (lo := [(0, .ref (G.2.2.2 1)), (1, kI x1)]) rfl ?_
  refine K_bipush (pc := 0) (i := 0) rfl rfl ?_
  refine K_aload_n (pc := 2) (i := 1) rfl rfl ?_
  refine K_iload_n (pc := 3) (i := 2) rfl rfl ?_
  refine K_cVI (pc := 4) (i := 3) rfl (c_Text_figure G (x1 := x1) (hI := hI) (s1 := by omega)) S_1 rfl (lv_Text_27 rfl) rfl rfl rfl rfl rfl (fun v4 h4 q4 => ?_)
  obtain ⟨eh, r4⟩ := q4
  rw [eh]; clear eh
  refine K_imul (pc := 7) (i := 4) rfl ?_
  refine K_aload_n (pc := 8) (i := 5) rfl rfl ?_
  refine K_iload_n (pc := 9) (i := 6) rfl rfl ?_
  refine K_iconst (pc := 10) (i := 7) rfl ?_
  refine K_iadd (pc := 11) (i := 8) rfl ?_
  refine K_cVI (pc := 12) (i := 9) rfl (c_Text_figure G (x1 := x1 + 1) (hI := hI) (s1 := by omega)) S_1 rfl (lv_Text_27 rfl) rfl rfl rfl rfl rfl (fun v12 h12 q12 => ?_)
  obtain ⟨eh, r12⟩ := q12
  rw [eh]; clear eh
  refine K_iadd (pc := 15) (i := 10) rfl ?_
  exact K_retI (pc := 16) (i := 11) rfl rfl ⟨rfl, by unfold prI; omega, by omega⟩
set_option maxHeartbeats 4000000 in
set_option maxRecDepth 100000 in
theorem c_Text_placeOf (G : kG)  {h : kH} {x0 : Int} : Ctr G y_Text_placeOf X_Text_placeOf 1 [kI x0] h (kQi (fun z h' => h' = h ∧ z = 10 + x0 * 8)) := by
  refine Ctr.ofK (by decide) rfl T_Text_placeOf (Nat.le_of_ble_eq_true rfl) (lo := [(0, kI x0)]) rfl ?_
  refine K_bipush (pc := 0) (i := 0) rfl rfl ?_
  refine K_iload_n (pc := 2) (i := 1) rfl rfl ?_
  refine K_bipush (pc := 3) (i := 2) rfl rfl ?_
  refine K_imul (pc := 5) (i := 3) rfl ?_
  refine K_iadd (pc := 6) (i := 4) rfl ?_
  exact K_retI (pc := 7) (i := 5) rfl rfl ⟨rfl, rfl⟩
set_option maxHeartbeats 4000000 in
set_option maxRecDepth 100000 in
theorem c_Text_isFigure (G : kG) {g : kGh} {h : kH} {x1 : Int} {x2 : Int} {x3 : Int} (s1 : 0 ≤ x1 ∧ x1 ≤ 73) (s2 : kR x2) (s3 : kR x3) (hI : Gd g h) : Ctr G y_Text_isFigure X_Text_isFigure 2 [.ref (G.2.2.2 1), kI x1, kI x2, kI x3] h (kQi (fun z h' => h' = h ∧ ((z = 1 ∧ x2 ≤ h 2 x1.toNat - 48 ∧ h 2 x1.toNat - 48 ≤ x3) ∨ (z = 0 ∧ (h 2 x1.toNat - 48 < x2 ∨ x3 < h 2 x1.toNat - 48))))) := by
  refine Ctr.ofK (by decide) rfl T_Text_isFigure (Nat.le_of_ble_eq_true rfl) (lo := [(0, .ref (G.2.2.2 1)), (1, kI x1), (2, kI x2), (3, kI x3)]) rfl ?_
  refine K_aload_n (pc := 0) (i := 0) rfl rfl ?_
  refine K_iload_n (pc := 1) (i := 1) rfl rfl ?_
  refine K_cVI (pc := 2) (i := 2) rfl (c_Text_figure G (x1 := x1) (hI := hI) (s1 := by omega)) S_1 rfl (lv_Text_27 rfl) rfl rfl rfl rfl rfl (fun v2 h2 q2 => ?_)
  obtain ⟨eh, r2⟩ := q2
  rw [eh]; clear eh
  refine K_iload_n (pc := 5) (i := 3) rfl rfl ?_
  refine K_iload_n (pc := 6) (i := 4) rfl rfl ?_
  refine K_cNI (pc := 7) (i := 5) rfl (c_War_isWithin G (x0 := v2) (x1 := x2) (x2 := x3) (s0 := by omega) (s1 := by omega) (s2 := by omega)) (ls_Text_65 rfl) rfl rfl rfl rfl (fun v7 h7 q7 => ?_)
  obtain ⟨eh, r7⟩ := q7
  rw [eh]; clear eh
  exact K_retZ (pc := 10) (i := 6) rfl rfl (by omega) ⟨rfl, by omega⟩
set_option maxHeartbeats 4000000 in
set_option maxRecDepth 100000 in
theorem c_Text_isFreeStake (G : kG) {g : kGh} {h : kH} {x1 : Int} {x2 : Int} (s1 : 0 ≤ x1 ∧ x1 ≤ 8) (s2 : kR x2) (hI : Gd g h) : Ctr G y_Text_isFreeStake X_Text_isFreeStake 3 [.ref (G.2.2.2 1), kI x1, kI x2] h (kQi (fun z h' => h' = h ∧ ((z = 1 ∧ frS (h 2) x1 x2) ∨ (z = 0 ∧ ¬ frS (h 2) x1 x2)))) := by
  refine Ctr.ofK (by decide) rfl T_Text_isFreeStake (Nat.le_of_ble_eq_true rfl) (lo := [(0, .ref (G.2.2.2 1)), (1, kI x1), (2, kI x2)]) rfl ?_
  refine K_iload_n (pc := 0) (i := 0) rfl rfl ?_
  refine K_cNI (pc := 1) (i := 1) rfl (c_War_isStake G (x0 := x2) (s0 := by omega)) (ls_Text_41 rfl) rfl rfl rfl rfl (fun v1 h1 q1 => ?_)
  obtain ⟨eh, r1⟩ := q1
  rw [eh]; clear eh
  first | refine K_if_ne 9 (pc := 4) (i := 2) rfl rfl (by omega) (fun b4 => ?_) (fun b4 => ?_) | refine K_if_ne_an 9 (pc := 4) (i := 2) rfl rfl (fun b4 => ?_) (fun b4 => ?_)
  · skip
    refine K_iconst (pc := 9) (i := 5) rfl ?_
    refine K_ist_n (pc := 10) (i := 6) (lo' := [(0, _), (1, _), (2, _), (3, _)]) rfl rfl rfl rfl ?_
    have L11 : ∀ (n : Nat) (x3 : Int), (8 - x3).toNat < n → ((0 ≤ x3 ∧ x3 ≤ x1) ∧ ∀ e : Int, 0 ≤ e → e < x3 → prI (h 2) (10 + e * 8 + 2) ≠ x2) → K X_Text_isFreeStake G (kZm G 3 (kQi (fun z h' => h' = h ∧ ((z = 1 ∧ frS (h 2) x1 x2) ∨ (z = 0 ∧ ¬ frS (h 2) x1 x2))))) 11 [(0, .ref (G.2.2.2 1)), (1, kI x1), (2, kI x2), (3, kI x3)] [] h := by
      intro n
      induction n with
      | zero => intro x3 hm; exact absurd hm (Nat.not_lt_zero _)
      | succ n ih11 =>
        intro x3 hm11 hV11
        refine K_iload_n (pc := 11) (i := 7) rfl rfl ?_
        refine K_iload_n (pc := 12) (i := 8) rfl rfl ?_
        first | refine K_icmp_ge 38 (pc := 13) (i := 9) rfl rfl (by omega) (by omega) (fun b13 => ?_) (fun b13 => ?_) | refine K_icmp_ge_an 38 (pc := 13) (i := 9) rfl rfl (fun b13 => ?_) (fun b13 => ?_)
        · skip
          refine K_iconst (pc := 38) (i := 22) rfl ?_
          exact K_retZ (pc := 39) (i := 23) rfl rfl (by omega) ⟨rfl, Or.inl ⟨rfl, ⟨by omega, fun e a b => hV11.2 e a (by omega)⟩⟩⟩
        · skip
          refine K_aload_n (pc := 16) (i := 10) rfl rfl ?_
          refine K_iload_n (pc := 17) (i := 11) rfl rfl ?_
          refine K_cSI (pc := 18) (i := 12) rfl (c_Text_placeOf G (x0 := x3)) (ls_Text_44 rfl) rfl rfl rfl rfl (fun v18 h18 q18 => ?_)
          obtain ⟨eh, r18⟩ := q18
          rw [eh]; clear eh
          refine K_iconst (pc := 21) (i := 13) rfl ?_
          refine K_iadd (pc := 22) (i := 14) rfl ?_
          refine K_cVI (pc := 23) (i := 15) rfl (c_Text_pair G (x1 := v18 + 2) (hI := hI) (s1 := by omega)) S_1 rfl (lv_Text_35 rfl) rfl rfl rfl rfl rfl (fun v23 h23 q23 => ?_)
          obtain ⟨eh, r23⟩ := q23
          rw [eh]; clear eh
          refine K_iload_n (pc := 26) (i := 16) rfl rfl ?_
          first | refine K_icmp_ne 32 (pc := 27) (i := 17) rfl rfl (by omega) (by omega) (fun b27 => ?_) (fun b27 => ?_) | refine K_icmp_ne_an 32 (pc := 27) (i := 17) rfl rfl (fun b27 => ?_) (fun b27 => ?_)
          · skip
            refine K_inc (pc := 32) (i := 20) (q := 3) (lo' := [(0, _), (1, _), (2, _), (3, _)]) rfl rfl rfl rfl rfl ?_
            refine K_goto 11 (pc := 35) (i := 21) rfl rfl ?_
            exact ih11 (x3 + 1) (by omega) ⟨by omega, fun e a b => if q : e = x3 then (by rw [q]; rw [show (10 : Int) + x3 * 8 + 2 = v18 + 2 by omega, ← r23.1]; omega) else hV11.2 e a (by omega)⟩
          · skip
            refine K_iconst (pc := 30) (i := 18) rfl ?_
            exact K_retZ (pc := 31) (i := 19) rfl rfl (by omega) ⟨rfl, Or.inr ⟨rfl, fun q => q.2 x3 (by omega) (by omega) (by rw [show (10 : Int) + x3 * 8 + 2 = v18 + 2 by omega, ← r23.1]; omega)⟩⟩
    exact L11 _ 0 (Nat.lt_succ_self _) ⟨by omega, fun e a b => absurd a (by omega)⟩
  · skip
    refine K_iconst (pc := 7) (i := 3) rfl ?_
    exact K_retZ (pc := 8) (i := 4) rfl rfl (by omega) ⟨rfl, Or.inr ⟨rfl, fun q => absurd q.1 (by omega)⟩⟩
set_option maxHeartbeats 4000000 in
set_option maxRecDepth 100000 in
theorem c_Text_hasFreeStake (G : kG) {g : kGh} {h : kH} {x1 : Int} {x2 : Int} (s1 : 0 ≤ x1 ∧ x1 ≤ 8) (s2 : -1000 ≤ x2 ∧ x2 ≤ 1000) (hI : Gd g h) : Ctr G y_Text_hasFreeStake X_Text_hasFreeStake 4 [.ref (G.2.2.2 1), kI x1, kI x2] h (kQi (fun z h' => h' = h ∧ ((z = 1 ∧ hfS (h 2) x1 x2) ∨ (z = 0 ∧ ¬ hfS (h 2) x1 x2)))) := by
  refine Ctr.ofK (by decide) rfl T_Text_hasFreeStake (Nat.le_of_ble_eq_true rfl) (lo := [(0, .ref (G.2.2.2 1)), (1, kI x1), (2, kI x2)]) rfl ?_
  refine K_iconst (pc := 0) (i := 0) rfl ?_
  refine K_ist_n (pc := 1) (i := 1) (lo' := [(0, _), (1, _), (2, _), (3, _)]) rfl rfl rfl rfl ?_
  have L2 : ∀ (n : Nat) (x3 : Int), (10 - x3).toNat < n → ((0 ≤ x3 ∧ x3 ≤ 10) ∧ ∀ o : Int, 0 ≤ o → o < x3 → ¬ frS (h 2) x1 (10 * x2 + o)) → K X_Text_hasFreeStake G (kZm G 4 (kQi (fun z h' => h' = h ∧ ((z = 1 ∧ hfS (h 2) x1 x2) ∨ (z = 0 ∧ ¬ hfS (h 2) x1 x2))))) 2 [(0, .ref (G.2.2.2 1)), (1, kI x1), (2, kI x2), (3, kI x3)] [] h := by
    intro n
    induction n with
    | zero => intro x3 hm; exact absurd hm (Nat.not_lt_zero _)
    | succ n ih2 =>
      intro x3 hm2 hV2
      refine K_iload_n (pc := 2) (i := 2) rfl rfl ?_
      refine K_bipush (pc := 3) (i := 3) rfl rfl ?_
      first | refine K_icmp_gt 30 (pc := 5) (i := 4) rfl rfl (by omega) (by omega) (fun b5 => ?_) (fun b5 => ?_) | refine K_icmp_gt_an 30 (pc := 5) (i := 4) rfl rfl (fun b5 => ?_) (fun b5 => ?_)
      · skip
        refine K_iconst (pc := 30) (i := 18) rfl ?_
        exact K_retZ (pc := 31) (i := 19) rfl rfl (by omega) ⟨rfl, Or.inr ⟨rfl, fun ⟨o, a, b⟩ => hV2.2 o a.1 (by omega) b⟩⟩
      · skip
        refine K_aload_n (pc := 8) (i := 5) rfl rfl ?_
        refine K_iload_n (pc := 9) (i := 6) rfl rfl ?_
        refine K_bipush (pc := 10) (i := 7) rfl rfl ?_
        refine K_iload_n (pc := 12) (i := 8) rfl rfl ?_
        refine K_imul (pc := 13) (i := 9) rfl ?_
        refine K_iload_n (pc := 14) (i := 10) rfl rfl ?_
        refine K_iadd (pc := 15) (i := 11) rfl ?_
        refine K_cVI (pc := 16) (i := 12) rfl (c_Text_isFreeStake G (x1 := x1) (x2 := (10 * x2) + x3) (hI := hI) (s1 := by omega) (s2 := by omega)) S_1 rfl (lv_Text_38 rfl) rfl rfl rfl rfl rfl (fun v16 h16 q16 => ?_)
        obtain ⟨eh, r16⟩ := q16
        rw [eh]; clear eh
        first | refine K_if_eq 24 (pc := 19) (i := 13) rfl rfl (by omega) (fun b19 => ?_) (fun b19 => ?_) | refine K_if_eq_an 24 (pc := 19) (i := 13) rfl rfl (fun b19 => ?_) (fun b19 => ?_)
        · skip
          refine K_inc (pc := 24) (i := 16) (q := 3) (lo' := [(0, _), (1, _), (2, _), (3, _)]) rfl rfl rfl rfl rfl ?_
          refine K_goto 2 (pc := 27) (i := 17) rfl rfl ?_
          exact ih2 (x3 + 1) (by omega) ⟨by omega, fun o a b => if q : o = x3 then (by rw [q]; exact r16.elim (fun e => absurd e.1 (by omega)) (fun e => e.2)) else hV2.2 o a (by omega)⟩
        · skip
          refine K_iconst (pc := 22) (i := 14) rfl ?_
          exact K_retZ (pc := 23) (i := 15) rfl rfl (by omega) ⟨rfl, Or.inl ⟨rfl, x3, by omega, r16.elim (fun e => e.2) (fun e => absurd e.1 (by omega))⟩⟩
  exact L2 _ 0 (Nat.lt_succ_self _) ⟨by omega, fun e a b => absurd a (by omega)⟩
theorem may_of {z : Int} {P Q : Prop} (e : P ↔ Q) (h : (z = 1 ∧ Q) ∨ (z = 0 ∧ ¬ Q)) : (z = 1 ∧ P) ∨ (z = 0 ∧ ¬ P) := by rw [e]; exact h
set_option maxHeartbeats 4000000 in
set_option maxRecDepth 100000 in
theorem c_Text_mayStand (G : kG) {g : kGh} {h : kH} {x1 : Int} (s1 : 0 ≤ x1 ∧ x1 ≤ 73) (hI : Gd g h) : Ctr G y_Text_mayStand X_Text_mayStand 5 [.ref (G.2.2.2 1), kI x1] h (kQi (fun z h' => h' = h ∧ ((z = 1 ∧ mayS (h 2) x1) ∨ (z = 0 ∧ ¬ mayS (h 2) x1)))) := by
  refine Ctr.ofK (by decide) rfl T_Text_mayStand (Nat.le_of_ble_eq_true rfl) (lo := [(0, .ref (G.2.2.2 1)), (1, kI x1)]) rfl ?_
  refine K_iload_n (pc := 0) (i := 0) rfl rfl ?_
  first | refine K_if_ne 21 (pc := 1) (i := 1) rfl rfl (by omega) (fun b1 => ?_) (fun b1 => ?_) | refine K_if_ne_an 21 (pc := 1) (i := 1) rfl rfl (fun b1 => ?_) (fun b1 => ?_)
  · skip
    refine K_iload_n (pc := 21) (i := 12) rfl rfl ?_
    refine K_bipush (pc := 22) (i := 13) rfl rfl ?_
    first | refine K_icmp_ge 36 (pc := 24) (i := 14) rfl rfl (by omega) (by omega) (fun b24 => ?_) (fun b24 => ?_) | refine K_icmp_ge_an 36 (pc := 24) (i := 14) rfl rfl (fun b24 => ?_) (fun b24 => ?_)
    · skip
      refine K_iload_n (pc := 36) (i := 21) rfl rfl ?_
      refine K_bipush (pc := 37) (i := 22) rfl rfl ?_
      refine K_isub (pc := 39) (i := 23) rfl ?_
      refine K_bipush (pc := 40) (i := 24) rfl rfl ?_
      refine K_idiv (pc := 42) (i := 25) rfl (by omega) (by omega) ?_
      refine K_eq (kDiv_eq (by omega) (by omega) (by omega) (by omega)) ?_
      refine K_ist_n (pc := 43) (i := 26) (lo' := [(0, _), (1, _), (2, _)]) rfl rfl rfl rfl ?_
      refine K_iload_n (pc := 44) (i := 27) rfl rfl ?_
      refine K_bipush (pc := 45) (i := 28) rfl rfl ?_
      refine K_isub (pc := 47) (i := 29) rfl ?_
      refine K_bipush (pc := 48) (i := 30) rfl rfl ?_
      refine K_irem (pc := 50) (i := 31) rfl (by omega) (by omega) ?_
      refine K_eq (kRem_eq (by omega) (by omega) (by omega) (by omega)) ?_
      by_cases sw51 : (0 : Int) ≤ (x1 - 10) % 8 ∧ (x1 - 10) % 8 ≤ 6
      · skip
        rcases (show (x1 - 10) % 8 = 0 ∨ (x1 - 10) % 8 = 1 ∨ (x1 - 10) % 8 = 2 ∨ (x1 - 10) % 8 = 3 ∨ (x1 - 10) % 8 = 4 ∨ (x1 - 10) % 8 = 5 ∨ (x1 - 10) % 8 = 6 by omega) with sx51 | sx51 | sx51 | sx51 | sx51 | sx51 | sx51
        · refine K_tableIn 92 (by omega) (pc := 51) (i := 32) rfl (by omega) (by omega) (by rw [sx51]; rfl) rfl ?_
          refine K_aload_n (pc := 92) (i := 33) rfl rfl ?_
          refine K_getR (pc := 93) (i := 34) (j := 0) (d := 2) rfl S_1 rfl (by decide) rfl fw_Text_11 ?_
          refine K_iload_n (pc := 96) (i := 35) rfl rfl ?_
          refine K_iald (pc := 97) (i := 36) rfl S_2 (by omega) (by omega) (by decide) ?_
          refine K_nm (fun v97 e97 => ?_)
          have r97 := rd_bytes hI (x1).toNat
          rw [← e97] at r97
          refine K_bipush (pc := 98) (i := 37) rfl rfl ?_
          first | refine K_icmp_ne 107 (pc := 100) (i := 38) rfl rfl (by omega) (by omega) (fun b100 => ?_) (fun b100 => ?_) | refine K_icmp_ne_an 107 (pc := 100) (i := 38) rfl rfl (fun b100 => ?_) (fun b100 => ?_)
          · skip
            refine K_iconst (pc := 107) (i := 41) rfl ?_
            exact K_retZ (pc := 108) (i := 42) rfl rfl (by omega) ⟨rfl, may_of (mayS_r0 (by omega) (by omega)) (by omega)⟩
          · skip
            refine K_iconst (pc := 103) (i := 39) rfl ?_
            refine K_goto 108 (pc := 104) (i := 40) rfl rfl ?_
            exact K_retZ (pc := 108) (i := 42) rfl rfl (by omega) ⟨rfl, may_of (mayS_r0 (by omega) (by omega)) (by omega)⟩
        · refine K_tableIn 109 (by omega) (pc := 51) (i := 32) rfl (by omega) (by omega) (by rw [sx51]; rfl) rfl ?_
          refine K_aload_n (pc := 109) (i := 43) rfl rfl ?_
          refine K_iload_n (pc := 110) (i := 44) rfl rfl ?_
          refine K_iconst (pc := 111) (i := 45) rfl ?_
          refine K_iconst (pc := 112) (i := 46) rfl ?_
          refine K_cVI (pc := 113) (i := 47) rfl (c_Text_isFigure G (x1 := x1) (x2 := 0) (x3 := 1) (hI := hI) (s1 := by omega) (s2 := by omega) (s3 := by omega)) S_1 rfl (lv_Text_23 rfl) rfl rfl rfl rfl rfl (fun v113 h113 q113 => ?_)
          obtain ⟨eh, r113⟩ := q113
          rw [eh]; clear eh
          exact K_retZ (pc := 116) (i := 48) rfl rfl (by omega) ⟨rfl, may_of (mayS_r1 (by omega) (by omega)) (by omega)⟩
        · refine K_tableIn 117 (by omega) (pc := 51) (i := 32) rfl (by omega) (by omega) (by rw [sx51]; rfl) rfl ?_
          refine K_aload_n (pc := 117) (i := 49) rfl rfl ?_
          refine K_iload_n (pc := 118) (i := 50) rfl rfl ?_
          refine K_iconst (pc := 119) (i := 51) rfl ?_
          refine K_iconst (pc := 120) (i := 52) rfl ?_
          refine K_cVI (pc := 121) (i := 53) rfl (c_Text_isFigure G (x1 := x1) (x2 := 0) (x3 := 4) (hI := hI) (s1 := by omega) (s2 := by omega) (s3 := by omega)) S_1 rfl (lv_Text_23 rfl) rfl rfl rfl rfl rfl (fun v121 h121 q121 => ?_)
          obtain ⟨eh, r121⟩ := q121
          rw [eh]; clear eh
          first | refine K_if_eq 144 (pc := 124) (i := 54) rfl rfl (by omega) (fun b124 => ?_) (fun b124 => ?_) | refine K_if_eq_an 144 (pc := 124) (i := 54) rfl rfl (fun b124 => ?_) (fun b124 => ?_)
          · skip
            refine K_iconst (pc := 144) (i := 64) rfl ?_
            exact K_retZ (pc := 145) (i := 65) rfl rfl (by omega) ⟨rfl, may_of (mayS_r2 (by omega) (by omega)) (by first | exact Or.inl ⟨rfl, by omega, r134.elim (fun e => e.2) (fun e => absurd e.1 (by omega))⟩ | exact Or.inr ⟨rfl, fun q => r134.elim (fun e => absurd e.1 (by omega)) (fun e => e.2 q.2)⟩ | exact Or.inr ⟨rfl, fun q => absurd q.1 (by omega)⟩)⟩
          · skip
            refine K_aload_n (pc := 127) (i := 55) rfl rfl ?_
            refine K_iload_n (pc := 128) (i := 56) rfl rfl ?_
            refine K_aload_n (pc := 129) (i := 57) rfl rfl ?_
            refine K_iload_n (pc := 130) (i := 58) rfl rfl ?_
            refine K_cVI (pc := 131) (i := 59) rfl (c_Text_figure G (x1 := x1) (hI := hI) (s1 := by omega)) S_1 rfl (lv_Text_27 rfl) rfl rfl rfl rfl rfl (fun v131 h131 q131 => ?_)
            obtain ⟨eh, r131⟩ := q131
            rw [eh]; clear eh
            refine K_cVI (pc := 134) (i := 60) rfl (c_Text_hasFreeStake G (x1 := (x1 - 10) / 8) (x2 := v131) (hI := hI) (s1 := by omega) (s2 := by omega)) S_1 rfl (lv_Text_31 rfl) rfl rfl rfl rfl rfl (fun v134 h134 q134 => ?_)
            obtain ⟨eh, r134⟩ := q134
            rw [eh]; clear eh
            rw [r131.1] at r134
            first | refine K_if_eq 144 (pc := 137) (i := 61) rfl rfl (by omega) (fun b137 => ?_) (fun b137 => ?_) | refine K_if_eq_an 144 (pc := 137) (i := 61) rfl rfl (fun b137 => ?_) (fun b137 => ?_)
            · skip
              refine K_iconst (pc := 144) (i := 64) rfl ?_
              exact K_retZ (pc := 145) (i := 65) rfl rfl (by omega) ⟨rfl, may_of (mayS_r2 (by omega) (by omega)) (by first | exact Or.inl ⟨rfl, by omega, r134.elim (fun e => e.2) (fun e => absurd e.1 (by omega))⟩ | exact Or.inr ⟨rfl, fun q => r134.elim (fun e => absurd e.1 (by omega)) (fun e => e.2 q.2)⟩ | exact Or.inr ⟨rfl, fun q => absurd q.1 (by omega)⟩)⟩
            · skip
              refine K_iconst (pc := 140) (i := 62) rfl ?_
              refine K_goto 145 (pc := 141) (i := 63) rfl rfl ?_
              exact K_retZ (pc := 145) (i := 65) rfl rfl (by omega) ⟨rfl, may_of (mayS_r2 (by omega) (by omega)) (by first | exact Or.inl ⟨rfl, by omega, r134.elim (fun e => e.2) (fun e => absurd e.1 (by omega))⟩ | exact Or.inr ⟨rfl, fun q => r134.elim (fun e => absurd e.1 (by omega)) (fun e => e.2 q.2)⟩ | exact Or.inr ⟨rfl, fun q => absurd q.1 (by omega)⟩)⟩
        · refine K_tableIn 146 (by omega) (pc := 51) (i := 32) rfl (by omega) (by omega) (by rw [sx51]; rfl) rfl ?_
          refine K_aload_n (pc := 146) (i := 66) rfl rfl ?_
          refine K_iload_n (pc := 147) (i := 67) rfl rfl ?_
          refine K_iconst (pc := 148) (i := 68) rfl ?_
          refine K_bipush (pc := 149) (i := 69) rfl rfl ?_
          refine K_cVI (pc := 151) (i := 70) rfl (c_Text_isFigure G (x1 := x1) (x2 := 0) (x3 := 9) (hI := hI) (s1 := by omega) (s2 := by omega) (s3 := by omega)) S_1 rfl (lv_Text_23 rfl) rfl rfl rfl rfl rfl (fun v151 h151 q151 => ?_)
          obtain ⟨eh, r151⟩ := q151
          rw [eh]; clear eh
          first | refine K_if_eq 176 (pc := 154) (i := 71) rfl rfl (by omega) (fun b154 => ?_) (fun b154 => ?_) | refine K_if_eq_an 176 (pc := 154) (i := 71) rfl rfl (fun b154 => ?_) (fun b154 => ?_)
          · skip
            refine K_iconst (pc := 176) (i := 83) rfl ?_
            exact K_retZ (pc := 177) (i := 84) rfl rfl (by omega) ⟨rfl, may_of (mayS_r3 (by omega) (by omega)) (by first | exact Or.inl ⟨rfl, by omega, r166.elim (fun e => e.2) (fun e => absurd e.1 (by omega))⟩ | exact Or.inr ⟨rfl, fun q => r166.elim (fun e => absurd e.1 (by omega)) (fun e => e.2 q.2)⟩ | exact Or.inr ⟨rfl, fun q => absurd q.1 (by omega)⟩)⟩
          · skip
            refine K_aload_n (pc := 157) (i := 72) rfl rfl ?_
            refine K_iload_n (pc := 158) (i := 73) rfl rfl ?_
            refine K_aload_n (pc := 159) (i := 74) rfl rfl ?_
            refine K_iload_n (pc := 160) (i := 75) rfl rfl ?_
            refine K_iconst (pc := 161) (i := 76) rfl ?_
            refine K_isub (pc := 162) (i := 77) rfl ?_
            refine K_cVI (pc := 163) (i := 78) rfl (c_Text_pair G (x1 := x1 - 1) (hI := hI) (s1 := by omega)) S_1 rfl (lv_Text_35 rfl) rfl rfl rfl rfl rfl (fun v163 h163 q163 => ?_)
            obtain ⟨eh, r163⟩ := q163
            rw [eh]; clear eh
            refine K_cVI (pc := 166) (i := 79) rfl (c_Text_isFreeStake G (x1 := (x1 - 10) / 8) (x2 := v163) (hI := hI) (s1 := by omega) (s2 := by omega)) S_1 rfl (lv_Text_38 rfl) rfl rfl rfl rfl rfl (fun v166 h166 q166 => ?_)
            obtain ⟨eh, r166⟩ := q166
            rw [eh]; clear eh
            rw [r163.1] at r166
            first | refine K_if_eq 176 (pc := 169) (i := 80) rfl rfl (by omega) (fun b169 => ?_) (fun b169 => ?_) | refine K_if_eq_an 176 (pc := 169) (i := 80) rfl rfl (fun b169 => ?_) (fun b169 => ?_)
            · skip
              refine K_iconst (pc := 176) (i := 83) rfl ?_
              exact K_retZ (pc := 177) (i := 84) rfl rfl (by omega) ⟨rfl, may_of (mayS_r3 (by omega) (by omega)) (by first | exact Or.inl ⟨rfl, by omega, r166.elim (fun e => e.2) (fun e => absurd e.1 (by omega))⟩ | exact Or.inr ⟨rfl, fun q => r166.elim (fun e => absurd e.1 (by omega)) (fun e => e.2 q.2)⟩ | exact Or.inr ⟨rfl, fun q => absurd q.1 (by omega)⟩)⟩
            · skip
              refine K_iconst (pc := 172) (i := 81) rfl ?_
              refine K_goto 177 (pc := 173) (i := 82) rfl rfl ?_
              exact K_retZ (pc := 177) (i := 84) rfl rfl (by omega) ⟨rfl, may_of (mayS_r3 (by omega) (by omega)) (by first | exact Or.inl ⟨rfl, by omega, r166.elim (fun e => e.2) (fun e => absurd e.1 (by omega))⟩ | exact Or.inr ⟨rfl, fun q => r166.elim (fun e => absurd e.1 (by omega)) (fun e => e.2 q.2)⟩ | exact Or.inr ⟨rfl, fun q => absurd q.1 (by omega)⟩)⟩
        · refine K_tableIn 178 (by omega) (pc := 51) (i := 32) rfl (by omega) (by omega) (by rw [sx51]; rfl) rfl ?_
          refine K_aload_n (pc := 178) (i := 85) rfl rfl ?_
          refine K_iload_n (pc := 179) (i := 86) rfl rfl ?_
          refine K_iconst (pc := 180) (i := 87) rfl ?_
          refine K_iconst (pc := 181) (i := 88) rfl ?_
          refine K_cVI (pc := 182) (i := 89) rfl (c_Text_isFigure G (x1 := x1) (x2 := 0) (x3 := 4) (hI := hI) (s1 := by omega) (s2 := by omega) (s3 := by omega)) S_1 rfl (lv_Text_23 rfl) rfl rfl rfl rfl rfl (fun v182 h182 q182 => ?_)
          obtain ⟨eh, r182⟩ := q182
          rw [eh]; clear eh
          exact K_retZ (pc := 185) (i := 90) rfl rfl (by omega) ⟨rfl, may_of (mayS_r4 (by omega) (by omega)) (by omega)⟩
        · refine K_tableIn 186 (by omega) (pc := 51) (i := 32) rfl (by omega) (by omega) (by rw [sx51]; rfl) rfl ?_
          refine K_aload_n (pc := 186) (i := 91) rfl rfl ?_
          refine K_iload_n (pc := 187) (i := 92) rfl rfl ?_
          refine K_iconst (pc := 188) (i := 93) rfl ?_
          refine K_bipush (pc := 189) (i := 94) rfl rfl ?_
          refine K_cVI (pc := 191) (i := 95) rfl (c_Text_isFigure G (x1 := x1) (x2 := 0) (x3 := 9) (hI := hI) (s1 := by omega) (s2 := by omega) (s3 := by omega)) S_1 rfl (lv_Text_23 rfl) rfl rfl rfl rfl rfl (fun v191 h191 q191 => ?_)
          obtain ⟨eh, r191⟩ := q191
          rw [eh]; clear eh
          first | refine K_if_eq 213 (pc := 194) (i := 96) rfl rfl (by omega) (fun b194 => ?_) (fun b194 => ?_) | refine K_if_eq_an 213 (pc := 194) (i := 96) rfl rfl (fun b194 => ?_) (fun b194 => ?_)
          · skip
            refine K_iconst (pc := 213) (i := 106) rfl ?_
            exact K_retZ (pc := 214) (i := 107) rfl rfl (by omega) ⟨rfl, may_of (mayS_r5 (by omega) (by omega)) (by omega)⟩
          · skip
            refine K_aload_n (pc := 197) (i := 97) rfl rfl ?_
            refine K_iload_n (pc := 198) (i := 98) rfl rfl ?_
            refine K_iconst (pc := 199) (i := 99) rfl ?_
            refine K_isub (pc := 200) (i := 100) rfl ?_
            refine K_cVI (pc := 201) (i := 101) rfl (c_Text_pair G (x1 := x1 - 1) (hI := hI) (s1 := by omega)) S_1 rfl (lv_Text_35 rfl) rfl rfl rfl rfl rfl (fun v201 h201 q201 => ?_)
            obtain ⟨eh, r201⟩ := q201
            rw [eh]; clear eh
            refine K_bipush (pc := 204) (i := 102) rfl rfl ?_
            first | refine K_icmp_gt 213 (pc := 206) (i := 103) rfl rfl (by omega) (by omega) (fun b206 => ?_) (fun b206 => ?_) | refine K_icmp_gt_an 213 (pc := 206) (i := 103) rfl rfl (fun b206 => ?_) (fun b206 => ?_)
            · skip
              refine K_iconst (pc := 213) (i := 106) rfl ?_
              exact K_retZ (pc := 214) (i := 107) rfl rfl (by omega) ⟨rfl, may_of (mayS_r5 (by omega) (by omega)) (by omega)⟩
            · skip
              refine K_iconst (pc := 209) (i := 104) rfl ?_
              refine K_goto 214 (pc := 210) (i := 105) rfl rfl ?_
              exact K_retZ (pc := 214) (i := 107) rfl rfl (by omega) ⟨rfl, may_of (mayS_r5 (by omega) (by omega)) (by omega)⟩
        · refine K_tableIn 215 (by omega) (pc := 51) (i := 32) rfl (by omega) (by omega) (by rw [sx51]; rfl) rfl ?_
          refine K_aload_n (pc := 215) (i := 108) rfl rfl ?_
          refine K_iload_n (pc := 216) (i := 109) rfl rfl ?_
          refine K_iconst (pc := 217) (i := 110) rfl ?_
          refine K_bipush (pc := 218) (i := 111) rfl rfl ?_
          refine K_cVI (pc := 220) (i := 112) rfl (c_Text_isFigure G (x1 := x1) (x2 := 1) (x3 := 9) (hI := hI) (s1 := by omega) (s2 := by omega) (s3 := by omega)) S_1 rfl (lv_Text_23 rfl) rfl rfl rfl rfl rfl (fun v220 h220 q220 => ?_)
          obtain ⟨eh, r220⟩ := q220
          rw [eh]; clear eh
          exact K_retZ (pc := 223) (i := 113) rfl rfl (by omega) ⟨rfl, may_of (mayS_r6 (by omega) (by omega)) (by omega)⟩
      · refine K_tableOut 224 (by omega) (pc := 51) (i := 32) rfl (by omega) rfl ?_
        refine K_aload_n (pc := 224) (i := 114) rfl rfl ?_
        refine K_iload_n (pc := 225) (i := 115) rfl rfl ?_
        refine K_iconst (pc := 226) (i := 116) rfl ?_
        refine K_bipush (pc := 227) (i := 117) rfl rfl ?_
        refine K_cVI (pc := 229) (i := 118) rfl (c_Text_isFigure G (x1 := x1) (x2 := 0) (x3 := 9) (hI := hI) (s1 := by omega) (s2 := by omega) (s3 := by omega)) S_1 rfl (lv_Text_23 rfl) rfl rfl rfl rfl rfl (fun v229 h229 q229 => ?_)
        obtain ⟨eh, r229⟩ := q229
        rw [eh]; clear eh
        exact K_retZ (pc := 232) (i := 119) rfl rfl (by omega) ⟨rfl, may_of (mayS_r7 (by omega) (by omega)) (by omega)⟩
    · skip
      refine K_aload_n (pc := 27) (i := 15) rfl rfl ?_
      refine K_iload_n (pc := 28) (i := 16) rfl rfl ?_
      refine K_iconst (pc := 29) (i := 17) rfl ?_
      refine K_bipush (pc := 30) (i := 18) rfl rfl ?_
      refine K_cVI (pc := 32) (i := 19) rfl (c_Text_isFigure G (x1 := x1) (x2 := 0) (x3 := 6) (hI := hI) (s1 := by omega) (s2 := by omega) (s3 := by omega)) S_1 rfl (lv_Text_23 rfl) rfl rfl rfl rfl rfl (fun v32 h32 q32 => ?_)
      obtain ⟨eh, r32⟩ := q32
      rw [eh]; clear eh
      exact K_retZ (pc := 35) (i := 20) rfl rfl (by omega) ⟨rfl, may_of (mayS_h (by omega) (by omega)) (by omega)⟩
  · skip
    refine K_aload_n (pc := 4) (i := 2) rfl rfl ?_
    refine K_getR (pc := 5) (i := 3) (j := 0) (d := 2) rfl S_1 rfl (by decide) rfl fw_Text_11 ?_
    refine K_iload_n (pc := 8) (i := 4) rfl rfl ?_
    refine K_iald (pc := 9) (i := 5) rfl S_2 (by omega) (by omega) (by decide) ?_
    refine K_nm (fun v9 e9 => ?_)
    have r9 := rd_bytes hI (x1).toNat
    rw [← e9] at r9
    refine K_bipush (pc := 10) (i := 6) rfl rfl ?_
    first | refine K_icmp_ne 19 (pc := 12) (i := 7) rfl rfl (by omega) (by omega) (fun b12 => ?_) (fun b12 => ?_) | refine K_icmp_ne_an 19 (pc := 12) (i := 7) rfl rfl (fun b12 => ?_) (fun b12 => ?_)
    · skip
      refine K_iconst (pc := 19) (i := 10) rfl ?_
      exact K_retZ (pc := 20) (i := 11) rfl rfl (by omega) ⟨rfl, may_of (mayS_0 (by omega)) (by omega)⟩
    · skip
      refine K_iconst (pc := 15) (i := 8) rfl ?_
      refine K_goto 20 (pc := 16) (i := 9) rfl rfl ?_
      exact K_retZ (pc := 20) (i := 11) rfl rfl (by omega) ⟨rfl, may_of (mayS_0 (by omega)) (by omega)⟩
/-- the text's bytes may stand, as far as n -/
def TxOk (h : kH) (n : Int) : Prop := ∀ x1 : Int, 0 ≤ x1 → x1 < n → mayS (h 2) x1
theorem FaultIs.none {b : Nat → Int} {len z : Int} (a : FaultIs b len z) (hz : z = -9) : (10 ≤ len ∧ (len - 10) % 8 = 0) ∧ ∀ j, 0 ≤ j → j < len → mayS b j := by
  rcases a with a | a
  · omega
  · exact ⟨a.2.2, a.2.1⟩
set_option maxHeartbeats 4000000 in
set_option maxRecDepth 100000 in
theorem c_Text_firstFault (G : kG) {g : kGh} {h : kH}  (hI : Gd g h) : Ctr G y_Text_firstFault X_Text_firstFault 6 [.ref (G.2.2.2 1)] h (kQi (fun z h' => h' = h ∧ (-9 ≤ z ∧ z ≤ 74) ∧ FaultIs (h 2) (h 1 1) z)) := by
  refine Ctr.ofK (by decide) rfl T_Text_firstFault (Nat.le_of_ble_eq_true rfl) (lo := [(0, .ref (G.2.2.2 1))]) rfl ?_
  refine K_iconst (pc := 0) (i := 0) rfl ?_
  refine K_ist_n (pc := 1) (i := 1) (lo' := [(0, _), (1, _)]) rfl rfl rfl rfl ?_
  have L2 : ∀ (n : Nat) (x1 : Int), (74 - x1).toNat < n → ((0 ≤ x1 ∧ x1 ≤ h 1 1) ∧ ∀ x : Int, 0 ≤ x → x < x1 → mayS (h 2) x) → K X_Text_firstFault G (kZm G 6 (kQi (fun z h' => h' = h ∧ (-9 ≤ z ∧ z ≤ 74) ∧ FaultIs (h 2) (h 1 1) z))) 2 [(0, .ref (G.2.2.2 1)), (1, kI x1)] [] h := by
    intro n
    induction n with
    | zero => intro x1 hm; exact absurd hm (Nat.not_lt_zero _)
    | succ n ih2 =>
      intro x1 hm2 hV2
      refine K_iload_n (pc := 2) (i := 2) rfl rfl ?_
      refine K_aload_n (pc := 3) (i := 3) rfl rfl ?_
      refine K_getI (pc := 4) (i := 4) (j := 1) rfl S_1 rfl (by decide) rfl fw_Text_15 ?_
      refine K_nm (fun v4 e4 => ?_)
      have r4 := rd_len hI
      rw [← e4] at r4
      first | refine K_icmp_ge 26 (pc := 7) (i := 5) rfl rfl (by omega) (by omega) (fun b7 => ?_) (fun b7 => ?_) | refine K_icmp_ge_an 26 (pc := 7) (i := 5) rfl rfl (fun b7 => ?_) (fun b7 => ?_)
      · skip
        refine K_aload_n (pc := 26) (i := 14) rfl rfl ?_
        refine K_getI (pc := 27) (i := 15) (j := 1) rfl S_1 rfl (by decide) rfl fw_Text_15 ?_
        refine K_nm (fun v27 e27 => ?_)
        have r27 := rd_len hI
        rw [← e27] at r27
        refine K_bipush (pc := 30) (i := 16) rfl rfl ?_
        first | refine K_icmp_lt 52 (pc := 32) (i := 17) rfl rfl (by omega) (by omega) (fun b32 => ?_) (fun b32 => ?_) | refine K_icmp_lt_an 52 (pc := 32) (i := 17) rfl rfl (fun b32 => ?_) (fun b32 => ?_)
        · skip
          refine K_iconst (pc := 52) (i := 27) rfl ?_
          refine K_ist_n (pc := 53) (i := 28) (lo' := [(0, _), (1, _)]) rfl rfl rfl rfl ?_
          refine K_iload_n (pc := 54) (i := 29) rfl rfl ?_
          refine K_if_eq 63 (pc := 55) (i := 30) rfl rfl (by omega) (fun _ => ?_) (fun b55 => False.elim (by omega))
          refine K_aload_n (pc := 63) (i := 33) rfl rfl ?_
          refine K_getI (pc := 64) (i := 34) (j := 1) rfl S_1 rfl (by decide) rfl fw_Text_15 ?_
          refine K_nm (fun v64 e64 => ?_)
          have r64 := rd_len hI
          rw [← e64] at r64
          exact K_retI (pc := 67) (i := 35) rfl rfl ⟨rfl, by omega, by first | exact Or.inr ⟨rfl, fun j a b => hV2.2 j a (by omega), by omega, by omega⟩ | exact Or.inl ⟨⟨by omega, by omega⟩, fun j a b => hV2.2 j a (by omega), Or.inr ⟨by omega, by omega⟩⟩⟩
        · skip
          refine K_aload_n (pc := 35) (i := 18) rfl rfl ?_
          refine K_getI (pc := 36) (i := 19) (j := 1) rfl S_1 rfl (by decide) rfl fw_Text_15 ?_
          refine K_nm (fun v36 e36 => ?_)
          have r36 := rd_len hI
          rw [← e36] at r36
          refine K_bipush (pc := 39) (i := 20) rfl rfl ?_
          refine K_isub (pc := 41) (i := 21) rfl ?_
          refine K_bipush (pc := 42) (i := 22) rfl rfl ?_
          refine K_irem (pc := 44) (i := 23) rfl (by omega) (by omega) ?_
          refine K_eq (kRem_eq (by omega) (by omega) (by omega) (by omega)) ?_
          first | refine K_if_ne 52 (pc := 45) (i := 24) rfl rfl (by omega) (fun b45 => ?_) (fun b45 => ?_) | refine K_if_ne_an 52 (pc := 45) (i := 24) rfl rfl (fun b45 => ?_) (fun b45 => ?_)
          · skip
            refine K_iconst (pc := 52) (i := 27) rfl ?_
            refine K_ist_n (pc := 53) (i := 28) (lo' := [(0, _), (1, _)]) rfl rfl rfl rfl ?_
            refine K_iload_n (pc := 54) (i := 29) rfl rfl ?_
            refine K_if_eq 63 (pc := 55) (i := 30) rfl rfl (by omega) (fun _ => ?_) (fun b55 => False.elim (by omega))
            refine K_aload_n (pc := 63) (i := 33) rfl rfl ?_
            refine K_getI (pc := 64) (i := 34) (j := 1) rfl S_1 rfl (by decide) rfl fw_Text_15 ?_
            refine K_nm (fun v64 e64 => ?_)
            have r64 := rd_len hI
            rw [← e64] at r64
            exact K_retI (pc := 67) (i := 35) rfl rfl ⟨rfl, by omega, by first | exact Or.inr ⟨rfl, fun j a b => hV2.2 j a (by omega), by omega, by omega⟩ | exact Or.inl ⟨⟨by omega, by omega⟩, fun j a b => hV2.2 j a (by omega), Or.inr ⟨by omega, by omega⟩⟩⟩
          · skip
            refine K_iconst (pc := 48) (i := 25) rfl ?_
            refine K_goto 53 (pc := 49) (i := 26) rfl rfl ?_
            refine K_ist_n (pc := 53) (i := 28) (lo' := [(0, _), (1, _)]) rfl rfl rfl rfl ?_
            refine K_iload_n (pc := 54) (i := 29) rfl rfl ?_
            refine K_if_eq 63 (pc := 55) (i := 30) rfl rfl (by omega) (fun b55 => False.elim (by omega)) (fun _ => ?_)
            refine K_bipush (pc := 58) (i := 31) rfl rfl ?_
            refine K_goto 67 (pc := 60) (i := 32) rfl rfl ?_
            exact K_retI (pc := 67) (i := 35) rfl rfl ⟨rfl, by omega, by first | exact Or.inr ⟨rfl, fun j a b => hV2.2 j a (by omega), by omega, by omega⟩ | exact Or.inl ⟨⟨by omega, by omega⟩, fun j a b => hV2.2 j a (by omega), Or.inr ⟨by omega, by omega⟩⟩⟩
      · skip
        refine K_aload_n (pc := 10) (i := 6) rfl rfl ?_
        refine K_iload_n (pc := 11) (i := 7) rfl rfl ?_
        refine K_cVI (pc := 12) (i := 8) rfl (c_Text_mayStand G (x1 := x1) (hI := hI) (s1 := by omega)) S_1 rfl (lv_Text_19 rfl) rfl rfl rfl rfl rfl (fun v12 h12 q12 => ?_)
        obtain ⟨eh, r12⟩ := q12
        rw [eh]; clear eh
        first | refine K_if_ne 20 (pc := 15) (i := 9) rfl rfl (by omega) (fun b15 => ?_) (fun b15 => ?_) | refine K_if_ne_an 20 (pc := 15) (i := 9) rfl rfl (fun b15 => ?_) (fun b15 => ?_)
        · skip
          refine K_inc (pc := 20) (i := 12) (q := 1) (lo' := [(0, _), (1, _)]) rfl rfl rfl rfl rfl ?_
          refine K_goto 2 (pc := 23) (i := 13) rfl rfl ?_
          exact ih2 (x1 + 1) (by omega) ⟨by omega, fun x a b => if q : x = x1 then (by rw [q]; exact r12.elim (fun e => e.2) (fun e => absurd e.1 (by omega))) else hV2.2 x a (by omega)⟩
        · skip
          refine K_iload_n (pc := 18) (i := 10) rfl rfl ?_
          exact K_retI (pc := 19) (i := 11) rfl rfl ⟨rfl, by omega, Or.inl ⟨⟨by omega, by omega⟩, hV2.2, Or.inl ⟨by omega, r12.elim (fun e => absurd e.1 (by omega)) (fun e => e.2)⟩⟩⟩
  exact L2 _ 0 (Nat.lt_succ_self _) ⟨by have := rd_len hI; omega, fun x a b => absurd a (by omega)⟩
