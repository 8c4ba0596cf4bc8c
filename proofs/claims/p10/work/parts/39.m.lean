set_option maxHeartbeats 4000000 in
set_option maxRecDepth 100000 in
theorem c_Model_common (G : kG)  {h : kH} {x0 : Int} {x1 : Int} (s0 : -1000000000 ≤ x0 ∧ x0 ≤ 1000000000) (s1 : -1000000000 ≤ x1 ∧ x1 ≤ 1000000000) (hne : x0 ≠ 0 ∨ x1 ≠ 0) : Ctr G y_Model_common X_Model_common 1 [kI x0, kI x1] h (kQi (fun z h' => h' = h ∧ kR z ∧ z ≠ 0)) := by
  refine Ctr.ofK (by decide) rfl T_Model_common (Nat.le_of_ble_eq_true rfl) (lo := [(0, kI x0), (1, kI x1)]) rfl ?_
  refine K_iload_n (pc := 0) (i := 0) rfl rfl ?_
  first | refine K_if_ge 9 (pc := 1) (i := 1) rfl rfl (by omega) (fun b1 => ?_) (fun b1 => ?_) | refine K_if_ge_an 9 (pc := 1) (i := 1) rfl rfl (fun b1 => ?_) (fun b1 => ?_)
  · skip
    refine K_iload_n (pc := 9) (i := 5) rfl rfl ?_
    refine K_ist_n (pc := 10) (i := 6) (lo' := [(0, _), (1, _), (2, _)]) rfl rfl rfl rfl ?_
    refine K_iload_n (pc := 11) (i := 7) rfl rfl ?_
    first | refine K_if_ge 20 (pc := 12) (i := 8) rfl rfl (by omega) (fun b12 => ?_) (fun b12 => ?_) | refine K_if_ge_an 20 (pc := 12) (i := 8) rfl rfl (fun b12 => ?_) (fun b12 => ?_)
    · skip
      refine K_iload_n (pc := 20) (i := 12) rfl rfl ?_
      refine K_ist_n (pc := 21) (i := 13) (lo' := [(0, _), (1, _), (2, _), (3, _)]) rfl rfl rfl rfl ?_
      have L22 : ∀ (n : Nat) (x2 : Int) (x3 : Int), x3.toNat < n → ((0 ≤ x2 ∧ kR x2) ∧ (0 ≤ x3 ∧ kR x3) ∧ (x2 ≠ 0 ∨ x3 ≠ 0)) → K X_Model_common G (kZm G 1 (kQi (fun z h' => h' = h ∧ kR z ∧ z ≠ 0))) 22 [(0, kI x0), (1, kI x1), (2, kI x2), (3, kI x3)] [] h := by
        intro n
        induction n with
        | zero => intro x2 x3 hm; exact absurd hm (Nat.not_lt_zero _)
        | succ n ih22 =>
          intro x2 x3 hm22 hV22
          refine K_iload_n (pc := 22) (i := 14) rfl rfl ?_
          first | refine K_if_eq 39 (pc := 23) (i := 15) rfl rfl (by omega) (fun b23 => ?_) (fun b23 => ?_) | refine K_if_eq_an 39 (pc := 23) (i := 15) rfl rfl (fun b23 => ?_) (fun b23 => ?_)
          · skip
            refine K_iload_n (pc := 39) (i := 25) rfl rfl ?_
            exact K_retI (pc := 40) (i := 26) rfl rfl ⟨rfl, by omega⟩
          · skip
            refine K_iload_n (pc := 26) (i := 16) rfl rfl ?_
            refine K_iload_n (pc := 27) (i := 17) rfl rfl ?_
            refine K_irem (pc := 28) (i := 18) rfl (by omega) (by omega) ?_
            refine K_eq (kRem_eq (by omega) (by omega) (by omega) (by omega)) ?_
            refine K_nm (fun v28 e28 => ?_)
            have t28 : 0 ≤ v28 ∧ v28 < x3 := by rw [e28]; exact ⟨Int.emod_nonneg _ (by omega), Int.emod_lt_of_pos _ (by omega)⟩
            refine K_ist (pc := 29) (i := 19) (lo' := [(0, _), (1, _), (2, _), (3, _), (4, _)]) rfl rfl rfl rfl ?_
            refine K_iload_n (pc := 31) (i := 20) rfl rfl ?_
            refine K_ist_n (pc := 32) (i := 21) (lo' := [(0, _), (1, _), (2, _), (3, _), (4, _)]) rfl rfl rfl rfl ?_
            refine K_iload (pc := 33) (i := 22) rfl rfl ?_
            refine K_ist_n (pc := 35) (i := 23) (lo' := [(0, _), (1, _), (2, _), (3, _), (4, _)]) rfl rfl rfl rfl ?_
            refine K_goto 22 (pc := 36) (i := 24) rfl rfl ?_
            refine K_drop (lo' := [(0, kI x0), (1, kI x1), (2, kI x3), (3, kI v28)]) [0, 1, 2, 3] rfl ?_
            exact ih22 x3 v28 (by omega) (by omega)
      exact L22 _ x0 x1 (Nat.lt_succ_self _) (by omega)
    · skip
      refine K_iload_n (pc := 15) (i := 9) rfl rfl ?_
      refine K_ineg (pc := 16) (i := 10) rfl ?_
      refine K_goto 21 (pc := 17) (i := 11) rfl rfl ?_
      refine K_ist_n (pc := 21) (i := 13) (lo' := [(0, _), (1, _), (2, _), (3, _)]) rfl rfl rfl rfl ?_
      have L22 : ∀ (n : Nat) (x2 : Int) (x3 : Int), x3.toNat < n → ((0 ≤ x2 ∧ kR x2) ∧ (0 ≤ x3 ∧ kR x3) ∧ (x2 ≠ 0 ∨ x3 ≠ 0)) → K X_Model_common G (kZm G 1 (kQi (fun z h' => h' = h ∧ kR z ∧ z ≠ 0))) 22 [(0, kI x0), (1, kI x1), (2, kI x2), (3, kI x3)] [] h := by
        intro n
        induction n with
        | zero => intro x2 x3 hm; exact absurd hm (Nat.not_lt_zero _)
        | succ n ih22 =>
          intro x2 x3 hm22 hV22
          refine K_iload_n (pc := 22) (i := 14) rfl rfl ?_
          first | refine K_if_eq 39 (pc := 23) (i := 15) rfl rfl (by omega) (fun b23 => ?_) (fun b23 => ?_) | refine K_if_eq_an 39 (pc := 23) (i := 15) rfl rfl (fun b23 => ?_) (fun b23 => ?_)
          · skip
            refine K_iload_n (pc := 39) (i := 25) rfl rfl ?_
            exact K_retI (pc := 40) (i := 26) rfl rfl ⟨rfl, by omega⟩
          · skip
            refine K_iload_n (pc := 26) (i := 16) rfl rfl ?_
            refine K_iload_n (pc := 27) (i := 17) rfl rfl ?_
            refine K_irem (pc := 28) (i := 18) rfl (by omega) (by omega) ?_
            refine K_eq (kRem_eq (by omega) (by omega) (by omega) (by omega)) ?_
            refine K_nm (fun v28 e28 => ?_)
            have t28 : 0 ≤ v28 ∧ v28 < x3 := by rw [e28]; exact ⟨Int.emod_nonneg _ (by omega), Int.emod_lt_of_pos _ (by omega)⟩
            refine K_ist (pc := 29) (i := 19) (lo' := [(0, _), (1, _), (2, _), (3, _), (4, _)]) rfl rfl rfl rfl ?_
            refine K_iload_n (pc := 31) (i := 20) rfl rfl ?_
            refine K_ist_n (pc := 32) (i := 21) (lo' := [(0, _), (1, _), (2, _), (3, _), (4, _)]) rfl rfl rfl rfl ?_
            refine K_iload (pc := 33) (i := 22) rfl rfl ?_
            refine K_ist_n (pc := 35) (i := 23) (lo' := [(0, _), (1, _), (2, _), (3, _), (4, _)]) rfl rfl rfl rfl ?_
            refine K_goto 22 (pc := 36) (i := 24) rfl rfl ?_
            refine K_drop (lo' := [(0, kI x0), (1, kI x1), (2, kI x3), (3, kI v28)]) [0, 1, 2, 3] rfl ?_
            exact ih22 x3 v28 (by omega) (by omega)
      exact L22 _ x0 (-x1) (Nat.lt_succ_self _) (by omega)
  · skip
    refine K_iload_n (pc := 4) (i := 2) rfl rfl ?_
    refine K_ineg (pc := 5) (i := 3) rfl ?_
    refine K_goto 10 (pc := 6) (i := 4) rfl rfl ?_
    refine K_ist_n (pc := 10) (i := 6) (lo' := [(0, _), (1, _), (2, _)]) rfl rfl rfl rfl ?_
    refine K_iload_n (pc := 11) (i := 7) rfl rfl ?_
    first | refine K_if_ge 20 (pc := 12) (i := 8) rfl rfl (by omega) (fun b12 => ?_) (fun b12 => ?_) | refine K_if_ge_an 20 (pc := 12) (i := 8) rfl rfl (fun b12 => ?_) (fun b12 => ?_)
    · skip
      refine K_iload_n (pc := 20) (i := 12) rfl rfl ?_
      refine K_ist_n (pc := 21) (i := 13) (lo' := [(0, _), (1, _), (2, _), (3, _)]) rfl rfl rfl rfl ?_
      have L22 : ∀ (n : Nat) (x2 : Int) (x3 : Int), x3.toNat < n → ((0 ≤ x2 ∧ kR x2) ∧ (0 ≤ x3 ∧ kR x3) ∧ (x2 ≠ 0 ∨ x3 ≠ 0)) → K X_Model_common G (kZm G 1 (kQi (fun z h' => h' = h ∧ kR z ∧ z ≠ 0))) 22 [(0, kI x0), (1, kI x1), (2, kI x2), (3, kI x3)] [] h := by
        intro n
        induction n with
        | zero => intro x2 x3 hm; exact absurd hm (Nat.not_lt_zero _)
        | succ n ih22 =>
          intro x2 x3 hm22 hV22
          refine K_iload_n (pc := 22) (i := 14) rfl rfl ?_
          first | refine K_if_eq 39 (pc := 23) (i := 15) rfl rfl (by omega) (fun b23 => ?_) (fun b23 => ?_) | refine K_if_eq_an 39 (pc := 23) (i := 15) rfl rfl (fun b23 => ?_) (fun b23 => ?_)
          · skip
            refine K_iload_n (pc := 39) (i := 25) rfl rfl ?_
            exact K_retI (pc := 40) (i := 26) rfl rfl ⟨rfl, by omega⟩
          · skip
            refine K_iload_n (pc := 26) (i := 16) rfl rfl ?_
            refine K_iload_n (pc := 27) (i := 17) rfl rfl ?_
            refine K_irem (pc := 28) (i := 18) rfl (by omega) (by omega) ?_
            refine K_eq (kRem_eq (by omega) (by omega) (by omega) (by omega)) ?_
            refine K_nm (fun v28 e28 => ?_)
            have t28 : 0 ≤ v28 ∧ v28 < x3 := by rw [e28]; exact ⟨Int.emod_nonneg _ (by omega), Int.emod_lt_of_pos _ (by omega)⟩
            refine K_ist (pc := 29) (i := 19) (lo' := [(0, _), (1, _), (2, _), (3, _), (4, _)]) rfl rfl rfl rfl ?_
            refine K_iload_n (pc := 31) (i := 20) rfl rfl ?_
            refine K_ist_n (pc := 32) (i := 21) (lo' := [(0, _), (1, _), (2, _), (3, _), (4, _)]) rfl rfl rfl rfl ?_
            refine K_iload (pc := 33) (i := 22) rfl rfl ?_
            refine K_ist_n (pc := 35) (i := 23) (lo' := [(0, _), (1, _), (2, _), (3, _), (4, _)]) rfl rfl rfl rfl ?_
            refine K_goto 22 (pc := 36) (i := 24) rfl rfl ?_
            refine K_drop (lo' := [(0, kI x0), (1, kI x1), (2, kI x3), (3, kI v28)]) [0, 1, 2, 3] rfl ?_
            exact ih22 x3 v28 (by omega) (by omega)
      exact L22 _ (-x0) x1 (Nat.lt_succ_self _) (by omega)
    · skip
      refine K_iload_n (pc := 15) (i := 9) rfl rfl ?_
      refine K_ineg (pc := 16) (i := 10) rfl ?_
      refine K_goto 21 (pc := 17) (i := 11) rfl rfl ?_
      refine K_ist_n (pc := 21) (i := 13) (lo' := [(0, _), (1, _), (2, _), (3, _)]) rfl rfl rfl rfl ?_
      have L22 : ∀ (n : Nat) (x2 : Int) (x3 : Int), x3.toNat < n → ((0 ≤ x2 ∧ kR x2) ∧ (0 ≤ x3 ∧ kR x3) ∧ (x2 ≠ 0 ∨ x3 ≠ 0)) → K X_Model_common G (kZm G 1 (kQi (fun z h' => h' = h ∧ kR z ∧ z ≠ 0))) 22 [(0, kI x0), (1, kI x1), (2, kI x2), (3, kI x3)] [] h := by
        intro n
        induction n with
        | zero => intro x2 x3 hm; exact absurd hm (Nat.not_lt_zero _)
        | succ n ih22 =>
          intro x2 x3 hm22 hV22
          refine K_iload_n (pc := 22) (i := 14) rfl rfl ?_
          first | refine K_if_eq 39 (pc := 23) (i := 15) rfl rfl (by omega) (fun b23 => ?_) (fun b23 => ?_) | refine K_if_eq_an 39 (pc := 23) (i := 15) rfl rfl (fun b23 => ?_) (fun b23 => ?_)
          · skip
            refine K_iload_n (pc := 39) (i := 25) rfl rfl ?_
            exact K_retI (pc := 40) (i := 26) rfl rfl ⟨rfl, by omega⟩
          · skip
            refine K_iload_n (pc := 26) (i := 16) rfl rfl ?_
            refine K_iload_n (pc := 27) (i := 17) rfl rfl ?_
            refine K_irem (pc := 28) (i := 18) rfl (by omega) (by omega) ?_
            refine K_eq (kRem_eq (by omega) (by omega) (by omega) (by omega)) ?_
            refine K_nm (fun v28 e28 => ?_)
            have t28 : 0 ≤ v28 ∧ v28 < x3 := by rw [e28]; exact ⟨Int.emod_nonneg _ (by omega), Int.emod_lt_of_pos _ (by omega)⟩
            refine K_ist (pc := 29) (i := 19) (lo' := [(0, _), (1, _), (2, _), (3, _), (4, _)]) rfl rfl rfl rfl ?_
            refine K_iload_n (pc := 31) (i := 20) rfl rfl ?_
            refine K_ist_n (pc := 32) (i := 21) (lo' := [(0, _), (1, _), (2, _), (3, _), (4, _)]) rfl rfl rfl rfl ?_
            refine K_iload (pc := 33) (i := 22) rfl rfl ?_
            refine K_ist_n (pc := 35) (i := 23) (lo' := [(0, _), (1, _), (2, _), (3, _), (4, _)]) rfl rfl rfl rfl ?_
            refine K_goto 22 (pc := 36) (i := 24) rfl rfl ?_
            refine K_drop (lo' := [(0, kI x0), (1, kI x1), (2, kI x3), (3, kI v28)]) [0, 1, 2, 3] rfl ?_
            exact ih22 x3 v28 (by omega) (by omega)
      exact L22 _ (-x0) (-x1) (Nat.lt_succ_self _) (by omega)
set_option maxHeartbeats 4000000 in
set_option maxRecDepth 100000 in
theorem c_Model_part (G : kG)  {h : kH} {x0 : Int} {x1 : Int} {x2 : Int} (s0 : -1000000000 ≤ x0 ∧ x0 ≤ 1000000000) (s1 : -1000000000 ≤ x1 ∧ x1 ≤ 1000000000) (hne : x0 ≠ 0 ∨ x1 ≠ 0) : Ctr G y_Model_part X_Model_part 2 [kI x0, kI x1, kI x2] h (kQi (fun z h' => h' = h ∧ kR z)) := by
  refine Ctr.ofK (by decide) rfl T_Model_part (Nat.le_of_ble_eq_true rfl) (lo := [(0, kI x0), (1, kI x1), (2, kI x2)]) rfl ?_
  refine K_iload_n (pc := 0) (i := 0) rfl rfl ?_
  refine K_iload_n (pc := 1) (i := 1) rfl rfl ?_
  refine K_cSI (pc := 2) (i := 2) rfl (c_Model_common G (x0 := x0) (x1 := x1) (s0 := by omega) (s1 := by omega) (hne := by omega)) (ls_Model_147 rfl) rfl rfl rfl rfl (fun v2 h2 q2 => ?_)
  obtain ⟨eh, r2⟩ := q2
  rw [eh]; clear eh
  refine K_ist_n (pc := 5) (i := 3) (lo' := [(0, _), (1, _), (2, _), (3, _)]) rfl rfl rfl rfl ?_
  refine K_iload_n (pc := 6) (i := 4) rfl rfl ?_
  first | refine K_if_ge 14 (pc := 7) (i := 5) rfl rfl (by omega) (fun b7 => ?_) (fun b7 => ?_) | refine K_if_ge_an 14 (pc := 7) (i := 5) rfl rfl (fun b7 => ?_) (fun b7 => ?_)
  · skip
    refine K_iconst (pc := 14) (i := 8) rfl ?_
    refine K_ist (pc := 15) (i := 9) (lo' := [(0, _), (1, _), (2, _), (3, _), (4, _)]) rfl rfl rfl rfl ?_
    refine K_iload_n (pc := 17) (i := 10) rfl rfl ?_
    first | refine K_if_eq 30 (pc := 18) (i := 11) rfl rfl (by omega) (fun b18 => ?_) (fun b18 => ?_) | refine K_if_eq_an 30 (pc := 18) (i := 11) rfl rfl (fun b18 => ?_) (fun b18 => ?_)
    · skip
      refine K_iload (pc := 30) (i := 18) rfl rfl ?_
      refine K_iload_n (pc := 32) (i := 19) rfl rfl ?_
      refine K_imul (pc := 33) (i := 20) rfl ?_
      refine K_iload_n (pc := 34) (i := 21) rfl rfl ?_
      refine K_idiv (pc := 35) (i := 22) rfl (by omega) (by omega) ?_
      refine K_any (fun v35 r35 => ?_)
      exact K_retI (pc := 36) (i := 23) rfl rfl ⟨rfl, by omega⟩
    · skip
      refine K_iload (pc := 21) (i := 12) rfl rfl ?_
      refine K_iload_n (pc := 23) (i := 13) rfl rfl ?_
      refine K_imul (pc := 24) (i := 14) rfl ?_
      refine K_iload_n (pc := 25) (i := 15) rfl rfl ?_
      refine K_idiv (pc := 26) (i := 16) rfl (by omega) (by omega) ?_
      refine K_any (fun v26 r26 => ?_)
      refine K_goto 36 (pc := 27) (i := 17) rfl rfl ?_
      exact K_retI (pc := 36) (i := 23) rfl rfl ⟨rfl, by omega⟩
  · skip
    refine K_iconst (pc := 10) (i := 6) rfl ?_
    refine K_goto 15 (pc := 11) (i := 7) rfl rfl ?_
    refine K_ist (pc := 15) (i := 9) (lo' := [(0, _), (1, _), (2, _), (3, _), (4, _)]) rfl rfl rfl rfl ?_
    refine K_iload_n (pc := 17) (i := 10) rfl rfl ?_
    first | refine K_if_eq 30 (pc := 18) (i := 11) rfl rfl (by omega) (fun b18 => ?_) (fun b18 => ?_) | refine K_if_eq_an 30 (pc := 18) (i := 11) rfl rfl (fun b18 => ?_) (fun b18 => ?_)
    · skip
      refine K_iload (pc := 30) (i := 18) rfl rfl ?_
      refine K_iload_n (pc := 32) (i := 19) rfl rfl ?_
      refine K_imul (pc := 33) (i := 20) rfl ?_
      refine K_iload_n (pc := 34) (i := 21) rfl rfl ?_
      refine K_idiv (pc := 35) (i := 22) rfl (by omega) (by omega) ?_
      refine K_any (fun v35 r35 => ?_)
      exact K_retI (pc := 36) (i := 23) rfl rfl ⟨rfl, by omega⟩
    · skip
      refine K_iload (pc := 21) (i := 12) rfl rfl ?_
      refine K_iload_n (pc := 23) (i := 13) rfl rfl ?_
      refine K_imul (pc := 24) (i := 14) rfl ?_
      refine K_iload_n (pc := 25) (i := 15) rfl rfl ?_
      refine K_idiv (pc := 26) (i := 16) rfl (by omega) (by omega) ?_
      refine K_any (fun v26 r26 => ?_)
      refine K_goto 36 (pc := 27) (i := 17) rfl rfl ?_
      exact K_retI (pc := 36) (i := 23) rfl rfl ⟨rfl, by omega⟩
set_option maxHeartbeats 4000000 in
set_option maxRecDepth 100000 in
theorem c_Model_highAboveX (G : kG) {g : kGh} {h : kH} {x1 : Int} {x2 : Int} (hk : FK (h 187) (h 184 4)) (s1 : 0 ≤ x1 ∧ x1 < h 184 4) (s2 : 0 ≤ x2 ∧ x2 < h 184 4) (hI : Gd g h) : Ctr G y_Model_highAbove X_Model_highAbove 1 [.ref (G.2.2.2 184), kI x1, kI x2] h (kQi (fun z h' => h' = h ∧ -3240 ≤ z ∧ z ≤ 3240)) := by
  refine Ctr.ofK (by decide) rfl T_Model_highAbove (Nat.le_of_ble_eq_true rfl) (lo := [(0, .ref (G.2.2.2 184)), (1, kI x1), (2, kI x2)]) rfl ?_
  have hm8 := rd_many hI
  refine K_aload_n (pc := 0) (i := 0) rfl rfl ?_
  refine K_getR (pc := 1) (i := 1) (j := 3) (d := 187) rfl S_184 rfl (by decide) rfl fw_Model_16 ?_
  refine K_iconst (pc := 4) (i := 2) rfl ?_
  refine K_iload_n (pc := 5) (i := 3) rfl rfl ?_
  refine K_imul (pc := 6) (i := 4) rfl ?_
  refine K_iconst (pc := 7) (i := 5) rfl ?_
  refine K_iadd (pc := 8) (i := 6) rfl ?_
  refine K_iald (pc := 9) (i := 7) rfl S_187 (by omega) (by omega) (by decide) ?_
  refine K_nm (fun v9 e9 => ?_)
  have r9 := rd_mkites hI ((5 * x2) + 1).toNat
  rw [← e9] at r9
  have w9 : h 187 (5 * x2.toNat + 1) = v9 := by rw [e9]; congr 1; omega
  have u9 := (hk x2.toNat (by omega)).1
  rw [w9] at u9
  refine K_aload_n (pc := 10) (i := 8) rfl rfl ?_
  refine K_getR (pc := 11) (i := 9) (j := 3) (d := 187) rfl S_184 rfl (by decide) rfl fw_Model_16 ?_
  refine K_iconst (pc := 14) (i := 10) rfl ?_
  refine K_iload_n (pc := 15) (i := 11) rfl rfl ?_
  refine K_imul (pc := 16) (i := 12) rfl ?_
  refine K_iconst (pc := 17) (i := 13) rfl ?_
  refine K_iadd (pc := 18) (i := 14) rfl ?_
  refine K_iald (pc := 19) (i := 15) rfl S_187 (by omega) (by omega) (by decide) ?_
  refine K_nm (fun v19 e19 => ?_)
  have r19 := rd_mkites hI ((5 * x1) + 1).toNat
  rw [← e19] at r19
  have w19 : h 187 (5 * x1.toNat + 1) = v19 := by rw [e19]; congr 1; omega
  have u19 := (hk x1.toNat (by omega)).1
  rw [w19] at u19
  refine K_isub (pc := 20) (i := 16) rfl ?_
  refine K_aload_n (pc := 21) (i := 17) rfl rfl ?_
  refine K_getR (pc := 22) (i := 18) (j := 3) (d := 187) rfl S_184 rfl (by decide) rfl fw_Model_16 ?_
  refine K_iconst (pc := 25) (i := 19) rfl ?_
  refine K_iload_n (pc := 26) (i := 20) rfl rfl ?_
  refine K_imul (pc := 27) (i := 21) rfl ?_
  refine K_iconst (pc := 28) (i := 22) rfl ?_
  refine K_iadd (pc := 29) (i := 23) rfl ?_
  refine K_iald (pc := 30) (i := 24) rfl S_187 (by omega) (by omega) (by decide) ?_
  refine K_nm (fun v30 e30 => ?_)
  have r30 := (rd_mkites hI ((5 * x1) + 3).toNat).2.1 (by omega)
  rw [← e30] at r30
  refine K_imul (pc := 31) (i := 25) rfl ?_
  refine K_nm (fun v31 e31 => ?_)
  have u31 := mul_bd (A := 40) (B := 9) (a := v9 - v19) (b := v30) (by omega) (by omega)
  rw [← e31] at u31
  refine K_aload_n (pc := 32) (i := 26) rfl rfl ?_
  refine K_getR (pc := 33) (i := 27) (j := 3) (d := 187) rfl S_184 rfl (by decide) rfl fw_Model_16 ?_
  refine K_iconst (pc := 36) (i := 28) rfl ?_
  refine K_iload_n (pc := 37) (i := 29) rfl rfl ?_
  refine K_imul (pc := 38) (i := 30) rfl ?_
  refine K_iconst (pc := 39) (i := 31) rfl ?_
  refine K_iadd (pc := 40) (i := 32) rfl ?_
  refine K_iald (pc := 41) (i := 33) rfl S_187 (by omega) (by omega) (by decide) ?_
  refine K_nm (fun v41 e41 => ?_)
  have r41 := (rd_mkites hI ((5 * x2) + 3).toNat).2.1 (by omega)
  rw [← e41] at r41
  refine K_imul (pc := 42) (i := 34) rfl ?_
  refine K_nm (fun v42 e42 => ?_)
  have u42 := mul_bd (A := 360) (B := 9) (a := v31) (b := v41) (by omega) (by omega)
  rw [← e42] at u42
  exact K_retI (pc := 43) (i := 35) rfl rfl ⟨rfl, by omega⟩
/-- how two lines drift -/
def Dr (h : kH) (i j : Nat) : Int := (h 187 (5 * i + 2) - h 187 (5 * i + 1)) * h 187 (5 * j + 3) - (h 187 (5 * j + 2) - h 187 (5 * j + 1)) * h 187 (5 * i + 3)
set_option maxHeartbeats 4000000 in
set_option maxRecDepth 100000 in
theorem c_Model_driftX (G : kG) {g : kGh} {h : kH} {x1 : Int} {x2 : Int} {x3 : Int} (hk : FK (h 187) (h 184 4)) (s1 : x1 = 0) (s2 : 0 ≤ x2 ∧ x2 < h 184 4) (s3 : 0 ≤ x3 ∧ x3 < h 184 4) (hI : Gd g h) : Ctr G y_Model_drift X_Model_drift 1 [.ref (G.2.2.2 184), kI x1, kI x2, kI x3] h (kQi (fun z h' => h' = h ∧ z = Dr h x2.toNat x3.toNat ∧ -720 ≤ z ∧ z ≤ 720)) := by
  refine Ctr.ofK (by decide) rfl T_Model_drift (Nat.le_of_ble_eq_true rfl) (lo := [(0, .ref (G.2.2.2 184)), (1, kI x1), (2, kI x2), (3, kI x3)]) rfl ?_
  have hm8 := rd_many hI
  refine K_iload_n (pc := 0) (i := 0) rfl rfl ?_
  refine K_iconst (pc := 1) (i := 1) rfl ?_
  refine K_iload_n (pc := 2) (i := 2) rfl rfl ?_
  refine K_imul (pc := 3) (i := 3) rfl ?_
  refine K_iadd (pc := 4) (i := 4) rfl ?_
  refine K_ist (pc := 5) (i := 5) (lo' := [(0, _), (1, _), (2, _), (3, _), (4, _)]) rfl rfl rfl rfl ?_
  refine K_iload_n (pc := 7) (i := 6) rfl rfl ?_
  refine K_iconst (pc := 8) (i := 7) rfl ?_
  refine K_iload_n (pc := 9) (i := 8) rfl rfl ?_
  refine K_imul (pc := 10) (i := 9) rfl ?_
  refine K_iadd (pc := 11) (i := 10) rfl ?_
  refine K_ist (pc := 12) (i := 11) (lo' := [(0, _), (1, _), (2, _), (3, _), (4, _), (5, _)]) rfl rfl rfl rfl ?_
  refine K_aload_n (pc := 14) (i := 12) rfl rfl ?_
  refine K_getR (pc := 15) (i := 13) (j := 3) (d := 187) rfl S_184 rfl (by decide) rfl fw_Model_16 ?_
  refine K_iload (pc := 18) (i := 14) rfl rfl ?_
  refine K_iconst (pc := 20) (i := 15) rfl ?_
  refine K_iadd (pc := 21) (i := 16) rfl ?_
  refine K_iald (pc := 22) (i := 17) rfl S_187 (by omega) (by omega) (by decide) ?_
  refine K_nm (fun v22 e22 => ?_)
  have r22 := rd_mkites hI ((x1 + (5 * x2)) + 2).toNat
  rw [← e22] at r22
  have w22 : h 187 (5 * x2.toNat + 2) = v22 := by rw [e22]; congr 1; omega
  have u22 := (hk x2.toNat (by omega)).2.1
  rw [w22] at u22
  refine K_aload_n (pc := 23) (i := 18) rfl rfl ?_
  refine K_getR (pc := 24) (i := 19) (j := 3) (d := 187) rfl S_184 rfl (by decide) rfl fw_Model_16 ?_
  refine K_iload (pc := 27) (i := 20) rfl rfl ?_
  refine K_iconst (pc := 29) (i := 21) rfl ?_
  refine K_iadd (pc := 30) (i := 22) rfl ?_
  refine K_iald (pc := 31) (i := 23) rfl S_187 (by omega) (by omega) (by decide) ?_
  refine K_nm (fun v31 e31 => ?_)
  have r31 := rd_mkites hI ((x1 + (5 * x2)) + 1).toNat
  rw [← e31] at r31
  have w31 : h 187 (5 * x2.toNat + 1) = v31 := by rw [e31]; congr 1; omega
  have u31 := (hk x2.toNat (by omega)).1
  rw [w31] at u31
  refine K_isub (pc := 32) (i := 24) rfl ?_
  refine K_aload_n (pc := 33) (i := 25) rfl rfl ?_
  refine K_getR (pc := 34) (i := 26) (j := 3) (d := 187) rfl S_184 rfl (by decide) rfl fw_Model_16 ?_
  refine K_iload (pc := 37) (i := 27) rfl rfl ?_
  refine K_iconst (pc := 39) (i := 28) rfl ?_
  refine K_iadd (pc := 40) (i := 29) rfl ?_
  refine K_iald (pc := 41) (i := 30) rfl S_187 (by omega) (by omega) (by decide) ?_
  refine K_nm (fun v41 e41 => ?_)
  have r41 := (rd_mkites hI ((x1 + (5 * x3)) + 3).toNat).2.1 (by omega)
  rw [← e41] at r41
  have w41 : h 187 (5 * x3.toNat + 3) = v41 := by rw [e41]; congr 1; omega
  have u41 := (hk x3.toNat (by omega)).2.2.1
  rw [w41] at u41
  refine K_imul (pc := 42) (i := 31) rfl ?_
  refine K_nm (fun v42 e42 => ?_)
  have u42 := mul_bd (A := 40) (B := 9) (a := v22 - v31) (b := v41) (by omega) (by omega)
  rw [← e42] at u42
  refine K_aload_n (pc := 43) (i := 32) rfl rfl ?_
  refine K_getR (pc := 44) (i := 33) (j := 3) (d := 187) rfl S_184 rfl (by decide) rfl fw_Model_16 ?_
  refine K_iload (pc := 47) (i := 34) rfl rfl ?_
  refine K_iconst (pc := 49) (i := 35) rfl ?_
  refine K_iadd (pc := 50) (i := 36) rfl ?_
  refine K_iald (pc := 51) (i := 37) rfl S_187 (by omega) (by omega) (by decide) ?_
  refine K_nm (fun v51 e51 => ?_)
  have r51 := rd_mkites hI ((x1 + (5 * x3)) + 2).toNat
  rw [← e51] at r51
  have w51 : h 187 (5 * x3.toNat + 2) = v51 := by rw [e51]; congr 1; omega
  have u51 := (hk x3.toNat (by omega)).2.1
  rw [w51] at u51
  refine K_aload_n (pc := 52) (i := 38) rfl rfl ?_
  refine K_getR (pc := 53) (i := 39) (j := 3) (d := 187) rfl S_184 rfl (by decide) rfl fw_Model_16 ?_
  refine K_iload (pc := 56) (i := 40) rfl rfl ?_
  refine K_iconst (pc := 58) (i := 41) rfl ?_
  refine K_iadd (pc := 59) (i := 42) rfl ?_
  refine K_iald (pc := 60) (i := 43) rfl S_187 (by omega) (by omega) (by decide) ?_
  refine K_nm (fun v60 e60 => ?_)
  have r60 := rd_mkites hI ((x1 + (5 * x3)) + 1).toNat
  rw [← e60] at r60
  have w60 : h 187 (5 * x3.toNat + 1) = v60 := by rw [e60]; congr 1; omega
  have u60 := (hk x3.toNat (by omega)).1
  rw [w60] at u60
  refine K_isub (pc := 61) (i := 44) rfl ?_
  refine K_aload_n (pc := 62) (i := 45) rfl rfl ?_
  refine K_getR (pc := 63) (i := 46) (j := 3) (d := 187) rfl S_184 rfl (by decide) rfl fw_Model_16 ?_
  refine K_iload (pc := 66) (i := 47) rfl rfl ?_
  refine K_iconst (pc := 68) (i := 48) rfl ?_
  refine K_iadd (pc := 69) (i := 49) rfl ?_
  refine K_iald (pc := 70) (i := 50) rfl S_187 (by omega) (by omega) (by decide) ?_
  refine K_nm (fun v70 e70 => ?_)
  have r70 := (rd_mkites hI ((x1 + (5 * x2)) + 3).toNat).2.1 (by omega)
  rw [← e70] at r70
  have w70 : h 187 (5 * x2.toNat + 3) = v70 := by rw [e70]; congr 1; omega
  have u70 := (hk x2.toNat (by omega)).2.2.1
  rw [w70] at u70
  refine K_imul (pc := 71) (i := 51) rfl ?_
  refine K_nm (fun v71 e71 => ?_)
  have u71 := mul_bd (A := 40) (B := 9) (a := v51 - v60) (b := v70) (by omega) (by omega)
  rw [← e71] at u71
  refine K_isub (pc := 72) (i := 52) rfl ?_
  exact K_retI (pc := 73) (i := 53) rfl rfl ⟨rfl, by unfold Dr; rw [w22, w31, w41, w51, w60, w70, e42, e71], by omega⟩
set_option maxHeartbeats 4000000 in
set_option maxRecDepth 100000 in
theorem c_Model_doCrossX (G : kG) {g : kGh} {h : kH} {x1 : Int} {x2 : Int} {x3 : Int} (hk : FK (h 187) (h 184 4)) (s1 : x1 = 0) (s2 : 0 ≤ x2 ∧ x2 < h 184 4) (s3 : 0 ≤ x3 ∧ x3 < h 184 4) (hne : x2 ≠ x3) (hI : Gd g h) : Ctr G y_Model_doCross X_Model_doCross 2 [.ref (G.2.2.2 184), kI x1, kI x2, kI x3] h (kQi (fun z h' => h' = h ∧ (z = 0 ∨ (z = 1 ∧ Dr h x2.toNat x3.toNat ≠ 0)))) := by
  refine Ctr.ofK (by decide) rfl T_Model_doCross (Nat.le_of_ble_eq_true rfl) (lo := [(0, .ref (G.2.2.2 184)), (1, kI x1), (2, kI x2), (3, kI x3)]) rfl ?_
  have hm8 := rd_many hI
  refine K_iload_n (pc := 0) (i := 0) rfl rfl ?_
  refine K_iconst (pc := 1) (i := 1) rfl ?_
  refine K_iload_n (pc := 2) (i := 2) rfl rfl ?_
  refine K_imul (pc := 3) (i := 3) rfl ?_
  refine K_iadd (pc := 4) (i := 4) rfl ?_
  refine K_ist (pc := 5) (i := 5) (lo' := [(0, _), (1, _), (2, _), (3, _), (4, _)]) rfl rfl rfl rfl ?_
  refine K_iload_n (pc := 7) (i := 6) rfl rfl ?_
  refine K_iconst (pc := 8) (i := 7) rfl ?_
  refine K_iload_n (pc := 9) (i := 8) rfl rfl ?_
  refine K_imul (pc := 10) (i := 9) rfl ?_
  refine K_iadd (pc := 11) (i := 10) rfl ?_
  refine K_ist (pc := 12) (i := 11) (lo' := [(0, _), (1, _), (2, _), (3, _), (4, _), (5, _)]) rfl rfl rfl rfl ?_
  refine K_aload_n (pc := 14) (i := 12) rfl rfl ?_
  refine K_getR (pc := 15) (i := 13) (j := 3) (d := 187) rfl S_184 rfl (by decide) rfl fw_Model_16 ?_
  refine K_iload (pc := 18) (i := 14) rfl rfl ?_
  refine K_iconst (pc := 20) (i := 15) rfl ?_
  refine K_iadd (pc := 21) (i := 16) rfl ?_
  refine K_iald (pc := 22) (i := 17) rfl S_187 (by omega) (by omega) (by decide) ?_
  refine K_nm (fun v22 e22 => ?_)
  have r22 := rd_mkites hI ((x1 + (5 * x2)) + 1).toNat
  rw [← e22] at r22
  have w22 : h 187 (5 * x2.toNat + 1) = v22 := by rw [e22]; congr 1; omega
  have u22 := (hk x2.toNat (by omega)).1
  rw [w22] at u22
  refine K_aload_n (pc := 23) (i := 18) rfl rfl ?_
  refine K_getR (pc := 24) (i := 19) (j := 3) (d := 187) rfl S_184 rfl (by decide) rfl fw_Model_16 ?_
  refine K_iload (pc := 27) (i := 20) rfl rfl ?_
  refine K_iconst (pc := 29) (i := 21) rfl ?_
  refine K_iadd (pc := 30) (i := 22) rfl ?_
  refine K_iald (pc := 31) (i := 23) rfl S_187 (by omega) (by omega) (by decide) ?_
  refine K_nm (fun v31 e31 => ?_)
  have r31 := rd_mkites hI ((x1 + (5 * x3)) + 1).toNat
  rw [← e31] at r31
  have w31 : h 187 (5 * x3.toNat + 1) = v31 := by rw [e31]; congr 1; omega
  have u31 := (hk x3.toNat (by omega)).1
  rw [w31] at u31
  have d31 : v22 ≠ v31 := by rw [← w22, ← w31]; exact (hk x2.toNat (by omega)).2.2.2 x3.toNat (by omega) (by omega)
  refine K_isub (pc := 32) (i := 24) rfl ?_
  refine K_ist (pc := 33) (i := 25) (lo' := [(0, _), (1, _), (2, _), (3, _), (4, _), (5, _), (6, _)]) rfl rfl rfl rfl ?_
  refine K_aload_n (pc := 35) (i := 26) rfl rfl ?_
  refine K_getR (pc := 36) (i := 27) (j := 3) (d := 187) rfl S_184 rfl (by decide) rfl fw_Model_16 ?_
  refine K_iload (pc := 39) (i := 28) rfl rfl ?_
  refine K_iconst (pc := 41) (i := 29) rfl ?_
  refine K_iadd (pc := 42) (i := 30) rfl ?_
  refine K_iald (pc := 43) (i := 31) rfl S_187 (by omega) (by omega) (by decide) ?_
  refine K_nm (fun v43 e43 => ?_)
  have r43 := (rd_mkites hI ((x1 + (5 * x2)) + 3).toNat).2.1 (by omega)
  rw [← e43] at r43
  refine K_aload_n (pc := 44) (i := 32) rfl rfl ?_
  refine K_getR (pc := 45) (i := 33) (j := 3) (d := 187) rfl S_184 rfl (by decide) rfl fw_Model_16 ?_
  refine K_iload (pc := 48) (i := 34) rfl rfl ?_
  refine K_iconst (pc := 50) (i := 35) rfl ?_
  refine K_iadd (pc := 51) (i := 36) rfl ?_
  refine K_iald (pc := 52) (i := 37) rfl S_187 (by omega) (by omega) (by decide) ?_
  refine K_nm (fun v52 e52 => ?_)
  have r52 := (rd_mkites hI ((x1 + (5 * x3)) + 3).toNat).2.1 (by omega)
  rw [← e52] at r52
  first | refine K_icmp_ge 68 (pc := 53) (i := 38) rfl rfl (by omega) (by omega) (fun b53 => ?_) (fun b53 => ?_) | refine K_icmp_ge_an 68 (pc := 53) (i := 38) rfl rfl (fun b53 => ?_) (fun b53 => ?_)
  · skip
    refine K_aload_n (pc := 68) (i := 46) rfl rfl ?_
    refine K_getR (pc := 69) (i := 47) (j := 3) (d := 187) rfl S_184 rfl (by decide) rfl fw_Model_16 ?_
    refine K_iload (pc := 72) (i := 48) rfl rfl ?_
    refine K_iconst (pc := 74) (i := 49) rfl ?_
    refine K_iadd (pc := 75) (i := 50) rfl ?_
    refine K_iald (pc := 76) (i := 51) rfl S_187 (by omega) (by omega) (by decide) ?_
    refine K_nm (fun v76 e76 => ?_)
    have r76 := (rd_mkites hI ((x1 + (5 * x3)) + 3).toNat).2.1 (by omega)
    rw [← e76] at r76
    have w76 : h 187 (5 * x3.toNat + 3) = v76 := by rw [e76]; congr 1; omega
    have u76 := (hk x3.toNat (by omega)).2.2.1
    rw [w76] at u76
    refine K_ist (pc := 77) (i := 52) (lo' := [(0, _), (1, _), (2, _), (3, _), (4, _), (5, _), (6, _), (7, _)]) rfl rfl rfl rfl ?_
    refine K_iload (pc := 79) (i := 53) rfl rfl ?_
    refine K_aload_n (pc := 81) (i := 54) rfl rfl ?_
    refine K_getR (pc := 82) (i := 55) (j := 3) (d := 187) rfl S_184 rfl (by decide) rfl fw_Model_16 ?_
    refine K_iload (pc := 85) (i := 56) rfl rfl ?_
    refine K_iconst (pc := 87) (i := 57) rfl ?_
    refine K_iadd (pc := 88) (i := 58) rfl ?_
    refine K_iald (pc := 89) (i := 59) rfl S_187 (by omega) (by omega) (by decide) ?_
    refine K_nm (fun v89 e89 => ?_)
    have r89 := (rd_mkites hI ((x1 + (5 * x2)) + 3).toNat).2.1 (by omega)
    rw [← e89] at r89
    have w89 : h 187 (5 * x2.toNat + 3) = v89 := by rw [e89]; congr 1; omega
    have u89 := (hk x2.toNat (by omega)).2.2.1
    rw [w89] at u89
    refine K_imul (pc := 90) (i := 60) rfl ?_
    refine K_nm (fun v90 e90 => ?_)
    have u90 := mul_bd (A := 40) (B := 9) (a := v22 - v31) (b := v89) (by omega) (by omega)
    rw [← e90] at u90
    have p90 : 0 < v22 - v31 → 0 < v90 := fun q => by rw [e90]; exact Int.mul_pos q (by omega)
    have n90 : v22 - v31 < 0 → v90 < 0 := fun q => by rw [e90]; exact Int.mul_neg_of_neg_of_pos q (by omega)
    refine K_aload_n (pc := 91) (i := 61) rfl rfl ?_
    refine K_getR (pc := 92) (i := 62) (j := 3) (d := 187) rfl S_184 rfl (by decide) rfl fw_Model_16 ?_
    refine K_iload (pc := 95) (i := 63) rfl rfl ?_
    refine K_iconst (pc := 97) (i := 64) rfl ?_
    refine K_iadd (pc := 98) (i := 65) rfl ?_
    refine K_iald (pc := 99) (i := 66) rfl S_187 (by omega) (by omega) (by decide) ?_
    refine K_nm (fun v99 e99 => ?_)
    have r99 := (rd_mkites hI ((x1 + (5 * x3)) + 3).toNat).2.1 (by omega)
    rw [← e99] at r99
    have w99 : h 187 (5 * x3.toNat + 3) = v99 := by rw [e99]; congr 1; omega
    have u99 := (hk x3.toNat (by omega)).2.2.1
    rw [w99] at u99
    refine K_imul (pc := 100) (i := 67) rfl ?_
    refine K_nm (fun v100 e100 => ?_)
    have u100 := mul_bd (A := 360) (B := 9) (a := v90) (b := v99) (by omega) (by omega)
    rw [← e100] at u100
    have p100 : 0 < v90 → 0 < v100 := fun q => by rw [e100]; exact Int.mul_pos q (by omega)
    have n100 : v90 < 0 → v100 < 0 := fun q => by rw [e100]; exact Int.mul_neg_of_neg_of_pos q (by omega)
    refine K_aload_n (pc := 101) (i := 68) rfl rfl ?_
    refine K_iload_n (pc := 102) (i := 69) rfl rfl ?_
    refine K_iload_n (pc := 103) (i := 70) rfl rfl ?_
    refine K_iload_n (pc := 104) (i := 71) rfl rfl ?_
    refine K_cVI (pc := 105) (i := 72) rfl (c_Model_driftX G (x1 := x1) (x2 := x2) (x3 := x3) (hk := hk) (hI := hI) (s1 := by omega) (s2 := by omega) (s3 := by omega)) S_184 rfl (lv_Model_133 rfl) rfl rfl rfl rfl rfl (fun v105 h105 q105 => ?_)
    obtain ⟨eh, r105⟩ := q105
    rw [eh]; clear eh
    refine K_iload (pc := 108) (i := 73) rfl rfl ?_
    refine K_imul (pc := 110) (i := 74) rfl ?_
    refine K_nm (fun v110 e110 => ?_)
    have u110 := mul_bd (A := 720) (B := 9) (a := v105) (b := v76) (by omega) (by omega)
    rw [← e110] at u110
    have z110 : v105 = 0 → v110 = 0 := fun q => by rw [e110, q, Int.zero_mul]
    refine K_iadd (pc := 111) (i := 75) rfl ?_
    refine K_ist (pc := 112) (i := 76) (lo' := [(0, _), (1, _), (2, _), (3, _), (4, _), (5, _), (6, _), (7, _), (8, _)]) rfl rfl rfl rfl ?_
    refine K_iload (pc := 114) (i := 77) rfl rfl ?_
    first | refine K_if_le 132 (pc := 116) (i := 78) rfl rfl (by omega) (fun b116 => ?_) (fun b116 => ?_) | refine K_if_le_an 132 (pc := 116) (i := 78) rfl rfl (fun b116 => ?_) (fun b116 => ?_)
    · skip
      refine K_iload (pc := 132) (i := 85) rfl rfl ?_
      first | refine K_if_lt 141 (pc := 134) (i := 86) rfl rfl (by omega) (fun b134 => ?_) (fun b134 => ?_) | refine K_if_lt_an 141 (pc := 134) (i := 86) rfl rfl (fun b134 => ?_) (fun b134 => ?_)
      · skip
        refine K_iconst (pc := 141) (i := 89) rfl ?_
        exact K_retZ (pc := 142) (i := 90) rfl rfl (by omega) ⟨rfl, by first | exact Or.inl rfl | exact Or.inr ⟨rfl, by rw [← r105.1]; omega⟩⟩
      · skip
        refine K_iconst (pc := 137) (i := 87) rfl ?_
        refine K_goto 142 (pc := 138) (i := 88) rfl rfl ?_
        exact K_retZ (pc := 142) (i := 90) rfl rfl (by omega) ⟨rfl, by first | exact Or.inl rfl | exact Or.inr ⟨rfl, by rw [← r105.1]; omega⟩⟩
    · skip
      refine K_iload (pc := 119) (i := 79) rfl rfl ?_
      first | refine K_if_gt 128 (pc := 121) (i := 80) rfl rfl (by omega) (fun b121 => ?_) (fun b121 => ?_) | refine K_if_gt_an 128 (pc := 121) (i := 80) rfl rfl (fun b121 => ?_) (fun b121 => ?_)
      · skip
        refine K_iconst (pc := 128) (i := 83) rfl ?_
        refine K_goto 142 (pc := 129) (i := 84) rfl rfl ?_
        exact K_retZ (pc := 142) (i := 90) rfl rfl (by omega) ⟨rfl, by first | exact Or.inl rfl | exact Or.inr ⟨rfl, by rw [← r105.1]; omega⟩⟩
      · skip
        refine K_iconst (pc := 124) (i := 81) rfl ?_
        refine K_goto 142 (pc := 125) (i := 82) rfl rfl ?_
        exact K_retZ (pc := 142) (i := 90) rfl rfl (by omega) ⟨rfl, by first | exact Or.inl rfl | exact Or.inr ⟨rfl, by rw [← r105.1]; omega⟩⟩
  · skip
    refine K_aload_n (pc := 56) (i := 39) rfl rfl ?_
    refine K_getR (pc := 57) (i := 40) (j := 3) (d := 187) rfl S_184 rfl (by decide) rfl fw_Model_16 ?_
    refine K_iload (pc := 60) (i := 41) rfl rfl ?_
    refine K_iconst (pc := 62) (i := 42) rfl ?_
    refine K_iadd (pc := 63) (i := 43) rfl ?_
    refine K_iald (pc := 64) (i := 44) rfl S_187 (by omega) (by omega) (by decide) ?_
    refine K_nm (fun v64 e64 => ?_)
    have r64 := (rd_mkites hI ((x1 + (5 * x2)) + 3).toNat).2.1 (by omega)
    rw [← e64] at r64
    have w64 : h 187 (5 * x2.toNat + 3) = v64 := by rw [e64]; congr 1; omega
    have u64 := (hk x2.toNat (by omega)).2.2.1
    rw [w64] at u64
    refine K_goto 77 (pc := 65) (i := 45) rfl rfl ?_
    refine K_ist (pc := 77) (i := 52) (lo' := [(0, _), (1, _), (2, _), (3, _), (4, _), (5, _), (6, _), (7, _)]) rfl rfl rfl rfl ?_
    refine K_iload (pc := 79) (i := 53) rfl rfl ?_
    refine K_aload_n (pc := 81) (i := 54) rfl rfl ?_
    refine K_getR (pc := 82) (i := 55) (j := 3) (d := 187) rfl S_184 rfl (by decide) rfl fw_Model_16 ?_
    refine K_iload (pc := 85) (i := 56) rfl rfl ?_
    refine K_iconst (pc := 87) (i := 57) rfl ?_
    refine K_iadd (pc := 88) (i := 58) rfl ?_
    refine K_iald (pc := 89) (i := 59) rfl S_187 (by omega) (by omega) (by decide) ?_
    refine K_nm (fun v89 e89 => ?_)
    have r89 := (rd_mkites hI ((x1 + (5 * x2)) + 3).toNat).2.1 (by omega)
    rw [← e89] at r89
    have w89 : h 187 (5 * x2.toNat + 3) = v89 := by rw [e89]; congr 1; omega
    have u89 := (hk x2.toNat (by omega)).2.2.1
    rw [w89] at u89
    refine K_imul (pc := 90) (i := 60) rfl ?_
    refine K_nm (fun v90 e90 => ?_)
    have u90 := mul_bd (A := 40) (B := 9) (a := v22 - v31) (b := v89) (by omega) (by omega)
    rw [← e90] at u90
    have p90 : 0 < v22 - v31 → 0 < v90 := fun q => by rw [e90]; exact Int.mul_pos q (by omega)
    have n90 : v22 - v31 < 0 → v90 < 0 := fun q => by rw [e90]; exact Int.mul_neg_of_neg_of_pos q (by omega)
    refine K_aload_n (pc := 91) (i := 61) rfl rfl ?_
    refine K_getR (pc := 92) (i := 62) (j := 3) (d := 187) rfl S_184 rfl (by decide) rfl fw_Model_16 ?_
    refine K_iload (pc := 95) (i := 63) rfl rfl ?_
    refine K_iconst (pc := 97) (i := 64) rfl ?_
    refine K_iadd (pc := 98) (i := 65) rfl ?_
    refine K_iald (pc := 99) (i := 66) rfl S_187 (by omega) (by omega) (by decide) ?_
    refine K_nm (fun v99 e99 => ?_)
    have r99 := (rd_mkites hI ((x1 + (5 * x3)) + 3).toNat).2.1 (by omega)
    rw [← e99] at r99
    have w99 : h 187 (5 * x3.toNat + 3) = v99 := by rw [e99]; congr 1; omega
    have u99 := (hk x3.toNat (by omega)).2.2.1
    rw [w99] at u99
    refine K_imul (pc := 100) (i := 67) rfl ?_
    refine K_nm (fun v100 e100 => ?_)
    have u100 := mul_bd (A := 360) (B := 9) (a := v90) (b := v99) (by omega) (by omega)
    rw [← e100] at u100
    have p100 : 0 < v90 → 0 < v100 := fun q => by rw [e100]; exact Int.mul_pos q (by omega)
    have n100 : v90 < 0 → v100 < 0 := fun q => by rw [e100]; exact Int.mul_neg_of_neg_of_pos q (by omega)
    refine K_aload_n (pc := 101) (i := 68) rfl rfl ?_
    refine K_iload_n (pc := 102) (i := 69) rfl rfl ?_
    refine K_iload_n (pc := 103) (i := 70) rfl rfl ?_
    refine K_iload_n (pc := 104) (i := 71) rfl rfl ?_
    refine K_cVI (pc := 105) (i := 72) rfl (c_Model_driftX G (x1 := x1) (x2 := x2) (x3 := x3) (hk := hk) (hI := hI) (s1 := by omega) (s2 := by omega) (s3 := by omega)) S_184 rfl (lv_Model_133 rfl) rfl rfl rfl rfl rfl (fun v105 h105 q105 => ?_)
    obtain ⟨eh, r105⟩ := q105
    rw [eh]; clear eh
    refine K_iload (pc := 108) (i := 73) rfl rfl ?_
    refine K_imul (pc := 110) (i := 74) rfl ?_
    refine K_nm (fun v110 e110 => ?_)
    have u110 := mul_bd (A := 720) (B := 9) (a := v105) (b := v64) (by omega) (by omega)
    rw [← e110] at u110
    have z110 : v105 = 0 → v110 = 0 := fun q => by rw [e110, q, Int.zero_mul]
    refine K_iadd (pc := 111) (i := 75) rfl ?_
    refine K_ist (pc := 112) (i := 76) (lo' := [(0, _), (1, _), (2, _), (3, _), (4, _), (5, _), (6, _), (7, _), (8, _)]) rfl rfl rfl rfl ?_
    refine K_iload (pc := 114) (i := 77) rfl rfl ?_
    first | refine K_if_le 132 (pc := 116) (i := 78) rfl rfl (by omega) (fun b116 => ?_) (fun b116 => ?_) | refine K_if_le_an 132 (pc := 116) (i := 78) rfl rfl (fun b116 => ?_) (fun b116 => ?_)
    · skip
      refine K_iload (pc := 132) (i := 85) rfl rfl ?_
      first | refine K_if_lt 141 (pc := 134) (i := 86) rfl rfl (by omega) (fun b134 => ?_) (fun b134 => ?_) | refine K_if_lt_an 141 (pc := 134) (i := 86) rfl rfl (fun b134 => ?_) (fun b134 => ?_)
      · skip
        refine K_iconst (pc := 141) (i := 89) rfl ?_
        exact K_retZ (pc := 142) (i := 90) rfl rfl (by omega) ⟨rfl, by first | exact Or.inl rfl | exact Or.inr ⟨rfl, by rw [← r105.1]; omega⟩⟩
      · skip
        refine K_iconst (pc := 137) (i := 87) rfl ?_
        refine K_goto 142 (pc := 138) (i := 88) rfl rfl ?_
        exact K_retZ (pc := 142) (i := 90) rfl rfl (by omega) ⟨rfl, by first | exact Or.inl rfl | exact Or.inr ⟨rfl, by rw [← r105.1]; omega⟩⟩
    · skip
      refine K_iload (pc := 119) (i := 79) rfl rfl ?_
      first | refine K_if_gt 128 (pc := 121) (i := 80) rfl rfl (by omega) (fun b121 => ?_) (fun b121 => ?_) | refine K_if_gt_an 128 (pc := 121) (i := 80) rfl rfl (fun b121 => ?_) (fun b121 => ?_)
      · skip
        refine K_iconst (pc := 128) (i := 83) rfl ?_
        refine K_goto 142 (pc := 129) (i := 84) rfl rfl ?_
        exact K_retZ (pc := 142) (i := 90) rfl rfl (by omega) ⟨rfl, by first | exact Or.inl rfl | exact Or.inr ⟨rfl, by rw [← r105.1]; omega⟩⟩
      · skip
        refine K_iconst (pc := 124) (i := 81) rfl ?_
        refine K_goto 142 (pc := 125) (i := 82) rfl rfl ?_
        exact K_retZ (pc := 142) (i := 90) rfl rfl (by omega) ⟨rfl, by first | exact Or.inl rfl | exact Or.inr ⟨rfl, by rw [← r105.1]; omega⟩⟩
set_option maxHeartbeats 4000000 in
set_option maxRecDepth 100000 in
theorem c_Model_where (G : kG) {g : kGh} {h : kH}  (hT : g.2.2.2.2){x1 : Int} {x2 : Int} {x3 : Int} {x4 : Int} (s1 : kR x1) (s2 : kR x2) (s3 : kR x3) (s4 : kR x4) (hI : Gd g h) : Ctr G y_Model_where X_Model_where 13 [.ref (G.2.2.2 184), kI x1, kI x2, kI x3, kI x4] h (kQi (fun z h' => Fx (fun c i => False) h h' ∧ (Gd g h' ∧ True))) := by
  refine Ctr.ofK (by decide) rfl T_Model_where (Nat.le_of_ble_eq_true rfl) (lo := [(0, .ref (G.2.2.2 184)), (1, kI x1), (2, kI x2), (3, kI x3), (4, kI x4)]) rfl ?_
  have fx : Fx (fun c i => False) h h := Fx.rf
  have hk := (hI.2.2.2.2.2 hT).1
  have hm8 := rd_many hI
  refine K_aload_n (pc := 0) (i := 0) rfl rfl ?_
  refine K_iload_n (pc := 1) (i := 1) rfl rfl ?_
  refine K_cVI (pc := 2) (i := 2) rfl (c_Model_isKite G (x1 := x1) (hI := hI) (s1 := by omega)) S_184 rfl (lv_Model_102 rfl) rfl rfl rfl rfl rfl (fun v2 h2 q2 => ?_)
  obtain ⟨eh, r2⟩ := q2
  rw [eh]; clear eh
  first | refine K_if_eq 16 (pc := 5) (i := 3) rfl rfl (by omega) (fun b5 => ?_) (fun b5 => ?_) | refine K_if_eq_an 16 (pc := 5) (i := 3) rfl rfl (fun b5 => ?_) (fun b5 => ?_)
  · skip
    refine K_iconst (pc := 16) (i := 8) rfl ?_
    exact K_retI (pc := 17) (i := 9) rfl rfl ⟨fx, ⟨hI, trivial⟩⟩
  · skip
    refine K_aload_n (pc := 8) (i := 4) rfl rfl ?_
    refine K_iload_n (pc := 9) (i := 5) rfl rfl ?_
    refine K_cVI (pc := 10) (i := 6) rfl (c_Model_isKite G (x1 := x2) (hI := hI) (s1 := by omega)) S_184 rfl (lv_Model_102 rfl) rfl rfl rfl rfl rfl (fun v10 h10 q10 => ?_)
    obtain ⟨eh, r10⟩ := q10
    rw [eh]; clear eh
    first | refine K_if_ne 18 (pc := 13) (i := 7) rfl rfl (by omega) (fun b13 => ?_) (fun b13 => ?_) | refine K_if_ne_an 18 (pc := 13) (i := 7) rfl rfl (fun b13 => ?_) (fun b13 => ?_)
    · skip
      refine K_iload_n (pc := 18) (i := 10) rfl rfl ?_
      refine K_iload_n (pc := 19) (i := 11) rfl rfl ?_
      first | refine K_icmp_ne 26 (pc := 20) (i := 12) rfl rfl (by omega) (by omega) (fun b20 => ?_) (fun b20 => ?_) | refine K_icmp_ne_an 26 (pc := 20) (i := 12) rfl rfl (fun b20 => ?_) (fun b20 => ?_)
      · skip
        refine K_aload_n (pc := 26) (i := 15) rfl rfl ?_
        refine K_iconst (pc := 27) (i := 16) rfl ?_
        refine K_iload_n (pc := 28) (i := 17) rfl rfl ?_
        refine K_iload_n (pc := 29) (i := 18) rfl rfl ?_
        refine K_cVI (pc := 30) (i := 19) rfl (c_Model_doCrossX G (x1 := 0) (x2 := x1) (x3 := x2) (hk := hk) (hI := hI) (s1 := by omega) (s2 := by omega) (s3 := by omega) (hne := by omega)) S_184 rfl (lv_Model_137 rfl) rfl rfl rfl rfl rfl (fun v30 h30 q30 => ?_)
        obtain ⟨eh, r30⟩ := q30
        rw [eh]; clear eh
        first | refine K_if_ne 39 (pc := 33) (i := 20) rfl rfl (by omega) (fun b33 => ?_) (fun b33 => ?_) | refine K_if_ne_an 39 (pc := 33) (i := 20) rfl rfl (fun b33 => ?_) (fun b33 => ?_)
        · skip
          refine K_aload_n (pc := 39) (i := 23) rfl rfl ?_
          refine K_iconst (pc := 40) (i := 24) rfl ?_
          refine K_iload_n (pc := 41) (i := 25) rfl rfl ?_
          refine K_iload_n (pc := 42) (i := 26) rfl rfl ?_
          refine K_cVI (pc := 43) (i := 27) rfl (c_Model_driftX G (x1 := 0) (x2 := x1) (x3 := x2) (hk := hk) (hI := hI) (s1 := by omega) (s2 := by omega) (s3 := by omega)) S_184 rfl (lv_Model_133 rfl) rfl rfl rfl rfl rfl (fun v43 h43 q43 => ?_)
          obtain ⟨eh, r43⟩ := q43
          rw [eh]; clear eh
          have n43 : v43 ≠ 0 := by rw [r43.1]; exact (r30.resolve_left (by omega)).2
          refine K_ist (pc := 46) (i := 28) (lo' := [(0, _), (1, _), (2, _), (3, _), (4, _), (5, _)]) rfl rfl rfl rfl ?_
          refine K_iload_n (pc := 48) (i := 29) rfl rfl ?_
          first | refine K_if_eq 66 (pc := 49) (i := 30) rfl rfl (by omega) (fun b49 => ?_) (fun b49 => ?_) | refine K_if_eq_an 66 (pc := 49) (i := 30) rfl rfl (fun b49 => ?_) (fun b49 => ?_)
          · skip
            refine K_aload_n (pc := 66) (i := 39) rfl rfl ?_
            refine K_getR (pc := 67) (i := 40) (j := 3) (d := 187) rfl S_184 rfl (by decide) rfl fw_Model_16 ?_
            refine K_iconst (pc := 70) (i := 41) rfl ?_
            refine K_iload_n (pc := 71) (i := 42) rfl rfl ?_
            refine K_imul (pc := 72) (i := 43) rfl ?_
            refine K_iconst (pc := 73) (i := 44) rfl ?_
            refine K_iadd (pc := 74) (i := 45) rfl ?_
            refine K_iald (pc := 75) (i := 46) rfl S_187 (by omega) (by omega) (by decide) ?_
            refine K_nm (fun v75 e75 => ?_)
            have r75 := rd_mkites hI ((5 * x1) + 1).toNat
            rw [← e75] at r75
            have w75 : h 187 (5 * x1.toNat + 1) = v75 := by rw [e75]; congr 1; omega
            have u75 := (hk x1.toNat (by omega)).1
            rw [w75] at u75
            refine K_ist (pc := 76) (i := 47) (lo' := [(0, _), (1, _), (2, _), (3, _), (4, _), (5, _), (6, _)]) rfl rfl rfl rfl ?_
            refine K_iload (pc := 78) (i := 48) rfl rfl ?_
            refine K_iload (pc := 80) (i := 49) rfl rfl ?_
            refine K_imul (pc := 82) (i := 50) rfl ?_
            refine K_nm (fun v82 e82 => ?_)
            have u82 := mul_bd (A := 40) (B := 720) (a := v75) (b := v43) (by omega) (by omega)
            rw [← e82] at u82
            refine K_aload_n (pc := 83) (i := 51) rfl rfl ?_
            refine K_getR (pc := 84) (i := 52) (j := 3) (d := 187) rfl S_184 rfl (by decide) rfl fw_Model_16 ?_
            refine K_iconst (pc := 87) (i := 53) rfl ?_
            refine K_iload_n (pc := 88) (i := 54) rfl rfl ?_
            refine K_imul (pc := 89) (i := 55) rfl ?_
            refine K_iconst (pc := 90) (i := 56) rfl ?_
            refine K_iadd (pc := 91) (i := 57) rfl ?_
            refine K_iald (pc := 92) (i := 58) rfl S_187 (by omega) (by omega) (by decide) ?_
            refine K_nm (fun v92 e92 => ?_)
            have r92 := rd_mkites hI ((5 * x1) + 2).toNat
            rw [← e92] at r92
            have w92 : h 187 (5 * x1.toNat + 2) = v92 := by rw [e92]; congr 1; omega
            have u92 := (hk x1.toNat (by omega)).2.1
            rw [w92] at u92
            refine K_iload (pc := 93) (i := 59) rfl rfl ?_
            refine K_isub (pc := 95) (i := 60) rfl ?_
            refine K_aload_n (pc := 96) (i := 61) rfl rfl ?_
            refine K_getR (pc := 97) (i := 62) (j := 3) (d := 187) rfl S_184 rfl (by decide) rfl fw_Model_16 ?_
            refine K_iconst (pc := 100) (i := 63) rfl ?_
            refine K_iload_n (pc := 101) (i := 64) rfl rfl ?_
            refine K_imul (pc := 102) (i := 65) rfl ?_
            refine K_iconst (pc := 103) (i := 66) rfl ?_
            refine K_iadd (pc := 104) (i := 67) rfl ?_
            refine K_iald (pc := 105) (i := 68) rfl S_187 (by omega) (by omega) (by decide) ?_
            refine K_nm (fun v105 e105 => ?_)
            have r105 := rd_mkites hI ((5 * x2) + 1).toNat
            rw [← e105] at r105
            have w105 : h 187 (5 * x2.toNat + 1) = v105 := by rw [e105]; congr 1; omega
            have u105 := (hk x2.toNat (by omega)).1
            rw [w105] at u105
            refine K_iload (pc := 106) (i := 69) rfl rfl ?_
            refine K_isub (pc := 108) (i := 70) rfl ?_
            refine K_imul (pc := 109) (i := 71) rfl ?_
            refine K_nm (fun v109 e109 => ?_)
            have u109 := mul_bd (A := 40) (B := 40) (a := v92 - v75) (b := v105 - v75) (by omega) (by omega)
            rw [← e109] at u109
            refine K_aload_n (pc := 110) (i := 72) rfl rfl ?_
            refine K_getR (pc := 111) (i := 73) (j := 3) (d := 187) rfl S_184 rfl (by decide) rfl fw_Model_16 ?_
            refine K_iconst (pc := 114) (i := 74) rfl ?_
            refine K_iload_n (pc := 115) (i := 75) rfl rfl ?_
            refine K_imul (pc := 116) (i := 76) rfl ?_
            refine K_iconst (pc := 117) (i := 77) rfl ?_
            refine K_iadd (pc := 118) (i := 78) rfl ?_
            refine K_iald (pc := 119) (i := 79) rfl S_187 (by omega) (by omega) (by decide) ?_
            refine K_nm (fun v119 e119 => ?_)
            have r119 := (rd_mkites hI ((5 * x2) + 3).toNat).2.1 (by omega)
            rw [← e119] at r119
            have w119 : h 187 (5 * x2.toNat + 3) = v119 := by rw [e119]; congr 1; omega
            have u119 := (hk x2.toNat (by omega)).2.2.1
            rw [w119] at u119
            refine K_imul (pc := 120) (i := 80) rfl ?_
            refine K_nm (fun v120 e120 => ?_)
            have u120 := mul_bd (A := 1600) (B := 9) (a := v109) (b := v119) (by omega) (by omega)
            rw [← e120] at u120
            refine K_iadd (pc := 121) (i := 81) rfl ?_
            refine K_iload (pc := 122) (i := 82) rfl rfl ?_
            refine K_iload (pc := 124) (i := 83) rfl rfl ?_
            refine K_cSI (pc := 126) (i := 84) rfl (c_Model_part G (x0 := v82 + v120) (x1 := v43) (x2 := x4) (s0 := by omega) (s1 := by omega) (hne := by omega)) (ls_Model_153 rfl) rfl rfl rfl rfl (fun v126 h126 q126 => ?_)
            obtain ⟨eh, r126⟩ := q126
            rw [eh]; clear eh
            exact K_retI (pc := 129) (i := 85) rfl rfl ⟨fx, ⟨hI, trivial⟩⟩
          · skip
            refine K_aload_n (pc := 52) (i := 31) rfl rfl ?_
            refine K_iload_n (pc := 53) (i := 32) rfl rfl ?_
            refine K_iload_n (pc := 54) (i := 33) rfl rfl ?_
            refine K_cVI (pc := 55) (i := 34) rfl (c_Model_highAboveX G (x1 := x1) (x2 := x2) (hk := hk) (hI := hI) (s1 := by omega) (s2 := by omega)) S_184 rfl (lv_Model_150 rfl) rfl rfl rfl rfl rfl (fun v55 h55 q55 => ?_)
            obtain ⟨eh, r55⟩ := q55
            rw [eh]; clear eh
            refine K_iload (pc := 58) (i := 35) rfl rfl ?_
            refine K_iload (pc := 60) (i := 36) rfl rfl ?_
            refine K_cSI (pc := 62) (i := 37) rfl (c_Model_part G (x0 := v55) (x1 := v43) (x2 := x4) (s0 := by omega) (s1 := by omega) (hne := by omega)) (ls_Model_153 rfl) rfl rfl rfl rfl (fun v62 h62 q62 => ?_)
            obtain ⟨eh, r62⟩ := q62
            rw [eh]; clear eh
            exact K_retI (pc := 65) (i := 38) rfl rfl ⟨fx, ⟨hI, trivial⟩⟩
        · skip
          refine K_bipush (pc := 36) (i := 21) rfl rfl ?_
          exact K_retI (pc := 38) (i := 22) rfl rfl ⟨fx, ⟨hI, trivial⟩⟩
      · skip
        refine K_bipush (pc := 23) (i := 13) rfl rfl ?_
        exact K_retI (pc := 25) (i := 14) rfl rfl ⟨fx, ⟨hI, trivial⟩⟩
    · skip
      refine K_iconst (pc := 16) (i := 8) rfl ?_
      exact K_retI (pc := 17) (i := 9) rfl rfl ⟨fx, ⟨hI, trivial⟩⟩
