theorem kLcmp_self (a : Int) : kLcmp a a = 0 := by
  unfold kLcmp lg_cmp
  rw [if_neg (by simp [Int64.lt_iff_toInt_lt]), if_pos rfl]
  rfl
theorem lkA {α : Type} {a b : List α} {n i : Nat} {q : α} (hn : a.length = n) (h0 : n ≤ i) (h : b[i - n]? = some q) : (a ++ b)[i]? = some q := by
  rw [List.getElem?_append_right (by omega), hn]; exact h
theorem lkB {α : Type} {a b : List α} {i : Nat} {q : α} (h : a[i]? = some q) : (a ++ b)[i]? = some q := by
  obtain ⟨hi, -⟩ := List.getElem?_eq_some_iff.mp h
  rw [List.getElem?_append_left hi]; exact h
theorem sk_0 {i : Nat} {q : Nat × Instr × Nat} (h0 : 0 ≤ i) (h : (tl_0 ++ (tl_1 ++ (tl_2 ++ (tl_3 ++ (tl_4 ++ (tl_5 ++ (tl_6 ++ (tl_7 ++ (tl_8 ++ (tl_9 ++ (tl_10 ++ (tl_11 ++ (tl_12 ++ (tl_13 ++ (tl_14 ++ (tl_15))))))))))))))))[i - 0]? = some q) : X_law.2.2.2.2[i]? = some q := by rw [X_law_tab]; exact h
theorem lk_0 {i : Nat} {q : Nat × Instr × Nat} (h0 : Nat.ble 0 i = true) (h : tl_0[i - 0]? = some q) : X_law.2.2.2.2[i]? = some q := sk_0 (Nat.le_of_ble_eq_true h0) (lkB h)
theorem sk_1 {i : Nat} {q : Nat × Instr × Nat} (h0 : 50 ≤ i) (h : (tl_1 ++ (tl_2 ++ (tl_3 ++ (tl_4 ++ (tl_5 ++ (tl_6 ++ (tl_7 ++ (tl_8 ++ (tl_9 ++ (tl_10 ++ (tl_11 ++ (tl_12 ++ (tl_13 ++ (tl_14 ++ (tl_15)))))))))))))))[i - 50]? = some q) : X_law.2.2.2.2[i]? = some q := sk_0 (by omega) (lkA (n := 50) rfl (by omega) (by rw [show i - 0 - 50 = i - 50 by omega]; exact h))
theorem lk_1 {i : Nat} {q : Nat × Instr × Nat} (h0 : Nat.ble 50 i = true) (h : tl_1[i - 50]? = some q) : X_law.2.2.2.2[i]? = some q := sk_1 (Nat.le_of_ble_eq_true h0) (lkB h)
theorem sk_2 {i : Nat} {q : Nat × Instr × Nat} (h0 : 100 ≤ i) (h : (tl_2 ++ (tl_3 ++ (tl_4 ++ (tl_5 ++ (tl_6 ++ (tl_7 ++ (tl_8 ++ (tl_9 ++ (tl_10 ++ (tl_11 ++ (tl_12 ++ (tl_13 ++ (tl_14 ++ (tl_15))))))))))))))[i - 100]? = some q) : X_law.2.2.2.2[i]? = some q := sk_1 (by omega) (lkA (n := 50) rfl (by omega) (by rw [show i - 50 - 50 = i - 100 by omega]; exact h))
theorem lk_2 {i : Nat} {q : Nat × Instr × Nat} (h0 : Nat.ble 100 i = true) (h : tl_2[i - 100]? = some q) : X_law.2.2.2.2[i]? = some q := sk_2 (Nat.le_of_ble_eq_true h0) (lkB h)
theorem sk_3 {i : Nat} {q : Nat × Instr × Nat} (h0 : 150 ≤ i) (h : (tl_3 ++ (tl_4 ++ (tl_5 ++ (tl_6 ++ (tl_7 ++ (tl_8 ++ (tl_9 ++ (tl_10 ++ (tl_11 ++ (tl_12 ++ (tl_13 ++ (tl_14 ++ (tl_15)))))))))))))[i - 150]? = some q) : X_law.2.2.2.2[i]? = some q := sk_2 (by omega) (lkA (n := 50) rfl (by omega) (by rw [show i - 100 - 50 = i - 150 by omega]; exact h))
theorem lk_3 {i : Nat} {q : Nat × Instr × Nat} (h0 : Nat.ble 150 i = true) (h : tl_3[i - 150]? = some q) : X_law.2.2.2.2[i]? = some q := sk_3 (Nat.le_of_ble_eq_true h0) (lkB h)
theorem sk_4 {i : Nat} {q : Nat × Instr × Nat} (h0 : 200 ≤ i) (h : (tl_4 ++ (tl_5 ++ (tl_6 ++ (tl_7 ++ (tl_8 ++ (tl_9 ++ (tl_10 ++ (tl_11 ++ (tl_12 ++ (tl_13 ++ (tl_14 ++ (tl_15))))))))))))[i - 200]? = some q) : X_law.2.2.2.2[i]? = some q := sk_3 (by omega) (lkA (n := 50) rfl (by omega) (by rw [show i - 150 - 50 = i - 200 by omega]; exact h))
theorem lk_4 {i : Nat} {q : Nat × Instr × Nat} (h0 : Nat.ble 200 i = true) (h : tl_4[i - 200]? = some q) : X_law.2.2.2.2[i]? = some q := sk_4 (Nat.le_of_ble_eq_true h0) (lkB h)
theorem sk_5 {i : Nat} {q : Nat × Instr × Nat} (h0 : 250 ≤ i) (h : (tl_5 ++ (tl_6 ++ (tl_7 ++ (tl_8 ++ (tl_9 ++ (tl_10 ++ (tl_11 ++ (tl_12 ++ (tl_13 ++ (tl_14 ++ (tl_15)))))))))))[i - 250]? = some q) : X_law.2.2.2.2[i]? = some q := sk_4 (by omega) (lkA (n := 50) rfl (by omega) (by rw [show i - 200 - 50 = i - 250 by omega]; exact h))
theorem lk_5 {i : Nat} {q : Nat × Instr × Nat} (h0 : Nat.ble 250 i = true) (h : tl_5[i - 250]? = some q) : X_law.2.2.2.2[i]? = some q := sk_5 (Nat.le_of_ble_eq_true h0) (lkB h)
theorem sk_6 {i : Nat} {q : Nat × Instr × Nat} (h0 : 300 ≤ i) (h : (tl_6 ++ (tl_7 ++ (tl_8 ++ (tl_9 ++ (tl_10 ++ (tl_11 ++ (tl_12 ++ (tl_13 ++ (tl_14 ++ (tl_15))))))))))[i - 300]? = some q) : X_law.2.2.2.2[i]? = some q := sk_5 (by omega) (lkA (n := 50) rfl (by omega) (by rw [show i - 250 - 50 = i - 300 by omega]; exact h))
theorem lk_6 {i : Nat} {q : Nat × Instr × Nat} (h0 : Nat.ble 300 i = true) (h : tl_6[i - 300]? = some q) : X_law.2.2.2.2[i]? = some q := sk_6 (Nat.le_of_ble_eq_true h0) (lkB h)
theorem sk_7 {i : Nat} {q : Nat × Instr × Nat} (h0 : 350 ≤ i) (h : (tl_7 ++ (tl_8 ++ (tl_9 ++ (tl_10 ++ (tl_11 ++ (tl_12 ++ (tl_13 ++ (tl_14 ++ (tl_15)))))))))[i - 350]? = some q) : X_law.2.2.2.2[i]? = some q := sk_6 (by omega) (lkA (n := 50) rfl (by omega) (by rw [show i - 300 - 50 = i - 350 by omega]; exact h))
theorem lk_7 {i : Nat} {q : Nat × Instr × Nat} (h0 : Nat.ble 350 i = true) (h : tl_7[i - 350]? = some q) : X_law.2.2.2.2[i]? = some q := sk_7 (Nat.le_of_ble_eq_true h0) (lkB h)
theorem sk_8 {i : Nat} {q : Nat × Instr × Nat} (h0 : 400 ≤ i) (h : (tl_8 ++ (tl_9 ++ (tl_10 ++ (tl_11 ++ (tl_12 ++ (tl_13 ++ (tl_14 ++ (tl_15))))))))[i - 400]? = some q) : X_law.2.2.2.2[i]? = some q := sk_7 (by omega) (lkA (n := 50) rfl (by omega) (by rw [show i - 350 - 50 = i - 400 by omega]; exact h))
theorem lk_8 {i : Nat} {q : Nat × Instr × Nat} (h0 : Nat.ble 400 i = true) (h : tl_8[i - 400]? = some q) : X_law.2.2.2.2[i]? = some q := sk_8 (Nat.le_of_ble_eq_true h0) (lkB h)
theorem sk_9 {i : Nat} {q : Nat × Instr × Nat} (h0 : 450 ≤ i) (h : (tl_9 ++ (tl_10 ++ (tl_11 ++ (tl_12 ++ (tl_13 ++ (tl_14 ++ (tl_15)))))))[i - 450]? = some q) : X_law.2.2.2.2[i]? = some q := sk_8 (by omega) (lkA (n := 50) rfl (by omega) (by rw [show i - 400 - 50 = i - 450 by omega]; exact h))
theorem lk_9 {i : Nat} {q : Nat × Instr × Nat} (h0 : Nat.ble 450 i = true) (h : tl_9[i - 450]? = some q) : X_law.2.2.2.2[i]? = some q := sk_9 (Nat.le_of_ble_eq_true h0) (lkB h)
theorem sk_10 {i : Nat} {q : Nat × Instr × Nat} (h0 : 500 ≤ i) (h : (tl_10 ++ (tl_11 ++ (tl_12 ++ (tl_13 ++ (tl_14 ++ (tl_15))))))[i - 500]? = some q) : X_law.2.2.2.2[i]? = some q := sk_9 (by omega) (lkA (n := 50) rfl (by omega) (by rw [show i - 450 - 50 = i - 500 by omega]; exact h))
theorem lk_10 {i : Nat} {q : Nat × Instr × Nat} (h0 : Nat.ble 500 i = true) (h : tl_10[i - 500]? = some q) : X_law.2.2.2.2[i]? = some q := sk_10 (Nat.le_of_ble_eq_true h0) (lkB h)
theorem sk_11 {i : Nat} {q : Nat × Instr × Nat} (h0 : 550 ≤ i) (h : (tl_11 ++ (tl_12 ++ (tl_13 ++ (tl_14 ++ (tl_15)))))[i - 550]? = some q) : X_law.2.2.2.2[i]? = some q := sk_10 (by omega) (lkA (n := 50) rfl (by omega) (by rw [show i - 500 - 50 = i - 550 by omega]; exact h))
theorem lk_11 {i : Nat} {q : Nat × Instr × Nat} (h0 : Nat.ble 550 i = true) (h : tl_11[i - 550]? = some q) : X_law.2.2.2.2[i]? = some q := sk_11 (Nat.le_of_ble_eq_true h0) (lkB h)
theorem sk_12 {i : Nat} {q : Nat × Instr × Nat} (h0 : 600 ≤ i) (h : (tl_12 ++ (tl_13 ++ (tl_14 ++ (tl_15))))[i - 600]? = some q) : X_law.2.2.2.2[i]? = some q := sk_11 (by omega) (lkA (n := 50) rfl (by omega) (by rw [show i - 550 - 50 = i - 600 by omega]; exact h))
theorem lk_12 {i : Nat} {q : Nat × Instr × Nat} (h0 : Nat.ble 600 i = true) (h : tl_12[i - 600]? = some q) : X_law.2.2.2.2[i]? = some q := sk_12 (Nat.le_of_ble_eq_true h0) (lkB h)
theorem sk_13 {i : Nat} {q : Nat × Instr × Nat} (h0 : 650 ≤ i) (h : (tl_13 ++ (tl_14 ++ (tl_15)))[i - 650]? = some q) : X_law.2.2.2.2[i]? = some q := sk_12 (by omega) (lkA (n := 50) rfl (by omega) (by rw [show i - 600 - 50 = i - 650 by omega]; exact h))
theorem lk_13 {i : Nat} {q : Nat × Instr × Nat} (h0 : Nat.ble 650 i = true) (h : tl_13[i - 650]? = some q) : X_law.2.2.2.2[i]? = some q := sk_13 (Nat.le_of_ble_eq_true h0) (lkB h)
theorem sk_14 {i : Nat} {q : Nat × Instr × Nat} (h0 : 700 ≤ i) (h : (tl_14 ++ (tl_15))[i - 700]? = some q) : X_law.2.2.2.2[i]? = some q := sk_13 (by omega) (lkA (n := 50) rfl (by omega) (by rw [show i - 650 - 50 = i - 700 by omega]; exact h))
theorem lk_14 {i : Nat} {q : Nat × Instr × Nat} (h0 : Nat.ble 700 i = true) (h : tl_14[i - 700]? = some q) : X_law.2.2.2.2[i]? = some q := sk_14 (Nat.le_of_ble_eq_true h0) (lkB h)
theorem sk_15 {i : Nat} {q : Nat × Instr × Nat} (h0 : 750 ≤ i) (h : (tl_15)[i - 750]? = some q) : X_law.2.2.2.2[i]? = some q := sk_14 (by omega) (lkA (n := 50) rfl (by omega) (by rw [show i - 700 - 50 = i - 750 by omega]; exact h))
theorem lk_15 {i : Nat} {q : Nat × Instr × Nat} (h0 : Nat.ble 750 i = true) (h : tl_15[i - 750]? = some q) : X_law.2.2.2.2[i]? = some q := sk_15 (Nat.le_of_ble_eq_true h0) (h)
set_option maxHeartbeats 40000000 in
set_option maxRecDepth 100000 in
theorem law_loop (G : kG) {b L : Nat} {xs : Nat → Int32} (hL : L ≤ 2560) (h : kH) (hI : ∃ la lb : Int, Gd (la, lb, la, lb, True) h ∧ Rl h) : K X_law G (lZ b L xs G.2.2.2) 18 [(0, .ref b), (1, .ref (G.2.2.2 0)), (2, .ref (G.2.2.2 184)), (3, kI 0)] [] h := by
  have L18 : ∀ (n : Nat) (x3 : Int) (ha : kH), (2561 - x3).toNat < n → ((0 ≤ x3 ∧ x3 ≤ 2560) ∧ ∃ la lb : Int, Gd (la, lb, la, lb, True) ha ∧ Rl ha) → K X_law G (lZ b L xs G.2.2.2) 18 [(0, .ref b), (1, .ref (G.2.2.2 0)), (2, .ref (G.2.2.2 184)), (3, kI x3)] [] ha := by
    intro n
    induction n with
    | zero => intro x3 ha hm; exact absurd hm (Nat.not_lt_zero _)
    | succ n ih18 =>
      intro x3 ha hm18 hV18
      obtain ⟨hx, la, lb, hI, rl⟩ := hV18
      have ga : ha 1 1 = la := hI.2.1
      have hI0 := hI
      have hk0 : MOk ha := hI.2.2.2.2.2 trivial
      have tl0 : ha 1 1 = ha 184 8 := hI.2.1.trans hI.2.2.2.1.symm
      have bl : 0 ≤ la ∧ la ≤ 74 := by have q := rd_len hI; rw [show ha 1 1 = la from hI.2.1] at q; exact q
      refine K_iload_n (pc := 18) (i := 10) (lk_0 rfl rfl) rfl ?_
      refine K_aload_n (pc := 19) (i := 11) (lk_0 rfl rfl) rfl ?_
      refine K_slen (pc := 20) (i := 12) (lk_0 rfl rfl) ?_
      refine K_iconst (pc := 21) (i := 13) (lk_0 rfl rfl) ?_
      refine K_isub (pc := 22) (i := 14) (lk_0 rfl rfl) ?_
      first | refine K_icmp_gt 1135 (pc := 23) (i := 15) (lk_0 rfl rfl) rfl (by omega) (by omega) (fun b23 => ?_) (fun b23 => ?_) | refine K_icmp_gt_an 1135 (pc := 23) (i := 15) (lk_0 rfl rfl) rfl (fun b23 => ?_) (fun b23 => ?_)
      · skip
        refine K_iconst (pc := 1135) (i := 751) (lk_15 rfl rfl) ?_
        exact K_lawret (pc := 1136) (i := 752) (lk_15 rfl rfl)
      · skip
        refine K_aload_n (pc := 26) (i := 16) (lk_0 rfl rfl) rfl ?_
        refine K_iload_n (pc := 27) (i := 17) (lk_0 rfl rfl) rfl ?_
        refine K_sld (pc := 28) (i := 18) (lk_0 rfl rfl) (by omega) (by omega) hL ?_
        refine K_nm (fun v28 e28 => ?_)
        have r28 := kR_of (xs (x3).toNat)
        rw [← e28] at r28
        refine K_bipush (pc := 29) (i := 19) (lk_0 rfl rfl) rfl ?_
        refine K_iand (pc := 31) (i := 20) (lk_0 rfl rfl) ?_
        refine K_nm (fun v31 e31 => ?_)
        have r31 := kAnd_31 v28
        rw [← e31] at r31
        by_cases sw32 : (0 : Int) ≤ v31 ∧ v31 ≤ 30
        · skip
          rcases sw31 sw32 with sx32 | sx32 | sx32 | sx32 | sx32 | sx32 | sx32 | sx32 | sx32 | sx32 | sx32 | sx32 | sx32 | sx32 | sx32 | sx32 | sx32 | sx32 | sx32 | sx32 | sx32 | sx32 | sx32 | sx32 | sx32 | sx32 | sx32 | sx32 | sx32 | sx32 | sx32
          · refine K_tableIn 172 (by omega) (pc := 32) (i := 21) (lk_0 rfl rfl) (by omega) (by omega) (by rw [sx32]; rfl) rfl ?_
            refine K_aload_n (pc := 172) (i := 22) (lk_0 rfl rfl) rfl ?_
            refine K_aload_n (pc := 173) (i := 23) (lk_0 rfl rfl) rfl ?_
            refine K_iload_n (pc := 174) (i := 24) (lk_0 rfl rfl) rfl ?_
            refine K_iconst (pc := 175) (i := 25) (lk_0 rfl rfl) ?_
            refine K_iadd (pc := 176) (i := 26) (lk_0 rfl rfl) ?_
            refine K_sld (pc := 177) (i := 27) (lk_0 rfl rfl) (by omega) (by omega) hL ?_
            refine K_nm (fun v177 e177 => ?_)
            have r177 := kR_of (xs (x3 + 1).toNat)
            rw [← e177] at r177
            refine K_aload_n (pc := 178) (i := 28) (lk_0 rfl rfl) rfl ?_
            refine K_iload_n (pc := 179) (i := 29) (lk_0 rfl rfl) rfl ?_
            refine K_iconst (pc := 180) (i := 30) (lk_0 rfl rfl) ?_
            refine K_iadd (pc := 181) (i := 31) (lk_0 rfl rfl) ?_
            refine K_sld (pc := 182) (i := 32) (lk_0 rfl rfl) (by omega) (by omega) hL ?_
            refine K_nm (fun v182 e182 => ?_)
            have r182 := kR_of (xs (x3 + 2).toNat)
            rw [← e182] at r182
            refine K_i2l (pc := 183) (i := 33) (lk_0 rfl rfl) ?_
            refine K_eqJ (kI2l_eq (a := v182) (by omega)) ?_
            refine K_bipush (pc := 184) (i := 34) (lk_0 rfl rfl) rfl ?_
            refine K_lshl (pc := 186) (i := 35) (lk_0 rfl rfl) ?_
            refine K_aload_n (pc := 187) (i := 36) (lk_0 rfl rfl) rfl ?_
            refine K_iload_n (pc := 188) (i := 37) (lk_0 rfl rfl) rfl ?_
            refine K_iconst (pc := 189) (i := 38) (lk_0 rfl rfl) ?_
            refine K_iadd (pc := 190) (i := 39) (lk_0 rfl rfl) ?_
            refine K_sld (pc := 191) (i := 40) (lk_0 rfl rfl) (by omega) (by omega) hL ?_
            refine K_nm (fun v191 e191 => ?_)
            have r191 := kR_of (xs (x3 + 3).toNat)
            rw [← e191] at r191
            refine K_i2l (pc := 192) (i := 41) (lk_0 rfl rfl) ?_
            refine K_eqJ (kI2l_eq (a := v191) (by omega)) ?_
            refine K_ldc2 (4294967295) (pc := 193) (i := 42) (lk_0 rfl rfl) cl_law_13 (by decide) ?_
            refine K_land (pc := 196) (i := 43) (lk_0 rfl rfl) ?_
            refine K_lor (pc := 197) (i := 44) (lk_0 rfl rfl) ?_
            refine K_cVI (pc := 198) (i := 45) (lk_0 rfl rfl) (c_War_write G (x1 := v177) (l2 := kLor (kLshl v182 32) (kLand v191 4294967295)) (hI := hI) (s1 := by omega)) S_0 rfl (lv_law_15 rfl) rfl rfl rfl rfl rfl (fun v198 h198 q198 => ?_)
            obtain ⟨fx198, q198⟩ := q198
            obtain ⟨r198, wb198⟩ := q198
            dsimp only at r198
            obtain ⟨n1, hI, c1⟩ : ∃ n : Int, Gd (n, lb, la, lb, True) h198 ∧ ((1 ≤ v177 ∧ v177 ≤ 8 ∧ la + v177 ≤ 74 ∧ n = la + v177 ∧ v198 = la + v177) ∨ ((v177 < 1 ∨ 8 < v177) ∧ n = la ∧ v198 = -2) ∨ (1 ≤ v177 ∧ v177 ≤ 8 ∧ 74 < la + v177 ∧ n = la ∧ v198 = -4)) := by rcases r198 with q | q | q; exact ⟨_, q.2.2.2.2, Or.inl ⟨q.1, q.2.1, q.2.2.1, rfl, q.2.2.2.1⟩⟩; exact ⟨_, q.2.2, Or.inr (Or.inl ⟨q.1, rfl, q.2.1⟩)⟩; exact ⟨_, q.2.2.2.2, Or.inr (Or.inr ⟨q.1, q.2.1, q.2.2.1, rfl, q.2.2.2.1⟩)⟩
            dsimp only at wb198
            refine K_pop (pc := 201) (i := 46) (lk_0 rfl rfl) rfl ?_
            refine K_aload_n (pc := 202) (i := 47) (lk_0 rfl rfl) rfl ?_
            refine K_aload_n (pc := 203) (i := 48) (lk_0 rfl rfl) rfl ?_
            refine K_iload_n (pc := 204) (i := 49) (lk_0 rfl rfl) rfl ?_
            refine K_iconst (pc := 205) (i := 50) (lk_1 rfl rfl) ?_
            refine K_iadd (pc := 206) (i := 51) (lk_1 rfl rfl) ?_
            refine K_sld (pc := 207) (i := 52) (lk_1 rfl rfl) (by omega) (by omega) hL ?_
            refine K_nm (fun v207 e207 => ?_)
            have r207 := kR_of (xs (x3 + 1).toNat)
            rw [← e207] at r207
            refine K_aload_n (pc := 208) (i := 53) (lk_1 rfl rfl) rfl ?_
            refine K_iload_n (pc := 209) (i := 54) (lk_1 rfl rfl) rfl ?_
            refine K_iconst (pc := 210) (i := 55) (lk_1 rfl rfl) ?_
            refine K_iadd (pc := 211) (i := 56) (lk_1 rfl rfl) ?_
            refine K_sld (pc := 212) (i := 57) (lk_1 rfl rfl) (by omega) (by omega) hL ?_
            refine K_nm (fun v212 e212 => ?_)
            have r212 := kR_of (xs (x3 + 2).toNat)
            rw [← e212] at r212
            refine K_i2l (pc := 213) (i := 58) (lk_1 rfl rfl) ?_
            refine K_eqJ (kI2l_eq (a := v212) (by omega)) ?_
            refine K_bipush (pc := 214) (i := 59) (lk_1 rfl rfl) rfl ?_
            refine K_lshl (pc := 216) (i := 60) (lk_1 rfl rfl) ?_
            refine K_aload_n (pc := 217) (i := 61) (lk_1 rfl rfl) rfl ?_
            refine K_iload_n (pc := 218) (i := 62) (lk_1 rfl rfl) rfl ?_
            refine K_iconst (pc := 219) (i := 63) (lk_1 rfl rfl) ?_
            refine K_iadd (pc := 220) (i := 64) (lk_1 rfl rfl) ?_
            refine K_sld (pc := 221) (i := 65) (lk_1 rfl rfl) (by omega) (by omega) hL ?_
            refine K_nm (fun v221 e221 => ?_)
            have r221 := kR_of (xs (x3 + 3).toNat)
            rw [← e221] at r221
            refine K_i2l (pc := 222) (i := 66) (lk_1 rfl rfl) ?_
            refine K_eqJ (kI2l_eq (a := v221) (by omega)) ?_
            refine K_ldc2 (4294967295) (pc := 223) (i := 67) (lk_1 rfl rfl) cl_law_13 (by decide) ?_
            refine K_land (pc := 226) (i := 68) (lk_1 rfl rfl) ?_
            refine K_lor (pc := 227) (i := 69) (lk_1 rfl rfl) ?_
            refine K_cVI (pc := 228) (i := 70) (lk_1 rfl rfl) (c_Model_write G (x1 := v207) (l2 := kLor (kLshl v212 32) (kLand v221 4294967295)) (hI := hI) (s1 := by omega)) S_184 rfl (lv_law_19 rfl) rfl rfl rfl rfl rfl (fun v228 h228 q228 => ?_)
            obtain ⟨fx228, q228⟩ := q228
            obtain ⟨r228, wb228⟩ := q228
            dsimp only at r228
            obtain ⟨n2, hI, c2⟩ : ∃ n : Int, Gd (n1, lb, n, lb, True) h228 ∧ ((1 ≤ v207 ∧ v207 ≤ 8 ∧ la + v207 ≤ 74 ∧ n = la + v207 ∧ v228 = la + v207) ∨ ((v207 < 1 ∨ 8 < v207) ∧ n = la ∧ v228 = -2) ∨ (1 ≤ v207 ∧ v207 ≤ 8 ∧ 74 < la + v207 ∧ n = la ∧ v228 = -4)) := by rcases r228 with q | q | q; exact ⟨_, q.2.2.2.2, Or.inl ⟨q.1, q.2.1, q.2.2.1, rfl, q.2.2.2.1⟩⟩; exact ⟨_, q.2.2, Or.inr (Or.inl ⟨q.1, rfl, q.2.1⟩)⟩; exact ⟨_, q.2.2.2.2, Or.inr (Or.inr ⟨q.1, q.2.1, q.2.2.1, rfl, q.2.2.2.1⟩)⟩
            have q0 : v207 = v177 := by rw [e207, e177]
            have q3 : n2 = n1 := by omega
            rw [q3] at hI
            dsimp only at wb228
            have q1 : v212 = v182 := by rw [e212, e182]
            have q2 : v221 = v191 := by rw [e221, e191]
            have tx : h228 2 = h228 190 := if cw : (1 ≤ v177 ∧ v177 ≤ 8 ∧ la + v177 ≤ 74) then (by rw [fx228.cell 2 (fun i => (by first | (dsimp only; omega) | omega | exact not_false))]; have y := wb228.1 (by rw [q0]; exact cw); rw [q0, q1, q2, fx198.cell 190 (fun i => (by first | (dsimp only; omega) | omega | exact not_false)), ← rl.1] at y; exact (wb198.1 cw).uniq y) else (by rw [fx228.cell 2 (fun i => (by first | (dsimp only; omega) | omega | exact not_false)), wb198.2 cw, wb228.2 (by rw [q0]; exact cw), fx198.cell 190 (fun i => (by first | (dsimp only; omega) | omega | exact not_false))]; exact rl.1)
            have rl : Rl h228 := ⟨tx, rl.2.fx hI0 (Fx.two fx198 fx228) (fun c i q => by rintro (e | e) <;> first | exact False.elim e | (dsimp only at e; omega) | omega) (fun c i q => by rintro (e | e) <;> first | exact False.elim e | (dsimp only at e; omega) | omega) (fun c i q => by rintro (e | e) <;> first | exact False.elim e | (dsimp only at e; omega) | omega) (fun c i q => by rintro (e | e) <;> first | exact False.elim e | (dsimp only at e; omega) | omega) (fun c i q => by rintro (e | e) <;> first | exact False.elim e | (dsimp only at e; omega) | omega) (fun c i q => by rintro (e | e) <;> first | exact False.elim e | (dsimp only at e; omega) | omega)⟩
            refine K_pop (pc := 231) (i := 71) (lk_1 rfl rfl) rfl ?_
            refine K_goto 1129 (pc := 232) (i := 72) (lk_1 rfl rfl) rfl ?_
            refine K_inc (pc := 1129) (i := 749) (q := 3) (lo' := [(0, _), (1, _), (2, _), (3, _)]) rfl rfl rfl rfl rfl ?_
            refine K_goto 18 (pc := 1132) (i := 750) (lk_15 rfl rfl) rfl ?_
            exact ih18 (x3 + 5) _ (by omega) ⟨by omega, _, _, hI, rl⟩
          · refine K_tableIn 235 (by omega) (pc := 32) (i := 21) (lk_0 rfl rfl) (by omega) (by omega) (by rw [sx32]; rfl) rfl ?_
            refine K_aload_n (pc := 235) (i := 73) (lk_1 rfl rfl) rfl ?_
            refine K_cVI (pc := 236) (i := 74) (lk_1 rfl rfl) (c_War_wipe G (hI := hI)) S_0 rfl (lv_law_20 rfl) rfl rfl rfl rfl rfl (fun v236 h236 q236 => ?_)
            obtain ⟨fx236, q236⟩ := q236
            obtain ⟨r236, hI⟩ := q236
            dsimp only at r236
            refine K_pop (pc := 239) (i := 75) (lk_1 rfl rfl) rfl ?_
            refine K_aload_n (pc := 240) (i := 76) (lk_1 rfl rfl) rfl ?_
            refine K_cVI (pc := 241) (i := 77) (lk_1 rfl rfl) (c_Model_wipe G (hI := hI)) S_184 rfl (lv_law_24 rfl) rfl rfl rfl rfl rfl (fun v241 h241 q241 => ?_)
            obtain ⟨fx241, q241⟩ := q241
            obtain ⟨r241, hI⟩ := q241
            dsimp only at r241
            have hI : Gd (0, lb, 0, lb, True) h241 := hI
            have rs : Rs h241 := rl.2.fx hI0 (Fx.two fx236 fx241) (fun c i q => by rintro (e | e) <;> first | exact False.elim e | (dsimp only at e; omega) | omega) (fun c i q => by rintro (e | e) <;> first | exact False.elim e | (dsimp only at e; omega) | omega) (fun c i q => by rintro (e | e) <;> first | exact False.elim e | (dsimp only at e; omega) | omega) (fun c i q => by rintro (e | e) <;> first | exact False.elim e | (dsimp only at e; omega) | omega) (fun c i q => by rintro (e | e) <;> first | exact False.elim e | (dsimp only at e; omega) | omega) (fun c i q => by rintro (e | e) <;> first | exact False.elim e | (dsimp only at e; omega) | omega)
            have rl : Rl h241 := ⟨by rw [fx241.cell 2 (fun i => (by first | (dsimp only; omega) | omega | exact not_false)), fx241.cell 190 (fun i => (by first | (dsimp only; omega) | omega | exact not_false)), fx236.cell 2 (fun i => (by first | (dsimp only; omega) | omega | exact not_false)), fx236.cell 190 (fun i => (by first | (dsimp only; omega) | omega | exact not_false))]; exact rl.1, rs⟩
            refine K_pop (pc := 244) (i := 78) (lk_1 rfl rfl) rfl ?_
            refine K_goto 1129 (pc := 245) (i := 79) (lk_1 rfl rfl) rfl ?_
            refine K_inc (pc := 1129) (i := 749) (q := 3) (lo' := [(0, _), (1, _), (2, _), (3, _)]) rfl rfl rfl rfl rfl ?_
            refine K_goto 18 (pc := 1132) (i := 750) (lk_15 rfl rfl) rfl ?_
            exact ih18 (x3 + 5) _ (by omega) ⟨by omega, _, _, hI, rl⟩
          · refine K_tableIn 248 (by omega) (pc := 32) (i := 21) (lk_0 rfl rfl) (by omega) (by omega) (by rw [sx32]; rfl) rfl ?_
            refine K_aload_n (pc := 248) (i := 80) (lk_1 rfl rfl) rfl ?_
            refine K_cVI (pc := 249) (i := 81) (lk_1 rfl rfl) (c_War_fault G (hI := hI)) S_0 rfl (lv_law_25 rfl) rfl rfl rfl rfl rfl (fun v249 h249 q249 => ?_)
            obtain ⟨fx249, q249⟩ := q249
            obtain ⟨hI, r249⟩ := q249
            have gb : h249 184 8 = la := hI.2.2.2.1
            refine K_pop (pc := 252) (i := 82) (lk_1 rfl rfl) rfl ?_
            refine K_aload_n (pc := 253) (i := 83) (lk_1 rfl rfl) rfl ?_
            refine K_cVI (pc := 254) (i := 84) (lk_1 rfl rfl) (c_Model_fault G (hI := hI)) S_184 rfl (lv_law_28 rfl) rfl rfl rfl rfl rfl (fun v254 h254 q254 => ?_)
            obtain ⟨fx254, q254⟩ := q254
            obtain ⟨hI, r254⟩ := q254
            have q0 : v249 = v254 := FaultIs.uniq (b := ha 2) (len := la) (by have q := r249; rw [ga] at q; exact q) (by have q := r254; rw [fx249.cell 190 (fun i => (by first | (dsimp only; omega) | omega | exact not_false)), gb, ← show ha 2 = ha 190 from rl.1] at q; exact q)
            have rs : Rs h254 := rl.2.fx hI0 (Fx.two fx249 fx254) (fun c i q => by rintro (e | e) <;> first | exact False.elim e | (dsimp only at e; omega) | omega) (fun c i q => by rintro (e | e) <;> first | exact False.elim e | (dsimp only at e; omega) | omega) (fun c i q => by rintro (e | e) <;> first | exact False.elim e | (dsimp only at e; omega) | omega) (fun c i q => by rintro (e | e) <;> first | exact False.elim e | (dsimp only at e; omega) | omega) (fun c i q => by rintro (e | e) <;> first | exact False.elim e | (dsimp only at e; omega) | omega) (fun c i q => by rintro (e | e) <;> first | exact False.elim e | (dsimp only at e; omega) | omega)
            have rl : Rl h254 := ⟨by rw [fx254.cell 2 (fun i => (by first | (dsimp only; omega) | omega | exact not_false)), fx254.cell 190 (fun i => (by first | (dsimp only; omega) | omega | exact not_false)), fx249.cell 2 (fun i => (by first | (dsimp only; omega) | omega | exact not_false)), fx249.cell 190 (fun i => (by first | (dsimp only; omega) | omega | exact not_false))]; exact rl.1, rs⟩
            refine K_pop (pc := 257) (i := 85) (lk_1 rfl rfl) rfl ?_
            refine K_goto 1129 (pc := 258) (i := 86) (lk_1 rfl rfl) rfl ?_
            refine K_inc (pc := 1129) (i := 749) (q := 3) (lo' := [(0, _), (1, _), (2, _), (3, _)]) rfl rfl rfl rfl rfl ?_
            refine K_goto 18 (pc := 1132) (i := 750) (lk_15 rfl rfl) rfl ?_
            exact ih18 (x3 + 5) _ (by omega) ⟨by omega, _, _, hI, rl⟩
          · refine K_tableIn 261 (by omega) (pc := 32) (i := 21) (lk_0 rfl rfl) (by omega) (by omega) (by rw [sx32]; rfl) rfl ?_
            refine K_aload_n (pc := 261) (i := 87) (lk_1 rfl rfl) rfl ?_
            refine K_cVI (pc := 262) (i := 88) (lk_1 rfl rfl) (c_War_war G (hI := hI)) S_0 rfl (lv_law_29 rfl) rfl rfl rfl rfl rfl (fun v262 h262 q262 => ?_)
            obtain ⟨fx262, q262⟩ := q262
            obtain ⟨hI, cw262⟩ := q262
            refine K_pop (pc := 265) (i := 89) (lk_1 rfl rfl) rfl ?_
            refine K_aload_n (pc := 266) (i := 90) (lk_1 rfl rfl) rfl ?_
            refine K_cVI (pc := 267) (i := 91) (lk_1 rfl rfl) (c_Model_war G (hI := hI)) S_184 rfl (lv_law_32 rfl) rfl rfl rfl rfl rfl (fun v267 h267 q267 => ?_)
            obtain ⟨fx267, q267⟩ := q267
            obtain ⟨hI, cm267⟩ := q267
            obtain ⟨q0, rs⟩ : v262 = v267 ∧ Rs h267 := by first | exact rl_war rl.1 tl0 rl.2 hI0 hk0 cw262 fx262 cm267 fx267 | exact False.elim (by omega)
            have rl : Rl h267 := ⟨by rw [fx267.cell 2 (fun i => (by first | (dsimp only; omega) | omega | exact not_false)), fx267.cell 190 (fun i => (by first | (dsimp only; omega) | omega | exact not_false)), fx262.cell 2 (fun i => (by first | (dsimp only; omega) | omega | exact not_false)), fx262.cell 190 (fun i => (by first | (dsimp only; omega) | omega | exact not_false))]; exact rl.1, rs⟩
            refine K_pop (pc := 270) (i := 92) (lk_1 rfl rfl) rfl ?_
            refine K_goto 1129 (pc := 271) (i := 93) (lk_1 rfl rfl) rfl ?_
            refine K_inc (pc := 1129) (i := 749) (q := 3) (lo' := [(0, _), (1, _), (2, _), (3, _)]) rfl rfl rfl rfl rfl ?_
            refine K_goto 18 (pc := 1132) (i := 750) (lk_15 rfl rfl) rfl ?_
            exact ih18 (x3 + 5) _ (by omega) ⟨by omega, _, _, hI, rl⟩
          · refine K_tableIn 274 (by omega) (pc := 32) (i := 21) (lk_0 rfl rfl) (by omega) (by omega) (by rw [sx32]; rfl) rfl ?_
            refine K_aload_n (pc := 274) (i := 94) (lk_1 rfl rfl) rfl ?_
            refine K_aload_n (pc := 275) (i := 95) (lk_1 rfl rfl) rfl ?_
            refine K_iload_n (pc := 276) (i := 96) (lk_1 rfl rfl) rfl ?_
            refine K_iconst (pc := 277) (i := 97) (lk_1 rfl rfl) ?_
            refine K_iadd (pc := 278) (i := 98) (lk_1 rfl rfl) ?_
            refine K_sld (pc := 279) (i := 99) (lk_1 rfl rfl) (by omega) (by omega) hL ?_
            refine K_nm (fun v279 e279 => ?_)
            have r279 := kR_of (xs (x3 + 1).toNat)
            rw [← e279] at r279
            refine K_aload_n (pc := 280) (i := 100) (lk_2 rfl rfl) rfl ?_
            refine K_iload_n (pc := 281) (i := 101) (lk_2 rfl rfl) rfl ?_
            refine K_iconst (pc := 282) (i := 102) (lk_2 rfl rfl) ?_
            refine K_iadd (pc := 283) (i := 103) (lk_2 rfl rfl) ?_
            refine K_sld (pc := 284) (i := 104) (lk_2 rfl rfl) (by omega) (by omega) hL ?_
            refine K_nm (fun v284 e284 => ?_)
            have r284 := kR_of (xs (x3 + 2).toNat)
            rw [← e284] at r284
            refine K_cVI (pc := 285) (i := 105) (lk_2 rfl rfl) (c_War_kite G (x1 := v279) (x2 := v284) (hI := hI) (s1 := by omega) (s2 := by omega)) S_0 rfl (lv_law_33 rfl) rfl rfl rfl rfl rfl (fun v285 h285 q285 => ?_)
            obtain ⟨fx285, q285⟩ := q285
            obtain ⟨hI, r285⟩ := q285
            refine K_pop (pc := 288) (i := 106) (lk_2 rfl rfl) rfl ?_
            refine K_aload_n (pc := 289) (i := 107) (lk_2 rfl rfl) rfl ?_
            refine K_aload_n (pc := 290) (i := 108) (lk_2 rfl rfl) rfl ?_
            refine K_iload_n (pc := 291) (i := 109) (lk_2 rfl rfl) rfl ?_
            refine K_iconst (pc := 292) (i := 110) (lk_2 rfl rfl) ?_
            refine K_iadd (pc := 293) (i := 111) (lk_2 rfl rfl) ?_
            refine K_sld (pc := 294) (i := 112) (lk_2 rfl rfl) (by omega) (by omega) hL ?_
            refine K_nm (fun v294 e294 => ?_)
            have r294 := kR_of (xs (x3 + 1).toNat)
            rw [← e294] at r294
            refine K_aload_n (pc := 295) (i := 113) (lk_2 rfl rfl) rfl ?_
            refine K_iload_n (pc := 296) (i := 114) (lk_2 rfl rfl) rfl ?_
            refine K_iconst (pc := 297) (i := 115) (lk_2 rfl rfl) ?_
            refine K_iadd (pc := 298) (i := 116) (lk_2 rfl rfl) ?_
            refine K_sld (pc := 299) (i := 117) (lk_2 rfl rfl) (by omega) (by omega) hL ?_
            refine K_nm (fun v299 e299 => ?_)
            have r299 := kR_of (xs (x3 + 2).toNat)
            rw [← e299] at r299
            refine K_cVI (pc := 300) (i := 118) (lk_2 rfl rfl) (c_Model_kite G (x1 := v294) (x2 := v299) (hI := hI) (s1 := by omega) (s2 := by omega)) S_184 rfl (lv_law_37 rfl) rfl rfl rfl rfl rfl (fun v300 h300 q300 => ?_)
            obtain ⟨fx300, q300⟩ := q300
            obtain ⟨hI, r300⟩ := q300
            have y0 : v294 = v279 := by rw [e294, e279]
            have y1 : v299 = v284 := by rw [e299, e284]
            rw [y0, y1] at r300
            have q0 : v285 = v300 := an_kite rl.2 hk0 (fun c hc => fx285.cell c (fun i => by first | (dsimp only; omega) | omega | exact not_false)) r285 r300
            have rs : Rs h300 := rl.2.fx hI0 (Fx.two fx285 fx300) (fun c i q => by rintro (e | e) <;> first | exact False.elim e | (dsimp only at e; omega) | omega) (fun c i q => by rintro (e | e) <;> first | exact False.elim e | (dsimp only at e; omega) | omega) (fun c i q => by rintro (e | e) <;> first | exact False.elim e | (dsimp only at e; omega) | omega) (fun c i q => by rintro (e | e) <;> first | exact False.elim e | (dsimp only at e; omega) | omega) (fun c i q => by rintro (e | e) <;> first | exact False.elim e | (dsimp only at e; omega) | omega) (fun c i q => by rintro (e | e) <;> first | exact False.elim e | (dsimp only at e; omega) | omega)
            have rl : Rl h300 := ⟨by rw [fx300.cell 2 (fun i => (by first | (dsimp only; omega) | omega | exact not_false)), fx300.cell 190 (fun i => (by first | (dsimp only; omega) | omega | exact not_false)), fx285.cell 2 (fun i => (by first | (dsimp only; omega) | omega | exact not_false)), fx285.cell 190 (fun i => (by first | (dsimp only; omega) | omega | exact not_false))]; exact rl.1, rs⟩
            refine K_pop (pc := 303) (i := 119) (lk_2 rfl rfl) rfl ?_
            refine K_goto 1129 (pc := 304) (i := 120) (lk_2 rfl rfl) rfl ?_
            refine K_inc (pc := 1129) (i := 749) (q := 3) (lo' := [(0, _), (1, _), (2, _), (3, _)]) rfl rfl rfl rfl rfl ?_
            refine K_goto 18 (pc := 1132) (i := 750) (lk_15 rfl rfl) rfl ?_
            exact ih18 (x3 + 5) _ (by omega) ⟨by omega, _, _, hI, rl⟩
          · refine K_tableIn 307 (by omega) (pc := 32) (i := 21) (lk_0 rfl rfl) (by omega) (by omega) (by rw [sx32]; rfl) rfl ?_
            refine K_aload_n (pc := 307) (i := 121) (lk_2 rfl rfl) rfl ?_
            refine K_aload_n (pc := 308) (i := 122) (lk_2 rfl rfl) rfl ?_
            refine K_iload_n (pc := 309) (i := 123) (lk_2 rfl rfl) rfl ?_
            refine K_iconst (pc := 310) (i := 124) (lk_2 rfl rfl) ?_
            refine K_iadd (pc := 311) (i := 125) (lk_2 rfl rfl) ?_
            refine K_sld (pc := 312) (i := 126) (lk_2 rfl rfl) (by omega) (by omega) hL ?_
            refine K_nm (fun v312 e312 => ?_)
            have r312 := kR_of (xs (x3 + 1).toNat)
            rw [← e312] at r312
            refine K_aload_n (pc := 313) (i := 127) (lk_2 rfl rfl) rfl ?_
            refine K_iload_n (pc := 314) (i := 128) (lk_2 rfl rfl) rfl ?_
            refine K_iconst (pc := 315) (i := 129) (lk_2 rfl rfl) ?_
            refine K_iadd (pc := 316) (i := 130) (lk_2 rfl rfl) ?_
            refine K_sld (pc := 317) (i := 131) (lk_2 rfl rfl) (by omega) (by omega) hL ?_
            refine K_nm (fun v317 e317 => ?_)
            have r317 := kR_of (xs (x3 + 2).toNat)
            rw [← e317] at r317
            refine K_cVI (pc := 318) (i := 132) (lk_2 rfl rfl) (c_War_wind G (x1 := v312) (x2 := v317) (hI := hI) (s1 := by omega) (s2 := by omega)) S_0 rfl (lv_law_38 rfl) rfl rfl rfl rfl rfl (fun v318 h318 q318 => ?_)
            obtain ⟨fx318, q318⟩ := q318
            obtain ⟨hI, r318⟩ := q318
            refine K_pop (pc := 321) (i := 133) (lk_2 rfl rfl) rfl ?_
            refine K_aload_n (pc := 322) (i := 134) (lk_2 rfl rfl) rfl ?_
            refine K_aload_n (pc := 323) (i := 135) (lk_2 rfl rfl) rfl ?_
            refine K_iload_n (pc := 324) (i := 136) (lk_2 rfl rfl) rfl ?_
            refine K_iconst (pc := 325) (i := 137) (lk_2 rfl rfl) ?_
            refine K_iadd (pc := 326) (i := 138) (lk_2 rfl rfl) ?_
            refine K_sld (pc := 327) (i := 139) (lk_2 rfl rfl) (by omega) (by omega) hL ?_
            refine K_nm (fun v327 e327 => ?_)
            have r327 := kR_of (xs (x3 + 1).toNat)
            rw [← e327] at r327
            refine K_aload_n (pc := 328) (i := 140) (lk_2 rfl rfl) rfl ?_
            refine K_iload_n (pc := 329) (i := 141) (lk_2 rfl rfl) rfl ?_
            refine K_iconst (pc := 330) (i := 142) (lk_2 rfl rfl) ?_
            refine K_iadd (pc := 331) (i := 143) (lk_2 rfl rfl) ?_
            refine K_sld (pc := 332) (i := 144) (lk_2 rfl rfl) (by omega) (by omega) hL ?_
            refine K_nm (fun v332 e332 => ?_)
            have r332 := kR_of (xs (x3 + 2).toNat)
            rw [← e332] at r332
            refine K_cVI (pc := 333) (i := 145) (lk_2 rfl rfl) (c_Model_wind G (x1 := v327) (x2 := v332) (hI := hI) (s1 := by omega) (s2 := by omega)) S_184 rfl (lv_law_41 rfl) rfl rfl rfl rfl rfl (fun v333 h333 q333 => ?_)
            obtain ⟨fx333, q333⟩ := q333
            obtain ⟨hI, r333⟩ := q333
            have y0 : v327 = v312 := by rw [e327, e312]
            have y1 : v332 = v317 := by rw [e332, e317]
            rw [y0, y1] at r333
            obtain ⟨q0, rs⟩ : v318 = v333 ∧ Rs h333 := by first | exact rl_wind rl.2 hI0 hk0 r318 fx318 r333 fx333 | exact False.elim (by omega)
            have rl : Rl h333 := ⟨by rw [fx333.cell 2 (fun i => (by first | (dsimp only; omega) | omega | exact not_false)), fx333.cell 190 (fun i => (by first | (dsimp only; omega) | omega | exact not_false)), fx318.cell 2 (fun i => (by first | (dsimp only; omega) | omega | exact not_false)), fx318.cell 190 (fun i => (by first | (dsimp only; omega) | omega | exact not_false))]; exact rl.1, rs⟩
            refine K_pop (pc := 336) (i := 146) (lk_2 rfl rfl) rfl ?_
            refine K_goto 1129 (pc := 337) (i := 147) (lk_2 rfl rfl) rfl ?_
            refine K_inc (pc := 1129) (i := 749) (q := 3) (lo' := [(0, _), (1, _), (2, _), (3, _)]) rfl rfl rfl rfl rfl ?_
            refine K_goto 18 (pc := 1132) (i := 750) (lk_15 rfl rfl) rfl ?_
            exact ih18 (x3 + 5) _ (by omega) ⟨by omega, _, _, hI, rl⟩
          · refine K_tableIn 340 (by omega) (pc := 32) (i := 21) (lk_0 rfl rfl) (by omega) (by omega) (by rw [sx32]; rfl) rfl ?_
            refine K_aload_n (pc := 340) (i := 148) (lk_2 rfl rfl) rfl ?_
            refine K_aload_n (pc := 341) (i := 149) (lk_2 rfl rfl) rfl ?_
            refine K_iload_n (pc := 342) (i := 150) (lk_3 rfl rfl) rfl ?_
            refine K_iconst (pc := 343) (i := 151) (lk_3 rfl rfl) ?_
            refine K_iadd (pc := 344) (i := 152) (lk_3 rfl rfl) ?_
            refine K_sld (pc := 345) (i := 153) (lk_3 rfl rfl) (by omega) (by omega) hL ?_
            refine K_nm (fun v345 e345 => ?_)
            have r345 := kR_of (xs (x3 + 1).toNat)
            rw [← e345] at r345
            refine K_aload_n (pc := 346) (i := 154) (lk_3 rfl rfl) rfl ?_
            refine K_iload_n (pc := 347) (i := 155) (lk_3 rfl rfl) rfl ?_
            refine K_iconst (pc := 348) (i := 156) (lk_3 rfl rfl) ?_
            refine K_iadd (pc := 349) (i := 157) (lk_3 rfl rfl) ?_
            refine K_sld (pc := 350) (i := 158) (lk_3 rfl rfl) (by omega) (by omega) hL ?_
            refine K_nm (fun v350 e350 => ?_)
            have r350 := kR_of (xs (x3 + 2).toNat)
            rw [← e350] at r350
            refine K_cVI (pc := 351) (i := 159) (lk_3 rfl rfl) (c_War_rise G (x1 := v345) (x2 := v350) (hI := hI) (s1 := by omega) (s2 := by omega)) S_0 rfl (lv_law_42 rfl) rfl rfl rfl rfl rfl (fun v351 h351 q351 => ?_)
            obtain ⟨fx351, q351⟩ := q351
            obtain ⟨hI, r351⟩ := q351
            refine K_pop (pc := 354) (i := 160) (lk_3 rfl rfl) rfl ?_
            refine K_aload_n (pc := 355) (i := 161) (lk_3 rfl rfl) rfl ?_
            refine K_aload_n (pc := 356) (i := 162) (lk_3 rfl rfl) rfl ?_
            refine K_iload_n (pc := 357) (i := 163) (lk_3 rfl rfl) rfl ?_
            refine K_iconst (pc := 358) (i := 164) (lk_3 rfl rfl) ?_
            refine K_iadd (pc := 359) (i := 165) (lk_3 rfl rfl) ?_
            refine K_sld (pc := 360) (i := 166) (lk_3 rfl rfl) (by omega) (by omega) hL ?_
            refine K_nm (fun v360 e360 => ?_)
            have r360 := kR_of (xs (x3 + 1).toNat)
            rw [← e360] at r360
            refine K_aload_n (pc := 361) (i := 167) (lk_3 rfl rfl) rfl ?_
            refine K_iload_n (pc := 362) (i := 168) (lk_3 rfl rfl) rfl ?_
            refine K_iconst (pc := 363) (i := 169) (lk_3 rfl rfl) ?_
            refine K_iadd (pc := 364) (i := 170) (lk_3 rfl rfl) ?_
            refine K_sld (pc := 365) (i := 171) (lk_3 rfl rfl) (by omega) (by omega) hL ?_
            refine K_nm (fun v365 e365 => ?_)
            have r365 := kR_of (xs (x3 + 2).toNat)
            rw [← e365] at r365
            refine K_cVI (pc := 366) (i := 172) (lk_3 rfl rfl) (c_Model_rise G (x1 := v360) (x2 := v365) (hI := hI) (s1 := by omega) (s2 := by omega)) S_184 rfl (lv_law_45 rfl) rfl rfl rfl rfl rfl (fun v366 h366 q366 => ?_)
            obtain ⟨fx366, q366⟩ := q366
            obtain ⟨hI, r366⟩ := q366
            have y0 : v360 = v345 := by rw [e360, e345]
            have y1 : v365 = v350 := by rw [e365, e350]
            rw [y0, y1] at r366
            obtain ⟨q0, rs⟩ : v351 = v366 ∧ Rs h366 := by first | exact rl_rise rl.2 hI0 hk0 r351 fx351 r366 fx366 | exact False.elim (by omega)
            have rl : Rl h366 := ⟨by rw [fx366.cell 2 (fun i => (by first | (dsimp only; omega) | omega | exact not_false)), fx366.cell 190 (fun i => (by first | (dsimp only; omega) | omega | exact not_false)), fx351.cell 2 (fun i => (by first | (dsimp only; omega) | omega | exact not_false)), fx351.cell 190 (fun i => (by first | (dsimp only; omega) | omega | exact not_false))]; exact rl.1, rs⟩
            refine K_pop (pc := 369) (i := 173) (lk_3 rfl rfl) rfl ?_
            refine K_goto 1129 (pc := 370) (i := 174) (lk_3 rfl rfl) rfl ?_
            refine K_inc (pc := 1129) (i := 749) (q := 3) (lo' := [(0, _), (1, _), (2, _), (3, _)]) rfl rfl rfl rfl rfl ?_
            refine K_goto 18 (pc := 1132) (i := 750) (lk_15 rfl rfl) rfl ?_
            exact ih18 (x3 + 5) _ (by omega) ⟨by omega, _, _, hI, rl⟩
          · refine K_tableIn 373 (by omega) (pc := 32) (i := 21) (lk_0 rfl rfl) (by omega) (by omega) (by rw [sx32]; rfl) rfl ?_
            refine K_aload_n (pc := 373) (i := 175) (lk_3 rfl rfl) rfl ?_
            refine K_aload_n (pc := 374) (i := 176) (lk_3 rfl rfl) rfl ?_
            refine K_iload_n (pc := 375) (i := 177) (lk_3 rfl rfl) rfl ?_
            refine K_iconst (pc := 376) (i := 178) (lk_3 rfl rfl) ?_
            refine K_iadd (pc := 377) (i := 179) (lk_3 rfl rfl) ?_
            refine K_sld (pc := 378) (i := 180) (lk_3 rfl rfl) (by omega) (by omega) hL ?_
            refine K_nm (fun v378 e378 => ?_)
            have r378 := kR_of (xs (x3 + 1).toNat)
            rw [← e378] at r378
            refine K_aload_n (pc := 379) (i := 181) (lk_3 rfl rfl) rfl ?_
            refine K_iload_n (pc := 380) (i := 182) (lk_3 rfl rfl) rfl ?_
            refine K_iconst (pc := 381) (i := 183) (lk_3 rfl rfl) ?_
            refine K_iadd (pc := 382) (i := 184) (lk_3 rfl rfl) ?_
            refine K_sld (pc := 383) (i := 185) (lk_3 rfl rfl) (by omega) (by omega) hL ?_
            refine K_nm (fun v383 e383 => ?_)
            have r383 := kR_of (xs (x3 + 2).toNat)
            rw [← e383] at r383
            refine K_cVI (pc := 384) (i := 186) (lk_3 rfl rfl) (c_War_run G (x1 := v378) (x2 := v383) (hI := hI) (s1 := by omega) (s2 := by omega)) S_0 rfl (lv_law_46 rfl) rfl rfl rfl rfl rfl (fun v384 h384 q384 => ?_)
            obtain ⟨fx384, q384⟩ := q384
            obtain ⟨hI, r384⟩ := q384
            refine K_pop (pc := 387) (i := 187) (lk_3 rfl rfl) rfl ?_
            refine K_aload_n (pc := 388) (i := 188) (lk_3 rfl rfl) rfl ?_
            refine K_aload_n (pc := 389) (i := 189) (lk_3 rfl rfl) rfl ?_
            refine K_iload_n (pc := 390) (i := 190) (lk_3 rfl rfl) rfl ?_
            refine K_iconst (pc := 391) (i := 191) (lk_3 rfl rfl) ?_
            refine K_iadd (pc := 392) (i := 192) (lk_3 rfl rfl) ?_
            refine K_sld (pc := 393) (i := 193) (lk_3 rfl rfl) (by omega) (by omega) hL ?_
            refine K_nm (fun v393 e393 => ?_)
            have r393 := kR_of (xs (x3 + 1).toNat)
            rw [← e393] at r393
            refine K_aload_n (pc := 394) (i := 194) (lk_3 rfl rfl) rfl ?_
            refine K_iload_n (pc := 395) (i := 195) (lk_3 rfl rfl) rfl ?_
            refine K_iconst (pc := 396) (i := 196) (lk_3 rfl rfl) ?_
            refine K_iadd (pc := 397) (i := 197) (lk_3 rfl rfl) ?_
            refine K_sld (pc := 398) (i := 198) (lk_3 rfl rfl) (by omega) (by omega) hL ?_
            refine K_nm (fun v398 e398 => ?_)
            have r398 := kR_of (xs (x3 + 2).toNat)
            rw [← e398] at r398
            refine K_cVI (pc := 399) (i := 199) (lk_3 rfl rfl) (c_Model_run G (x1 := v393) (x2 := v398) (hT := trivial) (hI := hI) (s1 := by omega) (s2 := by omega)) S_184 rfl (lv_law_49 rfl) rfl rfl rfl rfl rfl (fun v399 h399 q399 => ?_)
            obtain ⟨fx399, q399⟩ := q399
            obtain ⟨hI, r399⟩ := q399
            have y0 : v393 = v378 := by rw [e393, e378]
            have y1 : v398 = v383 := by rw [e398, e383]
            rw [y0, y1] at r399
            obtain ⟨q0, rs⟩ : v384 = v399 ∧ Rs h399 := by first | exact rl_run rl.2 hI0 hk0 r384 fx384 r399 fx399 | exact False.elim (by omega)
            have rl : Rl h399 := ⟨by rw [fx399.cell 2 (fun i => (by first | (dsimp only; omega) | omega | exact not_false)), fx399.cell 190 (fun i => (by first | (dsimp only; omega) | omega | exact not_false)), fx384.cell 2 (fun i => (by first | (dsimp only; omega) | omega | exact not_false)), fx384.cell 190 (fun i => (by first | (dsimp only; omega) | omega | exact not_false))]; exact rl.1, rs⟩
            refine K_pop (pc := 402) (i := 200) (lk_4 rfl rfl) rfl ?_
            refine K_goto 1129 (pc := 403) (i := 201) (lk_4 rfl rfl) rfl ?_
            refine K_inc (pc := 1129) (i := 749) (q := 3) (lo' := [(0, _), (1, _), (2, _), (3, _)]) rfl rfl rfl rfl rfl ?_
            refine K_goto 18 (pc := 1132) (i := 750) (lk_15 rfl rfl) rfl ?_
            exact ih18 (x3 + 5) _ (by omega) ⟨by omega, _, _, hI, rl⟩
          · refine K_tableIn 406 (by omega) (pc := 32) (i := 21) (lk_0 rfl rfl) (by omega) (by omega) (by rw [sx32]; rfl) rfl ?_
            refine K_aload_n (pc := 406) (i := 202) (lk_4 rfl rfl) rfl ?_
            refine K_aload_n (pc := 407) (i := 203) (lk_4 rfl rfl) rfl ?_
            refine K_iload_n (pc := 408) (i := 204) (lk_4 rfl rfl) rfl ?_
            refine K_iconst (pc := 409) (i := 205) (lk_4 rfl rfl) ?_
            refine K_iadd (pc := 410) (i := 206) (lk_4 rfl rfl) ?_
            refine K_sld (pc := 411) (i := 207) (lk_4 rfl rfl) (by omega) (by omega) hL ?_
            refine K_nm (fun v411 e411 => ?_)
            have r411 := kR_of (xs (x3 + 1).toNat)
            rw [← e411] at r411
            refine K_aload_n (pc := 412) (i := 208) (lk_4 rfl rfl) rfl ?_
            refine K_iload_n (pc := 413) (i := 209) (lk_4 rfl rfl) rfl ?_
            refine K_iconst (pc := 414) (i := 210) (lk_4 rfl rfl) ?_
            refine K_iadd (pc := 415) (i := 211) (lk_4 rfl rfl) ?_
            refine K_sld (pc := 416) (i := 212) (lk_4 rfl rfl) (by omega) (by omega) hL ?_
            refine K_nm (fun v416 e416 => ?_)
            have r416 := kR_of (xs (x3 + 2).toNat)
            rw [← e416] at r416
            refine K_aload_n (pc := 417) (i := 213) (lk_4 rfl rfl) rfl ?_
            refine K_iload_n (pc := 418) (i := 214) (lk_4 rfl rfl) rfl ?_
            refine K_iconst (pc := 419) (i := 215) (lk_4 rfl rfl) ?_
            refine K_iadd (pc := 420) (i := 216) (lk_4 rfl rfl) ?_
            refine K_sld (pc := 421) (i := 217) (lk_4 rfl rfl) (by omega) (by omega) hL ?_
            refine K_nm (fun v421 e421 => ?_)
            have r421 := kR_of (xs (x3 + 3).toNat)
            rw [← e421] at r421
            refine K_aload_n (pc := 422) (i := 218) (lk_4 rfl rfl) rfl ?_
            refine K_iload_n (pc := 423) (i := 219) (lk_4 rfl rfl) rfl ?_
            refine K_iconst (pc := 424) (i := 220) (lk_4 rfl rfl) ?_
            refine K_iadd (pc := 425) (i := 221) (lk_4 rfl rfl) ?_
            refine K_sld (pc := 426) (i := 222) (lk_4 rfl rfl) (by omega) (by omega) hL ?_
            refine K_nm (fun v426 e426 => ?_)
            have r426 := kR_of (xs (x3 + 4).toNat)
            rw [← e426] at r426
            refine K_cVI (pc := 427) (i := 223) (lk_4 rfl rfl) (c_War_launch G (x1 := v411) (x2 := v416) (x3 := v421) (x4 := v426) (hI := hI) (s1 := by omega) (s2 := by omega) (s3 := by omega) (s4 := by omega)) S_0 rfl (lv_law_50 rfl) rfl rfl rfl rfl rfl (fun v427 h427 q427 => ?_)
            obtain ⟨fx427, q427⟩ := q427
            obtain ⟨hI, r427⟩ := q427
            refine K_pop (pc := 430) (i := 224) (lk_4 rfl rfl) rfl ?_
            refine K_aload_n (pc := 431) (i := 225) (lk_4 rfl rfl) rfl ?_
            refine K_aload_n (pc := 432) (i := 226) (lk_4 rfl rfl) rfl ?_
            refine K_iload_n (pc := 433) (i := 227) (lk_4 rfl rfl) rfl ?_
            refine K_iconst (pc := 434) (i := 228) (lk_4 rfl rfl) ?_
            refine K_iadd (pc := 435) (i := 229) (lk_4 rfl rfl) ?_
            refine K_sld (pc := 436) (i := 230) (lk_4 rfl rfl) (by omega) (by omega) hL ?_
            refine K_nm (fun v436 e436 => ?_)
            have r436 := kR_of (xs (x3 + 1).toNat)
            rw [← e436] at r436
            refine K_aload_n (pc := 437) (i := 231) (lk_4 rfl rfl) rfl ?_
            refine K_iload_n (pc := 438) (i := 232) (lk_4 rfl rfl) rfl ?_
            refine K_iconst (pc := 439) (i := 233) (lk_4 rfl rfl) ?_
            refine K_iadd (pc := 440) (i := 234) (lk_4 rfl rfl) ?_
            refine K_sld (pc := 441) (i := 235) (lk_4 rfl rfl) (by omega) (by omega) hL ?_
            refine K_nm (fun v441 e441 => ?_)
            have r441 := kR_of (xs (x3 + 2).toNat)
            rw [← e441] at r441
            refine K_aload_n (pc := 442) (i := 236) (lk_4 rfl rfl) rfl ?_
            refine K_iload_n (pc := 443) (i := 237) (lk_4 rfl rfl) rfl ?_
            refine K_iconst (pc := 444) (i := 238) (lk_4 rfl rfl) ?_
            refine K_iadd (pc := 445) (i := 239) (lk_4 rfl rfl) ?_
            refine K_sld (pc := 446) (i := 240) (lk_4 rfl rfl) (by omega) (by omega) hL ?_
            refine K_nm (fun v446 e446 => ?_)
            have r446 := kR_of (xs (x3 + 3).toNat)
            rw [← e446] at r446
            refine K_aload_n (pc := 447) (i := 241) (lk_4 rfl rfl) rfl ?_
            refine K_iload_n (pc := 448) (i := 242) (lk_4 rfl rfl) rfl ?_
            refine K_iconst (pc := 449) (i := 243) (lk_4 rfl rfl) ?_
            refine K_iadd (pc := 450) (i := 244) (lk_4 rfl rfl) ?_
            refine K_sld (pc := 451) (i := 245) (lk_4 rfl rfl) (by omega) (by omega) hL ?_
            refine K_nm (fun v451 e451 => ?_)
            have r451 := kR_of (xs (x3 + 4).toNat)
            rw [← e451] at r451
            refine K_cVI (pc := 452) (i := 246) (lk_4 rfl rfl) (c_Model_launch G (x1 := v436) (x2 := v441) (x3 := v446) (x4 := v451) (hT := trivial) (hI := hI) (s1 := by omega) (s2 := by omega) (s3 := by omega) (s4 := by omega)) S_184 rfl (lv_law_54 rfl) rfl rfl rfl rfl rfl (fun v452 h452 q452 => ?_)
            obtain ⟨fx452, q452⟩ := q452
            obtain ⟨hI, r452⟩ := q452
            have y0 : v436 = v411 := by rw [e436, e411]
            have y1 : v441 = v416 := by rw [e441, e416]
            have y2 : v446 = v421 := by rw [e446, e421]
            have y3 : v451 = v426 := by rw [e451, e426]
            rw [y0, y1, y2, y3] at r452
            obtain ⟨q0, rs⟩ : v427 = v452 ∧ Rs h452 := by first | exact rl_launch rl.2 hI0 hk0 r427 fx427 r452 fx452 | exact False.elim (by omega)
            have rl : Rl h452 := ⟨by rw [fx452.cell 2 (fun i => (by first | (dsimp only; omega) | omega | exact not_false)), fx452.cell 190 (fun i => (by first | (dsimp only; omega) | omega | exact not_false)), fx427.cell 2 (fun i => (by first | (dsimp only; omega) | omega | exact not_false)), fx427.cell 190 (fun i => (by first | (dsimp only; omega) | omega | exact not_false))]; exact rl.1, rs⟩
            refine K_pop (pc := 455) (i := 247) (lk_4 rfl rfl) rfl ?_
            refine K_goto 1129 (pc := 456) (i := 248) (lk_4 rfl rfl) rfl ?_
            refine K_inc (pc := 1129) (i := 749) (q := 3) (lo' := [(0, _), (1, _), (2, _), (3, _)]) rfl rfl rfl rfl rfl ?_
            refine K_goto 18 (pc := 1132) (i := 750) (lk_15 rfl rfl) rfl ?_
            exact ih18 (x3 + 5) _ (by omega) ⟨by omega, _, _, hI, rl⟩
          · refine K_tableIn 459 (by omega) (pc := 32) (i := 21) (lk_0 rfl rfl) (by omega) (by omega) (by rw [sx32]; rfl) rfl ?_
            refine K_aload_n (pc := 459) (i := 249) (lk_4 rfl rfl) rfl ?_
            refine K_aload_n (pc := 460) (i := 250) (lk_5 rfl rfl) rfl ?_
            refine K_iload_n (pc := 461) (i := 251) (lk_5 rfl rfl) rfl ?_
            refine K_iconst (pc := 462) (i := 252) (lk_5 rfl rfl) ?_
            refine K_iadd (pc := 463) (i := 253) (lk_5 rfl rfl) ?_
            refine K_sld (pc := 464) (i := 254) (lk_5 rfl rfl) (by omega) (by omega) hL ?_
            refine K_nm (fun v464 e464 => ?_)
            have r464 := kR_of (xs (x3 + 1).toNat)
            rw [← e464] at r464
            refine K_cVI (pc := 465) (i := 255) (lk_5 rfl rfl) (c_War_takeIn G (x1 := v464) (hI := hI) (s1 := by omega)) S_0 rfl (lv_law_55 rfl) rfl rfl rfl rfl rfl (fun v465 h465 q465 => ?_)
            obtain ⟨fx465, q465⟩ := q465
            obtain ⟨hI, r465⟩ := q465
            refine K_pop (pc := 468) (i := 256) (lk_5 rfl rfl) rfl ?_
            refine K_aload_n (pc := 469) (i := 257) (lk_5 rfl rfl) rfl ?_
            refine K_aload_n (pc := 470) (i := 258) (lk_5 rfl rfl) rfl ?_
            refine K_iload_n (pc := 471) (i := 259) (lk_5 rfl rfl) rfl ?_
            refine K_iconst (pc := 472) (i := 260) (lk_5 rfl rfl) ?_
            refine K_iadd (pc := 473) (i := 261) (lk_5 rfl rfl) ?_
            refine K_sld (pc := 474) (i := 262) (lk_5 rfl rfl) (by omega) (by omega) hL ?_
            refine K_nm (fun v474 e474 => ?_)
            have r474 := kR_of (xs (x3 + 1).toNat)
            rw [← e474] at r474
            refine K_cVI (pc := 475) (i := 263) (lk_5 rfl rfl) (c_Model_takeIn G (x1 := v474) (hI := hI) (s1 := by omega)) S_184 rfl (lv_law_59 rfl) rfl rfl rfl rfl rfl (fun v475 h475 q475 => ?_)
            obtain ⟨fx475, q475⟩ := q475
            obtain ⟨hI, r475⟩ := q475
            have y0 : v474 = v464 := by rw [e474, e464]
            rw [y0] at r475
            obtain ⟨q0, rs⟩ : v465 = v475 ∧ Rs h475 := by first | exact rl_takeIn rl.2 hI0 hk0 r465 fx465 r475 fx475 | exact False.elim (by omega)
            have rl : Rl h475 := ⟨by rw [fx475.cell 2 (fun i => (by first | (dsimp only; omega) | omega | exact not_false)), fx475.cell 190 (fun i => (by first | (dsimp only; omega) | omega | exact not_false)), fx465.cell 2 (fun i => (by first | (dsimp only; omega) | omega | exact not_false)), fx465.cell 190 (fun i => (by first | (dsimp only; omega) | omega | exact not_false))]; exact rl.1, rs⟩
            refine K_pop (pc := 478) (i := 264) (lk_5 rfl rfl) rfl ?_
            refine K_goto 1129 (pc := 479) (i := 265) (lk_5 rfl rfl) rfl ?_
            refine K_inc (pc := 1129) (i := 749) (q := 3) (lo' := [(0, _), (1, _), (2, _), (3, _)]) rfl rfl rfl rfl rfl ?_
            refine K_goto 18 (pc := 1132) (i := 750) (lk_15 rfl rfl) rfl ?_
            exact ih18 (x3 + 5) _ (by omega) ⟨by omega, _, _, hI, rl⟩
          · refine K_tableIn 482 (by omega) (pc := 32) (i := 21) (lk_0 rfl rfl) (by omega) (by omega) (by rw [sx32]; rfl) rfl ?_
            refine K_aload_n (pc := 482) (i := 266) (lk_5 rfl rfl) rfl ?_
            refine K_cVI (pc := 483) (i := 267) (lk_5 rfl rfl) (c_War_gust G (hI := hI)) S_0 rfl (lv_law_60 rfl) rfl rfl rfl rfl rfl (fun v483 h483 q483 => ?_)
            obtain ⟨fx483, q483⟩ := q483
            obtain ⟨hI, cw483⟩ := q483
            refine K_pop (pc := 486) (i := 268) (lk_5 rfl rfl) rfl ?_
            refine K_aload_n (pc := 487) (i := 269) (lk_5 rfl rfl) rfl ?_
            refine K_cVI (pc := 488) (i := 270) (lk_5 rfl rfl) (c_Model_gust G (hT := trivial) (hI := hI)) S_184 rfl (lv_law_63 rfl) rfl rfl rfl rfl rfl (fun v488 h488 q488 => ?_)
            obtain ⟨fx488, q488⟩ := q488
            obtain ⟨hI, cm488⟩ := q488
            obtain ⟨q0, rs⟩ : v483 = v488 ∧ Rs h488 := by first | exact rl_gust rl.2 hI0 hk0 cw483 fx483 cm488 fx488 | exact False.elim (by omega)
            have rl : Rl h488 := ⟨by rw [fx488.cell 2 (fun i => (by first | (dsimp only; omega) | omega | exact not_false)), fx488.cell 190 (fun i => (by first | (dsimp only; omega) | omega | exact not_false)), fx483.cell 2 (fun i => (by first | (dsimp only; omega) | omega | exact not_false)), fx483.cell 190 (fun i => (by first | (dsimp only; omega) | omega | exact not_false))]; exact rl.1, rs⟩
            refine K_pop (pc := 491) (i := 271) (lk_5 rfl rfl) rfl ?_
            refine K_goto 1129 (pc := 492) (i := 272) (lk_5 rfl rfl) rfl ?_
            refine K_inc (pc := 1129) (i := 749) (q := 3) (lo' := [(0, _), (1, _), (2, _), (3, _)]) rfl rfl rfl rfl rfl ?_
            refine K_goto 18 (pc := 1132) (i := 750) (lk_15 rfl rfl) rfl ?_
            exact ih18 (x3 + 5) _ (by omega) ⟨by omega, _, _, hI, rl⟩
          · refine K_tableIn 495 (by omega) (pc := 32) (i := 21) (lk_0 rfl rfl) (by omega) (by omega) (by rw [sx32]; rfl) rfl ?_
            refine K_aload_n (pc := 495) (i := 273) (lk_5 rfl rfl) rfl ?_
            refine K_cVI (pc := 496) (i := 274) (lk_5 rfl rfl) (c_War_undo G (hI := hI)) S_0 rfl (lv_law_64 rfl) rfl rfl rfl rfl rfl (fun v496 h496 q496 => ?_)
            obtain ⟨fx496, q496⟩ := q496
            obtain ⟨hI, cw496⟩ := q496
            refine K_pop (pc := 499) (i := 275) (lk_5 rfl rfl) rfl ?_
            refine K_aload_n (pc := 500) (i := 276) (lk_5 rfl rfl) rfl ?_
            refine K_cVI (pc := 501) (i := 277) (lk_5 rfl rfl) (c_Model_undo G (hI := hI)) S_184 rfl (lv_law_67 rfl) rfl rfl rfl rfl rfl (fun v501 h501 q501 => ?_)
            obtain ⟨fx501, q501⟩ := q501
            obtain ⟨hI, cm501⟩ := q501
            obtain ⟨q0, rs⟩ : v496 = v501 ∧ Rs h501 := by first | exact rl_undo rl.2 hI0 hk0 cw496 fx496 cm501 fx501 | exact False.elim (by omega)
            have rl : Rl h501 := ⟨by rw [fx501.cell 2 (fun i => (by first | (dsimp only; omega) | omega | exact not_false)), fx501.cell 190 (fun i => (by first | (dsimp only; omega) | omega | exact not_false)), fx496.cell 2 (fun i => (by first | (dsimp only; omega) | omega | exact not_false)), fx496.cell 190 (fun i => (by first | (dsimp only; omega) | omega | exact not_false))]; exact rl.1, rs⟩
            refine K_pop (pc := 504) (i := 278) (lk_5 rfl rfl) rfl ?_
            refine K_goto 1129 (pc := 505) (i := 279) (lk_5 rfl rfl) rfl ?_
            refine K_inc (pc := 1129) (i := 749) (q := 3) (lo' := [(0, _), (1, _), (2, _), (3, _)]) rfl rfl rfl rfl rfl ?_
            refine K_goto 18 (pc := 1132) (i := 750) (lk_15 rfl rfl) rfl ?_
            exact ih18 (x3 + 5) _ (by omega) ⟨by omega, _, _, hI, rl⟩
          · refine K_tableIn 508 (by omega) (pc := 32) (i := 21) (lk_0 rfl rfl) (by omega) (by omega) (by rw [sx32]; rfl) rfl ?_
            refine K_aload_n (pc := 508) (i := 280) (lk_5 rfl rfl) rfl ?_
            refine K_aload_n (pc := 509) (i := 281) (lk_5 rfl rfl) rfl ?_
            refine K_iload_n (pc := 510) (i := 282) (lk_5 rfl rfl) rfl ?_
            refine K_iconst (pc := 511) (i := 283) (lk_5 rfl rfl) ?_
            refine K_iadd (pc := 512) (i := 284) (lk_5 rfl rfl) ?_
            refine K_sld (pc := 513) (i := 285) (lk_5 rfl rfl) (by omega) (by omega) hL ?_
            refine K_nm (fun v513 e513 => ?_)
            have r513 := kR_of (xs (x3 + 1).toNat)
            rw [← e513] at r513
            refine K_aload_n (pc := 514) (i := 286) (lk_5 rfl rfl) rfl ?_
            refine K_iload_n (pc := 515) (i := 287) (lk_5 rfl rfl) rfl ?_
            refine K_iconst (pc := 516) (i := 288) (lk_5 rfl rfl) ?_
            refine K_iadd (pc := 517) (i := 289) (lk_5 rfl rfl) ?_
            refine K_sld (pc := 518) (i := 290) (lk_5 rfl rfl) (by omega) (by omega) hL ?_
            refine K_nm (fun v518 e518 => ?_)
            have r518 := kR_of (xs (x3 + 2).toNat)
            rw [← e518] at r518
            refine K_cVI (pc := 519) (i := 291) (lk_5 rfl rfl) (c_War_cross G (x1 := v513) (x2 := v518) (hI := hI) (s1 := by omega) (s2 := by omega)) S_0 rfl (lv_law_68 rfl) rfl rfl rfl rfl rfl (fun v519 h519 q519 => ?_)
            obtain ⟨fx519, q519⟩ := q519
            obtain ⟨hI, r519⟩ := q519
            refine K_pop (pc := 522) (i := 292) (lk_5 rfl rfl) rfl ?_
            refine K_aload_n (pc := 523) (i := 293) (lk_5 rfl rfl) rfl ?_
            refine K_aload_n (pc := 524) (i := 294) (lk_5 rfl rfl) rfl ?_
            refine K_iload_n (pc := 525) (i := 295) (lk_5 rfl rfl) rfl ?_
            refine K_iconst (pc := 526) (i := 296) (lk_5 rfl rfl) ?_
            refine K_iadd (pc := 527) (i := 297) (lk_5 rfl rfl) ?_
            refine K_sld (pc := 528) (i := 298) (lk_5 rfl rfl) (by omega) (by omega) hL ?_
            refine K_nm (fun v528 e528 => ?_)
            have r528 := kR_of (xs (x3 + 1).toNat)
            rw [← e528] at r528
            refine K_aload_n (pc := 529) (i := 299) (lk_5 rfl rfl) rfl ?_
            refine K_iload_n (pc := 530) (i := 300) (lk_6 rfl rfl) rfl ?_
            refine K_iconst (pc := 531) (i := 301) (lk_6 rfl rfl) ?_
            refine K_iadd (pc := 532) (i := 302) (lk_6 rfl rfl) ?_
            refine K_sld (pc := 533) (i := 303) (lk_6 rfl rfl) (by omega) (by omega) hL ?_
            refine K_nm (fun v533 e533 => ?_)
            have r533 := kR_of (xs (x3 + 2).toNat)
            rw [← e533] at r533
            refine K_cVI (pc := 534) (i := 304) (lk_6 rfl rfl) (c_Model_cross G (x1 := v528) (x2 := v533) (hT := trivial) (hI := hI) (s1 := by omega) (s2 := by omega)) S_184 rfl (lv_law_71 rfl) rfl rfl rfl rfl rfl (fun v534 h534 q534 => ?_)
            obtain ⟨fx534, q534⟩ := q534
            obtain ⟨hI, r534⟩ := q534
            have y0 : v528 = v513 := by rw [e528, e513]
            have y1 : v533 = v518 := by rw [e533, e518]
            rw [y0, y1] at r534
            have q0 : v519 = v534 := an_cross rl.2 hk0 (fun c hc => fx519.cell c (fun i => by first | (dsimp only; omega) | omega | exact not_false)) r519 r534
            have rs : Rs h534 := rl.2.fx hI0 (Fx.two fx519 fx534) (fun c i q => by rintro (e | e) <;> first | exact False.elim e | (dsimp only at e; omega) | omega) (fun c i q => by rintro (e | e) <;> first | exact False.elim e | (dsimp only at e; omega) | omega) (fun c i q => by rintro (e | e) <;> first | exact False.elim e | (dsimp only at e; omega) | omega) (fun c i q => by rintro (e | e) <;> first | exact False.elim e | (dsimp only at e; omega) | omega) (fun c i q => by rintro (e | e) <;> first | exact False.elim e | (dsimp only at e; omega) | omega) (fun c i q => by rintro (e | e) <;> first | exact False.elim e | (dsimp only at e; omega) | omega)
            have rl : Rl h534 := ⟨by rw [fx534.cell 2 (fun i => (by first | (dsimp only; omega) | omega | exact not_false)), fx534.cell 190 (fun i => (by first | (dsimp only; omega) | omega | exact not_false)), fx519.cell 2 (fun i => (by first | (dsimp only; omega) | omega | exact not_false)), fx519.cell 190 (fun i => (by first | (dsimp only; omega) | omega | exact not_false))]; exact rl.1, rs⟩
            refine K_pop (pc := 537) (i := 305) (lk_6 rfl rfl) rfl ?_
            refine K_goto 1129 (pc := 538) (i := 306) (lk_6 rfl rfl) rfl ?_
            refine K_inc (pc := 1129) (i := 749) (q := 3) (lo' := [(0, _), (1, _), (2, _), (3, _)]) rfl rfl rfl rfl rfl ?_
            refine K_goto 18 (pc := 1132) (i := 750) (lk_15 rfl rfl) rfl ?_
            exact ih18 (x3 + 5) _ (by omega) ⟨by omega, _, _, hI, rl⟩
          · refine K_tableIn 541 (by omega) (pc := 32) (i := 21) (lk_0 rfl rfl) (by omega) (by omega) (by rw [sx32]; rfl) rfl ?_
            refine K_aload_n (pc := 541) (i := 307) (lk_6 rfl rfl) rfl ?_
            refine K_aload_n (pc := 542) (i := 308) (lk_6 rfl rfl) rfl ?_
            refine K_iload_n (pc := 543) (i := 309) (lk_6 rfl rfl) rfl ?_
            refine K_iconst (pc := 544) (i := 310) (lk_6 rfl rfl) ?_
            refine K_iadd (pc := 545) (i := 311) (lk_6 rfl rfl) ?_
            refine K_sld (pc := 546) (i := 312) (lk_6 rfl rfl) (by omega) (by omega) hL ?_
            refine K_nm (fun v546 e546 => ?_)
            have r546 := kR_of (xs (x3 + 1).toNat)
            rw [← e546] at r546
            refine K_aload_n (pc := 547) (i := 313) (lk_6 rfl rfl) rfl ?_
            refine K_iload_n (pc := 548) (i := 314) (lk_6 rfl rfl) rfl ?_
            refine K_iconst (pc := 549) (i := 315) (lk_6 rfl rfl) ?_
            refine K_iadd (pc := 550) (i := 316) (lk_6 rfl rfl) ?_
            refine K_sld (pc := 551) (i := 317) (lk_6 rfl rfl) (by omega) (by omega) hL ?_
            refine K_nm (fun v551 e551 => ?_)
            have r551 := kR_of (xs (x3 + 2).toNat)
            rw [← e551] at r551
            refine K_aload_n (pc := 552) (i := 318) (lk_6 rfl rfl) rfl ?_
            refine K_iload_n (pc := 553) (i := 319) (lk_6 rfl rfl) rfl ?_
            refine K_iconst (pc := 554) (i := 320) (lk_6 rfl rfl) ?_
            refine K_iadd (pc := 555) (i := 321) (lk_6 rfl rfl) ?_
            refine K_sld (pc := 556) (i := 322) (lk_6 rfl rfl) (by omega) (by omega) hL ?_
            refine K_nm (fun v556 e556 => ?_)
            have r556 := kR_of (xs (x3 + 3).toNat)
            rw [← e556] at r556
            first | refine K_if_eq 564 (pc := 557) (i := 323) (lk_6 rfl rfl) rfl (by omega) (fun b557 => ?_) (fun b557 => ?_) | refine K_if_eq_an 564 (pc := 557) (i := 323) (lk_6 rfl rfl) rfl (fun b557 => ?_) (fun b557 => ?_)
            · skip
              refine K_iconst (pc := 564) (i := 326) (lk_6 rfl rfl) ?_
              refine K_aload_n (pc := 565) (i := 327) (lk_6 rfl rfl) rfl ?_
              refine K_iload_n (pc := 566) (i := 328) (lk_6 rfl rfl) rfl ?_
              refine K_iconst (pc := 567) (i := 329) (lk_6 rfl rfl) ?_
              refine K_iadd (pc := 568) (i := 330) (lk_6 rfl rfl) ?_
              refine K_sld (pc := 569) (i := 331) (lk_6 rfl rfl) (by omega) (by omega) hL ?_
              refine K_nm (fun v569 e569 => ?_)
              have r569 := kR_of (xs (x3 + 4).toNat)
              rw [← e569] at r569
              first | refine K_if_eq 577 (pc := 570) (i := 332) (lk_6 rfl rfl) rfl (by omega) (fun b570 => ?_) (fun b570 => ?_) | refine K_if_eq_an 577 (pc := 570) (i := 332) (lk_6 rfl rfl) rfl (fun b570 => ?_) (fun b570 => ?_)
              · skip
                refine K_iconst (pc := 577) (i := 335) (lk_6 rfl rfl) ?_
                refine K_cVI (pc := 578) (i := 336) (lk_6 rfl rfl) (c_War_where G (x1 := v546) (x2 := v551) (x3 := 0) (x4 := 0) (hI := hI) (s1 := by omega) (s2 := by omega) (s3 := by omega) (s4 := by omega)) S_0 rfl (lv_law_72 rfl) rfl rfl rfl rfl rfl (fun v578 h578 q578 => ?_)
                obtain ⟨fx578, q578⟩ := q578
                obtain ⟨hI, r578⟩ := q578
                refine K_pop (pc := 581) (i := 337) (lk_6 rfl rfl) rfl ?_
                refine K_aload_n (pc := 582) (i := 338) (lk_6 rfl rfl) rfl ?_
                refine K_aload_n (pc := 583) (i := 339) (lk_6 rfl rfl) rfl ?_
                refine K_iload_n (pc := 584) (i := 340) (lk_6 rfl rfl) rfl ?_
                refine K_iconst (pc := 585) (i := 341) (lk_6 rfl rfl) ?_
                refine K_iadd (pc := 586) (i := 342) (lk_6 rfl rfl) ?_
                refine K_sld (pc := 587) (i := 343) (lk_6 rfl rfl) (by omega) (by omega) hL ?_
                refine K_nm (fun v587 e587 => ?_)
                have r587 := kR_of (xs (x3 + 1).toNat)
                rw [← e587] at r587
                refine K_aload_n (pc := 588) (i := 344) (lk_6 rfl rfl) rfl ?_
                refine K_iload_n (pc := 589) (i := 345) (lk_6 rfl rfl) rfl ?_
                refine K_iconst (pc := 590) (i := 346) (lk_6 rfl rfl) ?_
                refine K_iadd (pc := 591) (i := 347) (lk_6 rfl rfl) ?_
                refine K_sld (pc := 592) (i := 348) (lk_6 rfl rfl) (by omega) (by omega) hL ?_
                refine K_nm (fun v592 e592 => ?_)
                have r592 := kR_of (xs (x3 + 2).toNat)
                rw [← e592] at r592
                refine K_aload_n (pc := 593) (i := 349) (lk_6 rfl rfl) rfl ?_
                refine K_iload_n (pc := 594) (i := 350) (lk_7 rfl rfl) rfl ?_
                refine K_iconst (pc := 595) (i := 351) (lk_7 rfl rfl) ?_
                refine K_iadd (pc := 596) (i := 352) (lk_7 rfl rfl) ?_
                refine K_sld (pc := 597) (i := 353) (lk_7 rfl rfl) (by omega) (by omega) hL ?_
                refine K_nm (fun v597 e597 => ?_)
                have r597 := kR_of (xs (x3 + 3).toNat)
                rw [← e597] at r597
                first | refine K_if_eq 605 (pc := 598) (i := 354) (lk_7 rfl rfl) rfl (by omega) (fun b598 => ?_) (fun b598 => ?_) | refine K_if_eq_an 605 (pc := 598) (i := 354) (lk_7 rfl rfl) rfl (fun b598 => ?_) (fun b598 => ?_)
                · skip
                  refine K_iconst (pc := 605) (i := 357) (lk_7 rfl rfl) ?_
                  refine K_aload_n (pc := 606) (i := 358) (lk_7 rfl rfl) rfl ?_
                  refine K_iload_n (pc := 607) (i := 359) (lk_7 rfl rfl) rfl ?_
                  refine K_iconst (pc := 608) (i := 360) (lk_7 rfl rfl) ?_
                  refine K_iadd (pc := 609) (i := 361) (lk_7 rfl rfl) ?_
                  refine K_sld (pc := 610) (i := 362) (lk_7 rfl rfl) (by omega) (by omega) hL ?_
                  refine K_nm (fun v610 e610 => ?_)
                  have r610 := kR_of (xs (x3 + 4).toNat)
                  rw [← e610] at r610
                  first | refine K_if_eq 618 (pc := 611) (i := 363) (lk_7 rfl rfl) rfl (by omega) (fun b611 => ?_) (fun b611 => ?_) | refine K_if_eq_an 618 (pc := 611) (i := 363) (lk_7 rfl rfl) rfl (fun b611 => ?_) (fun b611 => ?_)
                  · skip
                    refine K_iconst (pc := 618) (i := 366) (lk_7 rfl rfl) ?_
                    refine K_cVI (pc := 619) (i := 367) (lk_7 rfl rfl) (c_Model_where G (x1 := v587) (x2 := v592) (x3 := 0) (x4 := 0) (hT := trivial) (hI := hI) (s1 := by omega) (s2 := by omega) (s3 := by omega) (s4 := by omega)) S_184 rfl (lv_law_76 rfl) rfl rfl rfl rfl rfl (fun v619 h619 q619 => ?_)
                    obtain ⟨fx619, q619⟩ := q619
                    obtain ⟨hI, r619⟩ := q619
                    have rs : Rs h619 := rl.2.fx hI0 (Fx.two fx578 fx619) (fun c i q => by rintro (e | e) <;> first | exact False.elim e | (dsimp only at e; omega) | omega) (fun c i q => by rintro (e | e) <;> first | exact False.elim e | (dsimp only at e; omega) | omega) (fun c i q => by rintro (e | e) <;> first | exact False.elim e | (dsimp only at e; omega) | omega) (fun c i q => by rintro (e | e) <;> first | exact False.elim e | (dsimp only at e; omega) | omega) (fun c i q => by rintro (e | e) <;> first | exact False.elim e | (dsimp only at e; omega) | omega) (fun c i q => by rintro (e | e) <;> first | exact False.elim e | (dsimp only at e; omega) | omega)
                    have rl : Rl h619 := ⟨by rw [fx619.cell 2 (fun i => (by first | (dsimp only; omega) | omega | exact not_false)), fx619.cell 190 (fun i => (by first | (dsimp only; omega) | omega | exact not_false)), fx578.cell 2 (fun i => (by first | (dsimp only; omega) | omega | exact not_false)), fx578.cell 190 (fun i => (by first | (dsimp only; omega) | omega | exact not_false))]; exact rl.1, rs⟩
                    refine K_pop (pc := 622) (i := 368) (lk_7 rfl rfl) rfl ?_
                    refine K_goto 1129 (pc := 623) (i := 369) (lk_7 rfl rfl) rfl ?_
                    refine K_inc (pc := 1129) (i := 749) (q := 3) (lo' := [(0, _), (1, _), (2, _), (3, _)]) rfl rfl rfl rfl rfl ?_
                    refine K_goto 18 (pc := 1132) (i := 750) (lk_15 rfl rfl) rfl ?_
                    exact ih18 (x3 + 5) _ (by omega) ⟨by omega, _, _, hI, rl⟩
                  · skip
                    refine K_iconst (pc := 614) (i := 364) (lk_7 rfl rfl) ?_
                    refine K_goto 619 (pc := 615) (i := 365) (lk_7 rfl rfl) rfl ?_
                    refine K_cVI (pc := 619) (i := 367) (lk_7 rfl rfl) (c_Model_where G (x1 := v587) (x2 := v592) (x3 := 0) (x4 := 1) (hT := trivial) (hI := hI) (s1 := by omega) (s2 := by omega) (s3 := by omega) (s4 := by omega)) S_184 rfl (lv_law_76 rfl) rfl rfl rfl rfl rfl (fun v619 h619 q619 => ?_)
                    obtain ⟨fx619, q619⟩ := q619
                    obtain ⟨hI, r619⟩ := q619
                    have rs : Rs h619 := rl.2.fx hI0 (Fx.two fx578 fx619) (fun c i q => by rintro (e | e) <;> first | exact False.elim e | (dsimp only at e; omega) | omega) (fun c i q => by rintro (e | e) <;> first | exact False.elim e | (dsimp only at e; omega) | omega) (fun c i q => by rintro (e | e) <;> first | exact False.elim e | (dsimp only at e; omega) | omega) (fun c i q => by rintro (e | e) <;> first | exact False.elim e | (dsimp only at e; omega) | omega) (fun c i q => by rintro (e | e) <;> first | exact False.elim e | (dsimp only at e; omega) | omega) (fun c i q => by rintro (e | e) <;> first | exact False.elim e | (dsimp only at e; omega) | omega)
                    have rl : Rl h619 := ⟨by rw [fx619.cell 2 (fun i => (by first | (dsimp only; omega) | omega | exact not_false)), fx619.cell 190 (fun i => (by first | (dsimp only; omega) | omega | exact not_false)), fx578.cell 2 (fun i => (by first | (dsimp only; omega) | omega | exact not_false)), fx578.cell 190 (fun i => (by first | (dsimp only; omega) | omega | exact not_false))]; exact rl.1, rs⟩
                    refine K_pop (pc := 622) (i := 368) (lk_7 rfl rfl) rfl ?_
                    refine K_goto 1129 (pc := 623) (i := 369) (lk_7 rfl rfl) rfl ?_
                    refine K_inc (pc := 1129) (i := 749) (q := 3) (lo' := [(0, _), (1, _), (2, _), (3, _)]) rfl rfl rfl rfl rfl ?_
                    refine K_goto 18 (pc := 1132) (i := 750) (lk_15 rfl rfl) rfl ?_
                    exact ih18 (x3 + 5) _ (by omega) ⟨by omega, _, _, hI, rl⟩
                · skip
                  refine K_iconst (pc := 601) (i := 355) (lk_7 rfl rfl) ?_
                  refine K_goto 606 (pc := 602) (i := 356) (lk_7 rfl rfl) rfl ?_
                  refine K_aload_n (pc := 606) (i := 358) (lk_7 rfl rfl) rfl ?_
                  refine K_iload_n (pc := 607) (i := 359) (lk_7 rfl rfl) rfl ?_
                  refine K_iconst (pc := 608) (i := 360) (lk_7 rfl rfl) ?_
                  refine K_iadd (pc := 609) (i := 361) (lk_7 rfl rfl) ?_
                  refine K_sld (pc := 610) (i := 362) (lk_7 rfl rfl) (by omega) (by omega) hL ?_
                  refine K_nm (fun v610 e610 => ?_)
                  have r610 := kR_of (xs (x3 + 4).toNat)
                  rw [← e610] at r610
                  first | refine K_if_eq 618 (pc := 611) (i := 363) (lk_7 rfl rfl) rfl (by omega) (fun b611 => ?_) (fun b611 => ?_) | refine K_if_eq_an 618 (pc := 611) (i := 363) (lk_7 rfl rfl) rfl (fun b611 => ?_) (fun b611 => ?_)
                  · skip
                    refine K_iconst (pc := 618) (i := 366) (lk_7 rfl rfl) ?_
                    refine K_cVI (pc := 619) (i := 367) (lk_7 rfl rfl) (c_Model_where G (x1 := v587) (x2 := v592) (x3 := 1) (x4 := 0) (hT := trivial) (hI := hI) (s1 := by omega) (s2 := by omega) (s3 := by omega) (s4 := by omega)) S_184 rfl (lv_law_76 rfl) rfl rfl rfl rfl rfl (fun v619 h619 q619 => ?_)
                    obtain ⟨fx619, q619⟩ := q619
                    obtain ⟨hI, r619⟩ := q619
                    have rs : Rs h619 := rl.2.fx hI0 (Fx.two fx578 fx619) (fun c i q => by rintro (e | e) <;> first | exact False.elim e | (dsimp only at e; omega) | omega) (fun c i q => by rintro (e | e) <;> first | exact False.elim e | (dsimp only at e; omega) | omega) (fun c i q => by rintro (e | e) <;> first | exact False.elim e | (dsimp only at e; omega) | omega) (fun c i q => by rintro (e | e) <;> first | exact False.elim e | (dsimp only at e; omega) | omega) (fun c i q => by rintro (e | e) <;> first | exact False.elim e | (dsimp only at e; omega) | omega) (fun c i q => by rintro (e | e) <;> first | exact False.elim e | (dsimp only at e; omega) | omega)
                    have rl : Rl h619 := ⟨by rw [fx619.cell 2 (fun i => (by first | (dsimp only; omega) | omega | exact not_false)), fx619.cell 190 (fun i => (by first | (dsimp only; omega) | omega | exact not_false)), fx578.cell 2 (fun i => (by first | (dsimp only; omega) | omega | exact not_false)), fx578.cell 190 (fun i => (by first | (dsimp only; omega) | omega | exact not_false))]; exact rl.1, rs⟩
                    refine K_pop (pc := 622) (i := 368) (lk_7 rfl rfl) rfl ?_
                    refine K_goto 1129 (pc := 623) (i := 369) (lk_7 rfl rfl) rfl ?_
                    refine K_inc (pc := 1129) (i := 749) (q := 3) (lo' := [(0, _), (1, _), (2, _), (3, _)]) rfl rfl rfl rfl rfl ?_
                    refine K_goto 18 (pc := 1132) (i := 750) (lk_15 rfl rfl) rfl ?_
                    exact ih18 (x3 + 5) _ (by omega) ⟨by omega, _, _, hI, rl⟩
                  · skip
                    refine K_iconst (pc := 614) (i := 364) (lk_7 rfl rfl) ?_
                    refine K_goto 619 (pc := 615) (i := 365) (lk_7 rfl rfl) rfl ?_
                    refine K_cVI (pc := 619) (i := 367) (lk_7 rfl rfl) (c_Model_where G (x1 := v587) (x2 := v592) (x3 := 1) (x4 := 1) (hT := trivial) (hI := hI) (s1 := by omega) (s2 := by omega) (s3 := by omega) (s4 := by omega)) S_184 rfl (lv_law_76 rfl) rfl rfl rfl rfl rfl (fun v619 h619 q619 => ?_)
                    obtain ⟨fx619, q619⟩ := q619
                    obtain ⟨hI, r619⟩ := q619
                    have rs : Rs h619 := rl.2.fx hI0 (Fx.two fx578 fx619) (fun c i q => by rintro (e | e) <;> first | exact False.elim e | (dsimp only at e; omega) | omega) (fun c i q => by rintro (e | e) <;> first | exact False.elim e | (dsimp only at e; omega) | omega) (fun c i q => by rintro (e | e) <;> first | exact False.elim e | (dsimp only at e; omega) | omega) (fun c i q => by rintro (e | e) <;> first | exact False.elim e | (dsimp only at e; omega) | omega) (fun c i q => by rintro (e | e) <;> first | exact False.elim e | (dsimp only at e; omega) | omega) (fun c i q => by rintro (e | e) <;> first | exact False.elim e | (dsimp only at e; omega) | omega)
                    have rl : Rl h619 := ⟨by rw [fx619.cell 2 (fun i => (by first | (dsimp only; omega) | omega | exact not_false)), fx619.cell 190 (fun i => (by first | (dsimp only; omega) | omega | exact not_false)), fx578.cell 2 (fun i => (by first | (dsimp only; omega) | omega | exact not_false)), fx578.cell 190 (fun i => (by first | (dsimp only; omega) | omega | exact not_false))]; exact rl.1, rs⟩
                    refine K_pop (pc := 622) (i := 368) (lk_7 rfl rfl) rfl ?_
                    refine K_goto 1129 (pc := 623) (i := 369) (lk_7 rfl rfl) rfl ?_
                    refine K_inc (pc := 1129) (i := 749) (q := 3) (lo' := [(0, _), (1, _), (2, _), (3, _)]) rfl rfl rfl rfl rfl ?_
                    refine K_goto 18 (pc := 1132) (i := 750) (lk_15 rfl rfl) rfl ?_
                    exact ih18 (x3 + 5) _ (by omega) ⟨by omega, _, _, hI, rl⟩
              · skip
                refine K_iconst (pc := 573) (i := 333) (lk_6 rfl rfl) ?_
                refine K_goto 578 (pc := 574) (i := 334) (lk_6 rfl rfl) rfl ?_
                refine K_cVI (pc := 578) (i := 336) (lk_6 rfl rfl) (c_War_where G (x1 := v546) (x2 := v551) (x3 := 0) (x4 := 1) (hI := hI) (s1 := by omega) (s2 := by omega) (s3 := by omega) (s4 := by omega)) S_0 rfl (lv_law_72 rfl) rfl rfl rfl rfl rfl (fun v578 h578 q578 => ?_)
                obtain ⟨fx578, q578⟩ := q578
                obtain ⟨hI, r578⟩ := q578
                refine K_pop (pc := 581) (i := 337) (lk_6 rfl rfl) rfl ?_
                refine K_aload_n (pc := 582) (i := 338) (lk_6 rfl rfl) rfl ?_
                refine K_aload_n (pc := 583) (i := 339) (lk_6 rfl rfl) rfl ?_
                refine K_iload_n (pc := 584) (i := 340) (lk_6 rfl rfl) rfl ?_
                refine K_iconst (pc := 585) (i := 341) (lk_6 rfl rfl) ?_
                refine K_iadd (pc := 586) (i := 342) (lk_6 rfl rfl) ?_
                refine K_sld (pc := 587) (i := 343) (lk_6 rfl rfl) (by omega) (by omega) hL ?_
                refine K_nm (fun v587 e587 => ?_)
                have r587 := kR_of (xs (x3 + 1).toNat)
                rw [← e587] at r587
                refine K_aload_n (pc := 588) (i := 344) (lk_6 rfl rfl) rfl ?_
                refine K_iload_n (pc := 589) (i := 345) (lk_6 rfl rfl) rfl ?_
                refine K_iconst (pc := 590) (i := 346) (lk_6 rfl rfl) ?_
                refine K_iadd (pc := 591) (i := 347) (lk_6 rfl rfl) ?_
                refine K_sld (pc := 592) (i := 348) (lk_6 rfl rfl) (by omega) (by omega) hL ?_
                refine K_nm (fun v592 e592 => ?_)
                have r592 := kR_of (xs (x3 + 2).toNat)
                rw [← e592] at r592
                refine K_aload_n (pc := 593) (i := 349) (lk_6 rfl rfl) rfl ?_
                refine K_iload_n (pc := 594) (i := 350) (lk_7 rfl rfl) rfl ?_
                refine K_iconst (pc := 595) (i := 351) (lk_7 rfl rfl) ?_
                refine K_iadd (pc := 596) (i := 352) (lk_7 rfl rfl) ?_
                refine K_sld (pc := 597) (i := 353) (lk_7 rfl rfl) (by omega) (by omega) hL ?_
                refine K_nm (fun v597 e597 => ?_)
                have r597 := kR_of (xs (x3 + 3).toNat)
                rw [← e597] at r597
                first | refine K_if_eq 605 (pc := 598) (i := 354) (lk_7 rfl rfl) rfl (by omega) (fun b598 => ?_) (fun b598 => ?_) | refine K_if_eq_an 605 (pc := 598) (i := 354) (lk_7 rfl rfl) rfl (fun b598 => ?_) (fun b598 => ?_)
                · skip
                  refine K_iconst (pc := 605) (i := 357) (lk_7 rfl rfl) ?_
                  refine K_aload_n (pc := 606) (i := 358) (lk_7 rfl rfl) rfl ?_
                  refine K_iload_n (pc := 607) (i := 359) (lk_7 rfl rfl) rfl ?_
                  refine K_iconst (pc := 608) (i := 360) (lk_7 rfl rfl) ?_
                  refine K_iadd (pc := 609) (i := 361) (lk_7 rfl rfl) ?_
                  refine K_sld (pc := 610) (i := 362) (lk_7 rfl rfl) (by omega) (by omega) hL ?_
                  refine K_nm (fun v610 e610 => ?_)
                  have r610 := kR_of (xs (x3 + 4).toNat)
                  rw [← e610] at r610
                  first | refine K_if_eq 618 (pc := 611) (i := 363) (lk_7 rfl rfl) rfl (by omega) (fun b611 => ?_) (fun b611 => ?_) | refine K_if_eq_an 618 (pc := 611) (i := 363) (lk_7 rfl rfl) rfl (fun b611 => ?_) (fun b611 => ?_)
                  · skip
                    refine K_iconst (pc := 618) (i := 366) (lk_7 rfl rfl) ?_
                    refine K_cVI (pc := 619) (i := 367) (lk_7 rfl rfl) (c_Model_where G (x1 := v587) (x2 := v592) (x3 := 0) (x4 := 0) (hT := trivial) (hI := hI) (s1 := by omega) (s2 := by omega) (s3 := by omega) (s4 := by omega)) S_184 rfl (lv_law_76 rfl) rfl rfl rfl rfl rfl (fun v619 h619 q619 => ?_)
                    obtain ⟨fx619, q619⟩ := q619
                    obtain ⟨hI, r619⟩ := q619
                    have rs : Rs h619 := rl.2.fx hI0 (Fx.two fx578 fx619) (fun c i q => by rintro (e | e) <;> first | exact False.elim e | (dsimp only at e; omega) | omega) (fun c i q => by rintro (e | e) <;> first | exact False.elim e | (dsimp only at e; omega) | omega) (fun c i q => by rintro (e | e) <;> first | exact False.elim e | (dsimp only at e; omega) | omega) (fun c i q => by rintro (e | e) <;> first | exact False.elim e | (dsimp only at e; omega) | omega) (fun c i q => by rintro (e | e) <;> first | exact False.elim e | (dsimp only at e; omega) | omega) (fun c i q => by rintro (e | e) <;> first | exact False.elim e | (dsimp only at e; omega) | omega)
                    have rl : Rl h619 := ⟨by rw [fx619.cell 2 (fun i => (by first | (dsimp only; omega) | omega | exact not_false)), fx619.cell 190 (fun i => (by first | (dsimp only; omega) | omega | exact not_false)), fx578.cell 2 (fun i => (by first | (dsimp only; omega) | omega | exact not_false)), fx578.cell 190 (fun i => (by first | (dsimp only; omega) | omega | exact not_false))]; exact rl.1, rs⟩
                    refine K_pop (pc := 622) (i := 368) (lk_7 rfl rfl) rfl ?_
                    refine K_goto 1129 (pc := 623) (i := 369) (lk_7 rfl rfl) rfl ?_
                    refine K_inc (pc := 1129) (i := 749) (q := 3) (lo' := [(0, _), (1, _), (2, _), (3, _)]) rfl rfl rfl rfl rfl ?_
                    refine K_goto 18 (pc := 1132) (i := 750) (lk_15 rfl rfl) rfl ?_
                    exact ih18 (x3 + 5) _ (by omega) ⟨by omega, _, _, hI, rl⟩
                  · skip
                    refine K_iconst (pc := 614) (i := 364) (lk_7 rfl rfl) ?_
                    refine K_goto 619 (pc := 615) (i := 365) (lk_7 rfl rfl) rfl ?_
                    refine K_cVI (pc := 619) (i := 367) (lk_7 rfl rfl) (c_Model_where G (x1 := v587) (x2 := v592) (x3 := 0) (x4 := 1) (hT := trivial) (hI := hI) (s1 := by omega) (s2 := by omega) (s3 := by omega) (s4 := by omega)) S_184 rfl (lv_law_76 rfl) rfl rfl rfl rfl rfl (fun v619 h619 q619 => ?_)
                    obtain ⟨fx619, q619⟩ := q619
                    obtain ⟨hI, r619⟩ := q619
                    have rs : Rs h619 := rl.2.fx hI0 (Fx.two fx578 fx619) (fun c i q => by rintro (e | e) <;> first | exact False.elim e | (dsimp only at e; omega) | omega) (fun c i q => by rintro (e | e) <;> first | exact False.elim e | (dsimp only at e; omega) | omega) (fun c i q => by rintro (e | e) <;> first | exact False.elim e | (dsimp only at e; omega) | omega) (fun c i q => by rintro (e | e) <;> first | exact False.elim e | (dsimp only at e; omega) | omega) (fun c i q => by rintro (e | e) <;> first | exact False.elim e | (dsimp only at e; omega) | omega) (fun c i q => by rintro (e | e) <;> first | exact False.elim e | (dsimp only at e; omega) | omega)
                    have rl : Rl h619 := ⟨by rw [fx619.cell 2 (fun i => (by first | (dsimp only; omega) | omega | exact not_false)), fx619.cell 190 (fun i => (by first | (dsimp only; omega) | omega | exact not_false)), fx578.cell 2 (fun i => (by first | (dsimp only; omega) | omega | exact not_false)), fx578.cell 190 (fun i => (by first | (dsimp only; omega) | omega | exact not_false))]; exact rl.1, rs⟩
                    refine K_pop (pc := 622) (i := 368) (lk_7 rfl rfl) rfl ?_
                    refine K_goto 1129 (pc := 623) (i := 369) (lk_7 rfl rfl) rfl ?_
                    refine K_inc (pc := 1129) (i := 749) (q := 3) (lo' := [(0, _), (1, _), (2, _), (3, _)]) rfl rfl rfl rfl rfl ?_
                    refine K_goto 18 (pc := 1132) (i := 750) (lk_15 rfl rfl) rfl ?_
                    exact ih18 (x3 + 5) _ (by omega) ⟨by omega, _, _, hI, rl⟩
                · skip
                  refine K_iconst (pc := 601) (i := 355) (lk_7 rfl rfl) ?_
                  refine K_goto 606 (pc := 602) (i := 356) (lk_7 rfl rfl) rfl ?_
                  refine K_aload_n (pc := 606) (i := 358) (lk_7 rfl rfl) rfl ?_
                  refine K_iload_n (pc := 607) (i := 359) (lk_7 rfl rfl) rfl ?_
                  refine K_iconst (pc := 608) (i := 360) (lk_7 rfl rfl) ?_
                  refine K_iadd (pc := 609) (i := 361) (lk_7 rfl rfl) ?_
                  refine K_sld (pc := 610) (i := 362) (lk_7 rfl rfl) (by omega) (by omega) hL ?_
                  refine K_nm (fun v610 e610 => ?_)
                  have r610 := kR_of (xs (x3 + 4).toNat)
                  rw [← e610] at r610
                  first | refine K_if_eq 618 (pc := 611) (i := 363) (lk_7 rfl rfl) rfl (by omega) (fun b611 => ?_) (fun b611 => ?_) | refine K_if_eq_an 618 (pc := 611) (i := 363) (lk_7 rfl rfl) rfl (fun b611 => ?_) (fun b611 => ?_)
                  · skip
                    refine K_iconst (pc := 618) (i := 366) (lk_7 rfl rfl) ?_
                    refine K_cVI (pc := 619) (i := 367) (lk_7 rfl rfl) (c_Model_where G (x1 := v587) (x2 := v592) (x3 := 1) (x4 := 0) (hT := trivial) (hI := hI) (s1 := by omega) (s2 := by omega) (s3 := by omega) (s4 := by omega)) S_184 rfl (lv_law_76 rfl) rfl rfl rfl rfl rfl (fun v619 h619 q619 => ?_)
                    obtain ⟨fx619, q619⟩ := q619
                    obtain ⟨hI, r619⟩ := q619
                    have rs : Rs h619 := rl.2.fx hI0 (Fx.two fx578 fx619) (fun c i q => by rintro (e | e) <;> first | exact False.elim e | (dsimp only at e; omega) | omega) (fun c i q => by rintro (e | e) <;> first | exact False.elim e | (dsimp only at e; omega) | omega) (fun c i q => by rintro (e | e) <;> first | exact False.elim e | (dsimp only at e; omega) | omega) (fun c i q => by rintro (e | e) <;> first | exact False.elim e | (dsimp only at e; omega) | omega) (fun c i q => by rintro (e | e) <;> first | exact False.elim e | (dsimp only at e; omega) | omega) (fun c i q => by rintro (e | e) <;> first | exact False.elim e | (dsimp only at e; omega) | omega)
                    have rl : Rl h619 := ⟨by rw [fx619.cell 2 (fun i => (by first | (dsimp only; omega) | omega | exact not_false)), fx619.cell 190 (fun i => (by first | (dsimp only; omega) | omega | exact not_false)), fx578.cell 2 (fun i => (by first | (dsimp only; omega) | omega | exact not_false)), fx578.cell 190 (fun i => (by first | (dsimp only; omega) | omega | exact not_false))]; exact rl.1, rs⟩
                    refine K_pop (pc := 622) (i := 368) (lk_7 rfl rfl) rfl ?_
                    refine K_goto 1129 (pc := 623) (i := 369) (lk_7 rfl rfl) rfl ?_
                    refine K_inc (pc := 1129) (i := 749) (q := 3) (lo' := [(0, _), (1, _), (2, _), (3, _)]) rfl rfl rfl rfl rfl ?_
                    refine K_goto 18 (pc := 1132) (i := 750) (lk_15 rfl rfl) rfl ?_
                    exact ih18 (x3 + 5) _ (by omega) ⟨by omega, _, _, hI, rl⟩
                  · skip
                    refine K_iconst (pc := 614) (i := 364) (lk_7 rfl rfl) ?_
                    refine K_goto 619 (pc := 615) (i := 365) (lk_7 rfl rfl) rfl ?_
                    refine K_cVI (pc := 619) (i := 367) (lk_7 rfl rfl) (c_Model_where G (x1 := v587) (x2 := v592) (x3 := 1) (x4 := 1) (hT := trivial) (hI := hI) (s1 := by omega) (s2 := by omega) (s3 := by omega) (s4 := by omega)) S_184 rfl (lv_law_76 rfl) rfl rfl rfl rfl rfl (fun v619 h619 q619 => ?_)
                    obtain ⟨fx619, q619⟩ := q619
                    obtain ⟨hI, r619⟩ := q619
                    have rs : Rs h619 := rl.2.fx hI0 (Fx.two fx578 fx619) (fun c i q => by rintro (e | e) <;> first | exact False.elim e | (dsimp only at e; omega) | omega) (fun c i q => by rintro (e | e) <;> first | exact False.elim e | (dsimp only at e; omega) | omega) (fun c i q => by rintro (e | e) <;> first | exact False.elim e | (dsimp only at e; omega) | omega) (fun c i q => by rintro (e | e) <;> first | exact False.elim e | (dsimp only at e; omega) | omega) (fun c i q => by rintro (e | e) <;> first | exact False.elim e | (dsimp only at e; omega) | omega) (fun c i q => by rintro (e | e) <;> first | exact False.elim e | (dsimp only at e; omega) | omega)
                    have rl : Rl h619 := ⟨by rw [fx619.cell 2 (fun i => (by first | (dsimp only; omega) | omega | exact not_false)), fx619.cell 190 (fun i => (by first | (dsimp only; omega) | omega | exact not_false)), fx578.cell 2 (fun i => (by first | (dsimp only; omega) | omega | exact not_false)), fx578.cell 190 (fun i => (by first | (dsimp only; omega) | omega | exact not_false))]; exact rl.1, rs⟩
                    refine K_pop (pc := 622) (i := 368) (lk_7 rfl rfl) rfl ?_
                    refine K_goto 1129 (pc := 623) (i := 369) (lk_7 rfl rfl) rfl ?_
                    refine K_inc (pc := 1129) (i := 749) (q := 3) (lo' := [(0, _), (1, _), (2, _), (3, _)]) rfl rfl rfl rfl rfl ?_
                    refine K_goto 18 (pc := 1132) (i := 750) (lk_15 rfl rfl) rfl ?_
                    exact ih18 (x3 + 5) _ (by omega) ⟨by omega, _, _, hI, rl⟩
            · skip
              refine K_iconst (pc := 560) (i := 324) (lk_6 rfl rfl) ?_
              refine K_goto 565 (pc := 561) (i := 325) (lk_6 rfl rfl) rfl ?_
              refine K_aload_n (pc := 565) (i := 327) (lk_6 rfl rfl) rfl ?_
              refine K_iload_n (pc := 566) (i := 328) (lk_6 rfl rfl) rfl ?_
              refine K_iconst (pc := 567) (i := 329) (lk_6 rfl rfl) ?_
              refine K_iadd (pc := 568) (i := 330) (lk_6 rfl rfl) ?_
              refine K_sld (pc := 569) (i := 331) (lk_6 rfl rfl) (by omega) (by omega) hL ?_
              refine K_nm (fun v569 e569 => ?_)
              have r569 := kR_of (xs (x3 + 4).toNat)
              rw [← e569] at r569
              first | refine K_if_eq 577 (pc := 570) (i := 332) (lk_6 rfl rfl) rfl (by omega) (fun b570 => ?_) (fun b570 => ?_) | refine K_if_eq_an 577 (pc := 570) (i := 332) (lk_6 rfl rfl) rfl (fun b570 => ?_) (fun b570 => ?_)
              · skip
                refine K_iconst (pc := 577) (i := 335) (lk_6 rfl rfl) ?_
                refine K_cVI (pc := 578) (i := 336) (lk_6 rfl rfl) (c_War_where G (x1 := v546) (x2 := v551) (x3 := 1) (x4 := 0) (hI := hI) (s1 := by omega) (s2 := by omega) (s3 := by omega) (s4 := by omega)) S_0 rfl (lv_law_72 rfl) rfl rfl rfl rfl rfl (fun v578 h578 q578 => ?_)
                obtain ⟨fx578, q578⟩ := q578
                obtain ⟨hI, r578⟩ := q578
                refine K_pop (pc := 581) (i := 337) (lk_6 rfl rfl) rfl ?_
                refine K_aload_n (pc := 582) (i := 338) (lk_6 rfl rfl) rfl ?_
                refine K_aload_n (pc := 583) (i := 339) (lk_6 rfl rfl) rfl ?_
                refine K_iload_n (pc := 584) (i := 340) (lk_6 rfl rfl) rfl ?_
                refine K_iconst (pc := 585) (i := 341) (lk_6 rfl rfl) ?_
                refine K_iadd (pc := 586) (i := 342) (lk_6 rfl rfl) ?_
                refine K_sld (pc := 587) (i := 343) (lk_6 rfl rfl) (by omega) (by omega) hL ?_
                refine K_nm (fun v587 e587 => ?_)
                have r587 := kR_of (xs (x3 + 1).toNat)
                rw [← e587] at r587
                refine K_aload_n (pc := 588) (i := 344) (lk_6 rfl rfl) rfl ?_
                refine K_iload_n (pc := 589) (i := 345) (lk_6 rfl rfl) rfl ?_
                refine K_iconst (pc := 590) (i := 346) (lk_6 rfl rfl) ?_
                refine K_iadd (pc := 591) (i := 347) (lk_6 rfl rfl) ?_
                refine K_sld (pc := 592) (i := 348) (lk_6 rfl rfl) (by omega) (by omega) hL ?_
                refine K_nm (fun v592 e592 => ?_)
                have r592 := kR_of (xs (x3 + 2).toNat)
                rw [← e592] at r592
                refine K_aload_n (pc := 593) (i := 349) (lk_6 rfl rfl) rfl ?_
                refine K_iload_n (pc := 594) (i := 350) (lk_7 rfl rfl) rfl ?_
                refine K_iconst (pc := 595) (i := 351) (lk_7 rfl rfl) ?_
                refine K_iadd (pc := 596) (i := 352) (lk_7 rfl rfl) ?_
                refine K_sld (pc := 597) (i := 353) (lk_7 rfl rfl) (by omega) (by omega) hL ?_
                refine K_nm (fun v597 e597 => ?_)
                have r597 := kR_of (xs (x3 + 3).toNat)
                rw [← e597] at r597
                first | refine K_if_eq 605 (pc := 598) (i := 354) (lk_7 rfl rfl) rfl (by omega) (fun b598 => ?_) (fun b598 => ?_) | refine K_if_eq_an 605 (pc := 598) (i := 354) (lk_7 rfl rfl) rfl (fun b598 => ?_) (fun b598 => ?_)
                · skip
                  refine K_iconst (pc := 605) (i := 357) (lk_7 rfl rfl) ?_
                  refine K_aload_n (pc := 606) (i := 358) (lk_7 rfl rfl) rfl ?_
                  refine K_iload_n (pc := 607) (i := 359) (lk_7 rfl rfl) rfl ?_
                  refine K_iconst (pc := 608) (i := 360) (lk_7 rfl rfl) ?_
                  refine K_iadd (pc := 609) (i := 361) (lk_7 rfl rfl) ?_
                  refine K_sld (pc := 610) (i := 362) (lk_7 rfl rfl) (by omega) (by omega) hL ?_
                  refine K_nm (fun v610 e610 => ?_)
                  have r610 := kR_of (xs (x3 + 4).toNat)
                  rw [← e610] at r610
                  first | refine K_if_eq 618 (pc := 611) (i := 363) (lk_7 rfl rfl) rfl (by omega) (fun b611 => ?_) (fun b611 => ?_) | refine K_if_eq_an 618 (pc := 611) (i := 363) (lk_7 rfl rfl) rfl (fun b611 => ?_) (fun b611 => ?_)
                  · skip
                    refine K_iconst (pc := 618) (i := 366) (lk_7 rfl rfl) ?_
                    refine K_cVI (pc := 619) (i := 367) (lk_7 rfl rfl) (c_Model_where G (x1 := v587) (x2 := v592) (x3 := 0) (x4 := 0) (hT := trivial) (hI := hI) (s1 := by omega) (s2 := by omega) (s3 := by omega) (s4 := by omega)) S_184 rfl (lv_law_76 rfl) rfl rfl rfl rfl rfl (fun v619 h619 q619 => ?_)
                    obtain ⟨fx619, q619⟩ := q619
                    obtain ⟨hI, r619⟩ := q619
                    have rs : Rs h619 := rl.2.fx hI0 (Fx.two fx578 fx619) (fun c i q => by rintro (e | e) <;> first | exact False.elim e | (dsimp only at e; omega) | omega) (fun c i q => by rintro (e | e) <;> first | exact False.elim e | (dsimp only at e; omega) | omega) (fun c i q => by rintro (e | e) <;> first | exact False.elim e | (dsimp only at e; omega) | omega) (fun c i q => by rintro (e | e) <;> first | exact False.elim e | (dsimp only at e; omega) | omega) (fun c i q => by rintro (e | e) <;> first | exact False.elim e | (dsimp only at e; omega) | omega) (fun c i q => by rintro (e | e) <;> first | exact False.elim e | (dsimp only at e; omega) | omega)
                    have rl : Rl h619 := ⟨by rw [fx619.cell 2 (fun i => (by first | (dsimp only; omega) | omega | exact not_false)), fx619.cell 190 (fun i => (by first | (dsimp only; omega) | omega | exact not_false)), fx578.cell 2 (fun i => (by first | (dsimp only; omega) | omega | exact not_false)), fx578.cell 190 (fun i => (by first | (dsimp only; omega) | omega | exact not_false))]; exact rl.1, rs⟩
                    refine K_pop (pc := 622) (i := 368) (lk_7 rfl rfl) rfl ?_
                    refine K_goto 1129 (pc := 623) (i := 369) (lk_7 rfl rfl) rfl ?_
                    refine K_inc (pc := 1129) (i := 749) (q := 3) (lo' := [(0, _), (1, _), (2, _), (3, _)]) rfl rfl rfl rfl rfl ?_
                    refine K_goto 18 (pc := 1132) (i := 750) (lk_15 rfl rfl) rfl ?_
                    exact ih18 (x3 + 5) _ (by omega) ⟨by omega, _, _, hI, rl⟩
                  · skip
                    refine K_iconst (pc := 614) (i := 364) (lk_7 rfl rfl) ?_
                    refine K_goto 619 (pc := 615) (i := 365) (lk_7 rfl rfl) rfl ?_
                    refine K_cVI (pc := 619) (i := 367) (lk_7 rfl rfl) (c_Model_where G (x1 := v587) (x2 := v592) (x3 := 0) (x4 := 1) (hT := trivial) (hI := hI) (s1 := by omega) (s2 := by omega) (s3 := by omega) (s4 := by omega)) S_184 rfl (lv_law_76 rfl) rfl rfl rfl rfl rfl (fun v619 h619 q619 => ?_)
                    obtain ⟨fx619, q619⟩ := q619
                    obtain ⟨hI, r619⟩ := q619
                    have rs : Rs h619 := rl.2.fx hI0 (Fx.two fx578 fx619) (fun c i q => by rintro (e | e) <;> first | exact False.elim e | (dsimp only at e; omega) | omega) (fun c i q => by rintro (e | e) <;> first | exact False.elim e | (dsimp only at e; omega) | omega) (fun c i q => by rintro (e | e) <;> first | exact False.elim e | (dsimp only at e; omega) | omega) (fun c i q => by rintro (e | e) <;> first | exact False.elim e | (dsimp only at e; omega) | omega) (fun c i q => by rintro (e | e) <;> first | exact False.elim e | (dsimp only at e; omega) | omega) (fun c i q => by rintro (e | e) <;> first | exact False.elim e | (dsimp only at e; omega) | omega)
                    have rl : Rl h619 := ⟨by rw [fx619.cell 2 (fun i => (by first | (dsimp only; omega) | omega | exact not_false)), fx619.cell 190 (fun i => (by first | (dsimp only; omega) | omega | exact not_false)), fx578.cell 2 (fun i => (by first | (dsimp only; omega) | omega | exact not_false)), fx578.cell 190 (fun i => (by first | (dsimp only; omega) | omega | exact not_false))]; exact rl.1, rs⟩
                    refine K_pop (pc := 622) (i := 368) (lk_7 rfl rfl) rfl ?_
                    refine K_goto 1129 (pc := 623) (i := 369) (lk_7 rfl rfl) rfl ?_
                    refine K_inc (pc := 1129) (i := 749) (q := 3) (lo' := [(0, _), (1, _), (2, _), (3, _)]) rfl rfl rfl rfl rfl ?_
                    refine K_goto 18 (pc := 1132) (i := 750) (lk_15 rfl rfl) rfl ?_
                    exact ih18 (x3 + 5) _ (by omega) ⟨by omega, _, _, hI, rl⟩
                · skip
                  refine K_iconst (pc := 601) (i := 355) (lk_7 rfl rfl) ?_
                  refine K_goto 606 (pc := 602) (i := 356) (lk_7 rfl rfl) rfl ?_
                  refine K_aload_n (pc := 606) (i := 358) (lk_7 rfl rfl) rfl ?_
                  refine K_iload_n (pc := 607) (i := 359) (lk_7 rfl rfl) rfl ?_
                  refine K_iconst (pc := 608) (i := 360) (lk_7 rfl rfl) ?_
                  refine K_iadd (pc := 609) (i := 361) (lk_7 rfl rfl) ?_
                  refine K_sld (pc := 610) (i := 362) (lk_7 rfl rfl) (by omega) (by omega) hL ?_
                  refine K_nm (fun v610 e610 => ?_)
                  have r610 := kR_of (xs (x3 + 4).toNat)
                  rw [← e610] at r610
                  first | refine K_if_eq 618 (pc := 611) (i := 363) (lk_7 rfl rfl) rfl (by omega) (fun b611 => ?_) (fun b611 => ?_) | refine K_if_eq_an 618 (pc := 611) (i := 363) (lk_7 rfl rfl) rfl (fun b611 => ?_) (fun b611 => ?_)
                  · skip
                    refine K_iconst (pc := 618) (i := 366) (lk_7 rfl rfl) ?_
                    refine K_cVI (pc := 619) (i := 367) (lk_7 rfl rfl) (c_Model_where G (x1 := v587) (x2 := v592) (x3 := 1) (x4 := 0) (hT := trivial) (hI := hI) (s1 := by omega) (s2 := by omega) (s3 := by omega) (s4 := by omega)) S_184 rfl (lv_law_76 rfl) rfl rfl rfl rfl rfl (fun v619 h619 q619 => ?_)
                    obtain ⟨fx619, q619⟩ := q619
                    obtain ⟨hI, r619⟩ := q619
                    have rs : Rs h619 := rl.2.fx hI0 (Fx.two fx578 fx619) (fun c i q => by rintro (e | e) <;> first | exact False.elim e | (dsimp only at e; omega) | omega) (fun c i q => by rintro (e | e) <;> first | exact False.elim e | (dsimp only at e; omega) | omega) (fun c i q => by rintro (e | e) <;> first | exact False.elim e | (dsimp only at e; omega) | omega) (fun c i q => by rintro (e | e) <;> first | exact False.elim e | (dsimp only at e; omega) | omega) (fun c i q => by rintro (e | e) <;> first | exact False.elim e | (dsimp only at e; omega) | omega) (fun c i q => by rintro (e | e) <;> first | exact False.elim e | (dsimp only at e; omega) | omega)
                    have rl : Rl h619 := ⟨by rw [fx619.cell 2 (fun i => (by first | (dsimp only; omega) | omega | exact not_false)), fx619.cell 190 (fun i => (by first | (dsimp only; omega) | omega | exact not_false)), fx578.cell 2 (fun i => (by first | (dsimp only; omega) | omega | exact not_false)), fx578.cell 190 (fun i => (by first | (dsimp only; omega) | omega | exact not_false))]; exact rl.1, rs⟩
                    refine K_pop (pc := 622) (i := 368) (lk_7 rfl rfl) rfl ?_
                    refine K_goto 1129 (pc := 623) (i := 369) (lk_7 rfl rfl) rfl ?_
                    refine K_inc (pc := 1129) (i := 749) (q := 3) (lo' := [(0, _), (1, _), (2, _), (3, _)]) rfl rfl rfl rfl rfl ?_
                    refine K_goto 18 (pc := 1132) (i := 750) (lk_15 rfl rfl) rfl ?_
                    exact ih18 (x3 + 5) _ (by omega) ⟨by omega, _, _, hI, rl⟩
                  · skip
                    refine K_iconst (pc := 614) (i := 364) (lk_7 rfl rfl) ?_
                    refine K_goto 619 (pc := 615) (i := 365) (lk_7 rfl rfl) rfl ?_
                    refine K_cVI (pc := 619) (i := 367) (lk_7 rfl rfl) (c_Model_where G (x1 := v587) (x2 := v592) (x3 := 1) (x4 := 1) (hT := trivial) (hI := hI) (s1 := by omega) (s2 := by omega) (s3 := by omega) (s4 := by omega)) S_184 rfl (lv_law_76 rfl) rfl rfl rfl rfl rfl (fun v619 h619 q619 => ?_)
                    obtain ⟨fx619, q619⟩ := q619
                    obtain ⟨hI, r619⟩ := q619
                    have rs : Rs h619 := rl.2.fx hI0 (Fx.two fx578 fx619) (fun c i q => by rintro (e | e) <;> first | exact False.elim e | (dsimp only at e; omega) | omega) (fun c i q => by rintro (e | e) <;> first | exact False.elim e | (dsimp only at e; omega) | omega) (fun c i q => by rintro (e | e) <;> first | exact False.elim e | (dsimp only at e; omega) | omega) (fun c i q => by rintro (e | e) <;> first | exact False.elim e | (dsimp only at e; omega) | omega) (fun c i q => by rintro (e | e) <;> first | exact False.elim e | (dsimp only at e; omega) | omega) (fun c i q => by rintro (e | e) <;> first | exact False.elim e | (dsimp only at e; omega) | omega)
                    have rl : Rl h619 := ⟨by rw [fx619.cell 2 (fun i => (by first | (dsimp only; omega) | omega | exact not_false)), fx619.cell 190 (fun i => (by first | (dsimp only; omega) | omega | exact not_false)), fx578.cell 2 (fun i => (by first | (dsimp only; omega) | omega | exact not_false)), fx578.cell 190 (fun i => (by first | (dsimp only; omega) | omega | exact not_false))]; exact rl.1, rs⟩
                    refine K_pop (pc := 622) (i := 368) (lk_7 rfl rfl) rfl ?_
                    refine K_goto 1129 (pc := 623) (i := 369) (lk_7 rfl rfl) rfl ?_
                    refine K_inc (pc := 1129) (i := 749) (q := 3) (lo' := [(0, _), (1, _), (2, _), (3, _)]) rfl rfl rfl rfl rfl ?_
                    refine K_goto 18 (pc := 1132) (i := 750) (lk_15 rfl rfl) rfl ?_
                    exact ih18 (x3 + 5) _ (by omega) ⟨by omega, _, _, hI, rl⟩
              · skip
                refine K_iconst (pc := 573) (i := 333) (lk_6 rfl rfl) ?_
                refine K_goto 578 (pc := 574) (i := 334) (lk_6 rfl rfl) rfl ?_
                refine K_cVI (pc := 578) (i := 336) (lk_6 rfl rfl) (c_War_where G (x1 := v546) (x2 := v551) (x3 := 1) (x4 := 1) (hI := hI) (s1 := by omega) (s2 := by omega) (s3 := by omega) (s4 := by omega)) S_0 rfl (lv_law_72 rfl) rfl rfl rfl rfl rfl (fun v578 h578 q578 => ?_)
                obtain ⟨fx578, q578⟩ := q578
                obtain ⟨hI, r578⟩ := q578
                refine K_pop (pc := 581) (i := 337) (lk_6 rfl rfl) rfl ?_
                refine K_aload_n (pc := 582) (i := 338) (lk_6 rfl rfl) rfl ?_
                refine K_aload_n (pc := 583) (i := 339) (lk_6 rfl rfl) rfl ?_
                refine K_iload_n (pc := 584) (i := 340) (lk_6 rfl rfl) rfl ?_
                refine K_iconst (pc := 585) (i := 341) (lk_6 rfl rfl) ?_
                refine K_iadd (pc := 586) (i := 342) (lk_6 rfl rfl) ?_
                refine K_sld (pc := 587) (i := 343) (lk_6 rfl rfl) (by omega) (by omega) hL ?_
                refine K_nm (fun v587 e587 => ?_)
                have r587 := kR_of (xs (x3 + 1).toNat)
                rw [← e587] at r587
                refine K_aload_n (pc := 588) (i := 344) (lk_6 rfl rfl) rfl ?_
                refine K_iload_n (pc := 589) (i := 345) (lk_6 rfl rfl) rfl ?_
                refine K_iconst (pc := 590) (i := 346) (lk_6 rfl rfl) ?_
                refine K_iadd (pc := 591) (i := 347) (lk_6 rfl rfl) ?_
                refine K_sld (pc := 592) (i := 348) (lk_6 rfl rfl) (by omega) (by omega) hL ?_
                refine K_nm (fun v592 e592 => ?_)
                have r592 := kR_of (xs (x3 + 2).toNat)
                rw [← e592] at r592
                refine K_aload_n (pc := 593) (i := 349) (lk_6 rfl rfl) rfl ?_
                refine K_iload_n (pc := 594) (i := 350) (lk_7 rfl rfl) rfl ?_
                refine K_iconst (pc := 595) (i := 351) (lk_7 rfl rfl) ?_
                refine K_iadd (pc := 596) (i := 352) (lk_7 rfl rfl) ?_
                refine K_sld (pc := 597) (i := 353) (lk_7 rfl rfl) (by omega) (by omega) hL ?_
                refine K_nm (fun v597 e597 => ?_)
                have r597 := kR_of (xs (x3 + 3).toNat)
                rw [← e597] at r597
                first | refine K_if_eq 605 (pc := 598) (i := 354) (lk_7 rfl rfl) rfl (by omega) (fun b598 => ?_) (fun b598 => ?_) | refine K_if_eq_an 605 (pc := 598) (i := 354) (lk_7 rfl rfl) rfl (fun b598 => ?_) (fun b598 => ?_)
                · skip
                  refine K_iconst (pc := 605) (i := 357) (lk_7 rfl rfl) ?_
                  refine K_aload_n (pc := 606) (i := 358) (lk_7 rfl rfl) rfl ?_
                  refine K_iload_n (pc := 607) (i := 359) (lk_7 rfl rfl) rfl ?_
                  refine K_iconst (pc := 608) (i := 360) (lk_7 rfl rfl) ?_
                  refine K_iadd (pc := 609) (i := 361) (lk_7 rfl rfl) ?_
                  refine K_sld (pc := 610) (i := 362) (lk_7 rfl rfl) (by omega) (by omega) hL ?_
                  refine K_nm (fun v610 e610 => ?_)
                  have r610 := kR_of (xs (x3 + 4).toNat)
                  rw [← e610] at r610
                  first | refine K_if_eq 618 (pc := 611) (i := 363) (lk_7 rfl rfl) rfl (by omega) (fun b611 => ?_) (fun b611 => ?_) | refine K_if_eq_an 618 (pc := 611) (i := 363) (lk_7 rfl rfl) rfl (fun b611 => ?_) (fun b611 => ?_)
                  · skip
                    refine K_iconst (pc := 618) (i := 366) (lk_7 rfl rfl) ?_
                    refine K_cVI (pc := 619) (i := 367) (lk_7 rfl rfl) (c_Model_where G (x1 := v587) (x2 := v592) (x3 := 0) (x4 := 0) (hT := trivial) (hI := hI) (s1 := by omega) (s2 := by omega) (s3 := by omega) (s4 := by omega)) S_184 rfl (lv_law_76 rfl) rfl rfl rfl rfl rfl (fun v619 h619 q619 => ?_)
                    obtain ⟨fx619, q619⟩ := q619
                    obtain ⟨hI, r619⟩ := q619
                    have rs : Rs h619 := rl.2.fx hI0 (Fx.two fx578 fx619) (fun c i q => by rintro (e | e) <;> first | exact False.elim e | (dsimp only at e; omega) | omega) (fun c i q => by rintro (e | e) <;> first | exact False.elim e | (dsimp only at e; omega) | omega) (fun c i q => by rintro (e | e) <;> first | exact False.elim e | (dsimp only at e; omega) | omega) (fun c i q => by rintro (e | e) <;> first | exact False.elim e | (dsimp only at e; omega) | omega) (fun c i q => by rintro (e | e) <;> first | exact False.elim e | (dsimp only at e; omega) | omega) (fun c i q => by rintro (e | e) <;> first | exact False.elim e | (dsimp only at e; omega) | omega)
                    have rl : Rl h619 := ⟨by rw [fx619.cell 2 (fun i => (by first | (dsimp only; omega) | omega | exact not_false)), fx619.cell 190 (fun i => (by first | (dsimp only; omega) | omega | exact not_false)), fx578.cell 2 (fun i => (by first | (dsimp only; omega) | omega | exact not_false)), fx578.cell 190 (fun i => (by first | (dsimp only; omega) | omega | exact not_false))]; exact rl.1, rs⟩
                    refine K_pop (pc := 622) (i := 368) (lk_7 rfl rfl) rfl ?_
                    refine K_goto 1129 (pc := 623) (i := 369) (lk_7 rfl rfl) rfl ?_
                    refine K_inc (pc := 1129) (i := 749) (q := 3) (lo' := [(0, _), (1, _), (2, _), (3, _)]) rfl rfl rfl rfl rfl ?_
                    refine K_goto 18 (pc := 1132) (i := 750) (lk_15 rfl rfl) rfl ?_
                    exact ih18 (x3 + 5) _ (by omega) ⟨by omega, _, _, hI, rl⟩
                  · skip
                    refine K_iconst (pc := 614) (i := 364) (lk_7 rfl rfl) ?_
                    refine K_goto 619 (pc := 615) (i := 365) (lk_7 rfl rfl) rfl ?_
                    refine K_cVI (pc := 619) (i := 367) (lk_7 rfl rfl) (c_Model_where G (x1 := v587) (x2 := v592) (x3 := 0) (x4 := 1) (hT := trivial) (hI := hI) (s1 := by omega) (s2 := by omega) (s3 := by omega) (s4 := by omega)) S_184 rfl (lv_law_76 rfl) rfl rfl rfl rfl rfl (fun v619 h619 q619 => ?_)
                    obtain ⟨fx619, q619⟩ := q619
                    obtain ⟨hI, r619⟩ := q619
                    have rs : Rs h619 := rl.2.fx hI0 (Fx.two fx578 fx619) (fun c i q => by rintro (e | e) <;> first | exact False.elim e | (dsimp only at e; omega) | omega) (fun c i q => by rintro (e | e) <;> first | exact False.elim e | (dsimp only at e; omega) | omega) (fun c i q => by rintro (e | e) <;> first | exact False.elim e | (dsimp only at e; omega) | omega) (fun c i q => by rintro (e | e) <;> first | exact False.elim e | (dsimp only at e; omega) | omega) (fun c i q => by rintro (e | e) <;> first | exact False.elim e | (dsimp only at e; omega) | omega) (fun c i q => by rintro (e | e) <;> first | exact False.elim e | (dsimp only at e; omega) | omega)
                    have rl : Rl h619 := ⟨by rw [fx619.cell 2 (fun i => (by first | (dsimp only; omega) | omega | exact not_false)), fx619.cell 190 (fun i => (by first | (dsimp only; omega) | omega | exact not_false)), fx578.cell 2 (fun i => (by first | (dsimp only; omega) | omega | exact not_false)), fx578.cell 190 (fun i => (by first | (dsimp only; omega) | omega | exact not_false))]; exact rl.1, rs⟩
                    refine K_pop (pc := 622) (i := 368) (lk_7 rfl rfl) rfl ?_
                    refine K_goto 1129 (pc := 623) (i := 369) (lk_7 rfl rfl) rfl ?_
                    refine K_inc (pc := 1129) (i := 749) (q := 3) (lo' := [(0, _), (1, _), (2, _), (3, _)]) rfl rfl rfl rfl rfl ?_
                    refine K_goto 18 (pc := 1132) (i := 750) (lk_15 rfl rfl) rfl ?_
                    exact ih18 (x3 + 5) _ (by omega) ⟨by omega, _, _, hI, rl⟩
                · skip
                  refine K_iconst (pc := 601) (i := 355) (lk_7 rfl rfl) ?_
                  refine K_goto 606 (pc := 602) (i := 356) (lk_7 rfl rfl) rfl ?_
                  refine K_aload_n (pc := 606) (i := 358) (lk_7 rfl rfl) rfl ?_
                  refine K_iload_n (pc := 607) (i := 359) (lk_7 rfl rfl) rfl ?_
                  refine K_iconst (pc := 608) (i := 360) (lk_7 rfl rfl) ?_
                  refine K_iadd (pc := 609) (i := 361) (lk_7 rfl rfl) ?_
                  refine K_sld (pc := 610) (i := 362) (lk_7 rfl rfl) (by omega) (by omega) hL ?_
                  refine K_nm (fun v610 e610 => ?_)
                  have r610 := kR_of (xs (x3 + 4).toNat)
                  rw [← e610] at r610
                  first | refine K_if_eq 618 (pc := 611) (i := 363) (lk_7 rfl rfl) rfl (by omega) (fun b611 => ?_) (fun b611 => ?_) | refine K_if_eq_an 618 (pc := 611) (i := 363) (lk_7 rfl rfl) rfl (fun b611 => ?_) (fun b611 => ?_)
                  · skip
                    refine K_iconst (pc := 618) (i := 366) (lk_7 rfl rfl) ?_
                    refine K_cVI (pc := 619) (i := 367) (lk_7 rfl rfl) (c_Model_where G (x1 := v587) (x2 := v592) (x3 := 1) (x4 := 0) (hT := trivial) (hI := hI) (s1 := by omega) (s2 := by omega) (s3 := by omega) (s4 := by omega)) S_184 rfl (lv_law_76 rfl) rfl rfl rfl rfl rfl (fun v619 h619 q619 => ?_)
                    obtain ⟨fx619, q619⟩ := q619
                    obtain ⟨hI, r619⟩ := q619
                    have rs : Rs h619 := rl.2.fx hI0 (Fx.two fx578 fx619) (fun c i q => by rintro (e | e) <;> first | exact False.elim e | (dsimp only at e; omega) | omega) (fun c i q => by rintro (e | e) <;> first | exact False.elim e | (dsimp only at e; omega) | omega) (fun c i q => by rintro (e | e) <;> first | exact False.elim e | (dsimp only at e; omega) | omega) (fun c i q => by rintro (e | e) <;> first | exact False.elim e | (dsimp only at e; omega) | omega) (fun c i q => by rintro (e | e) <;> first | exact False.elim e | (dsimp only at e; omega) | omega) (fun c i q => by rintro (e | e) <;> first | exact False.elim e | (dsimp only at e; omega) | omega)
                    have rl : Rl h619 := ⟨by rw [fx619.cell 2 (fun i => (by first | (dsimp only; omega) | omega | exact not_false)), fx619.cell 190 (fun i => (by first | (dsimp only; omega) | omega | exact not_false)), fx578.cell 2 (fun i => (by first | (dsimp only; omega) | omega | exact not_false)), fx578.cell 190 (fun i => (by first | (dsimp only; omega) | omega | exact not_false))]; exact rl.1, rs⟩
                    refine K_pop (pc := 622) (i := 368) (lk_7 rfl rfl) rfl ?_
                    refine K_goto 1129 (pc := 623) (i := 369) (lk_7 rfl rfl) rfl ?_
                    refine K_inc (pc := 1129) (i := 749) (q := 3) (lo' := [(0, _), (1, _), (2, _), (3, _)]) rfl rfl rfl rfl rfl ?_
                    refine K_goto 18 (pc := 1132) (i := 750) (lk_15 rfl rfl) rfl ?_
                    exact ih18 (x3 + 5) _ (by omega) ⟨by omega, _, _, hI, rl⟩
                  · skip
                    refine K_iconst (pc := 614) (i := 364) (lk_7 rfl rfl) ?_
                    refine K_goto 619 (pc := 615) (i := 365) (lk_7 rfl rfl) rfl ?_
                    refine K_cVI (pc := 619) (i := 367) (lk_7 rfl rfl) (c_Model_where G (x1 := v587) (x2 := v592) (x3 := 1) (x4 := 1) (hT := trivial) (hI := hI) (s1 := by omega) (s2 := by omega) (s3 := by omega) (s4 := by omega)) S_184 rfl (lv_law_76 rfl) rfl rfl rfl rfl rfl (fun v619 h619 q619 => ?_)
                    obtain ⟨fx619, q619⟩ := q619
                    obtain ⟨hI, r619⟩ := q619
                    have rs : Rs h619 := rl.2.fx hI0 (Fx.two fx578 fx619) (fun c i q => by rintro (e | e) <;> first | exact False.elim e | (dsimp only at e; omega) | omega) (fun c i q => by rintro (e | e) <;> first | exact False.elim e | (dsimp only at e; omega) | omega) (fun c i q => by rintro (e | e) <;> first | exact False.elim e | (dsimp only at e; omega) | omega) (fun c i q => by rintro (e | e) <;> first | exact False.elim e | (dsimp only at e; omega) | omega) (fun c i q => by rintro (e | e) <;> first | exact False.elim e | (dsimp only at e; omega) | omega) (fun c i q => by rintro (e | e) <;> first | exact False.elim e | (dsimp only at e; omega) | omega)
                    have rl : Rl h619 := ⟨by rw [fx619.cell 2 (fun i => (by first | (dsimp only; omega) | omega | exact not_false)), fx619.cell 190 (fun i => (by first | (dsimp only; omega) | omega | exact not_false)), fx578.cell 2 (fun i => (by first | (dsimp only; omega) | omega | exact not_false)), fx578.cell 190 (fun i => (by first | (dsimp only; omega) | omega | exact not_false))]; exact rl.1, rs⟩
                    refine K_pop (pc := 622) (i := 368) (lk_7 rfl rfl) rfl ?_
                    refine K_goto 1129 (pc := 623) (i := 369) (lk_7 rfl rfl) rfl ?_
                    refine K_inc (pc := 1129) (i := 749) (q := 3) (lo' := [(0, _), (1, _), (2, _), (3, _)]) rfl rfl rfl rfl rfl ?_
                    refine K_goto 18 (pc := 1132) (i := 750) (lk_15 rfl rfl) rfl ?_
                    exact ih18 (x3 + 5) _ (by omega) ⟨by omega, _, _, hI, rl⟩
          · refine K_tableIn 626 (by omega) (pc := 32) (i := 21) (lk_0 rfl rfl) (by omega) (by omega) (by rw [sx32]; rfl) rfl ?_
            refine K_aload_n (pc := 626) (i := 370) (lk_7 rfl rfl) rfl ?_
            refine K_aload_n (pc := 627) (i := 371) (lk_7 rfl rfl) rfl ?_
            refine K_iload_n (pc := 628) (i := 372) (lk_7 rfl rfl) rfl ?_
            refine K_iconst (pc := 629) (i := 373) (lk_7 rfl rfl) ?_
            refine K_iadd (pc := 630) (i := 374) (lk_7 rfl rfl) ?_
            refine K_sld (pc := 631) (i := 375) (lk_7 rfl rfl) (by omega) (by omega) hL ?_
            refine K_nm (fun v631 e631 => ?_)
            have r631 := kR_of (xs (x3 + 1).toNat)
            rw [← e631] at r631
            refine K_aload_n (pc := 632) (i := 376) (lk_7 rfl rfl) rfl ?_
            refine K_iload_n (pc := 633) (i := 377) (lk_7 rfl rfl) rfl ?_
            refine K_iconst (pc := 634) (i := 378) (lk_7 rfl rfl) ?_
            refine K_iadd (pc := 635) (i := 379) (lk_7 rfl rfl) ?_
            refine K_sld (pc := 636) (i := 380) (lk_7 rfl rfl) (by omega) (by omega) hL ?_
            refine K_nm (fun v636 e636 => ?_)
            have r636 := kR_of (xs (x3 + 2).toNat)
            rw [← e636] at r636
            refine K_cVI (pc := 637) (i := 381) (lk_7 rfl rfl) (c_War_along G (x1 := v631) (x2 := v636) (hI := hI) (s1 := by omega) (s2 := by omega)) S_0 rfl (lv_law_77 rfl) rfl rfl rfl rfl rfl (fun v637 h637 q637 => ?_)
            obtain ⟨fx637, q637⟩ := q637
            obtain ⟨hI, r637⟩ := q637
            refine K_pop (pc := 640) (i := 382) (lk_7 rfl rfl) rfl ?_
            refine K_aload_n (pc := 641) (i := 383) (lk_7 rfl rfl) rfl ?_
            refine K_aload_n (pc := 642) (i := 384) (lk_7 rfl rfl) rfl ?_
            refine K_iload_n (pc := 643) (i := 385) (lk_7 rfl rfl) rfl ?_
            refine K_iconst (pc := 644) (i := 386) (lk_7 rfl rfl) ?_
            refine K_iadd (pc := 645) (i := 387) (lk_7 rfl rfl) ?_
            refine K_sld (pc := 646) (i := 388) (lk_7 rfl rfl) (by omega) (by omega) hL ?_
            refine K_nm (fun v646 e646 => ?_)
            have r646 := kR_of (xs (x3 + 1).toNat)
            rw [← e646] at r646
            refine K_aload_n (pc := 647) (i := 389) (lk_7 rfl rfl) rfl ?_
            refine K_iload_n (pc := 648) (i := 390) (lk_7 rfl rfl) rfl ?_
            refine K_iconst (pc := 649) (i := 391) (lk_7 rfl rfl) ?_
            refine K_iadd (pc := 650) (i := 392) (lk_7 rfl rfl) ?_
            refine K_sld (pc := 651) (i := 393) (lk_7 rfl rfl) (by omega) (by omega) hL ?_
            refine K_nm (fun v651 e651 => ?_)
            have r651 := kR_of (xs (x3 + 2).toNat)
            rw [← e651] at r651
            refine K_cVI (pc := 652) (i := 394) (lk_7 rfl rfl) (c_Model_along G (x1 := v646) (x2 := v651) (hT := trivial) (hI := hI) (s1 := by omega) (s2 := by omega)) S_184 rfl (lv_law_80 rfl) rfl rfl rfl rfl rfl (fun v652 h652 q652 => ?_)
            obtain ⟨fx652, q652⟩ := q652
            obtain ⟨hI, r652⟩ := q652
            have y0 : v646 = v631 := by rw [e646, e631]
            have y1 : v651 = v636 := by rw [e651, e636]
            rw [y0, y1] at r652
            have q0 : v637 = v652 := an_along rl.2 hk0 (fun c hc => fx637.cell c (fun i => by first | (dsimp only; omega) | omega | exact not_false)) r637 r652
            have rs : Rs h652 := rl.2.fx hI0 (Fx.two fx637 fx652) (fun c i q => by rintro (e | e) <;> first | exact False.elim e | (dsimp only at e; omega) | omega) (fun c i q => by rintro (e | e) <;> first | exact False.elim e | (dsimp only at e; omega) | omega) (fun c i q => by rintro (e | e) <;> first | exact False.elim e | (dsimp only at e; omega) | omega) (fun c i q => by rintro (e | e) <;> first | exact False.elim e | (dsimp only at e; omega) | omega) (fun c i q => by rintro (e | e) <;> first | exact False.elim e | (dsimp only at e; omega) | omega) (fun c i q => by rintro (e | e) <;> first | exact False.elim e | (dsimp only at e; omega) | omega)
            have rl : Rl h652 := ⟨by rw [fx652.cell 2 (fun i => (by first | (dsimp only; omega) | omega | exact not_false)), fx652.cell 190 (fun i => (by first | (dsimp only; omega) | omega | exact not_false)), fx637.cell 2 (fun i => (by first | (dsimp only; omega) | omega | exact not_false)), fx637.cell 190 (fun i => (by first | (dsimp only; omega) | omega | exact not_false))]; exact rl.1, rs⟩
            refine K_pop (pc := 655) (i := 395) (lk_7 rfl rfl) rfl ?_
            refine K_goto 1129 (pc := 656) (i := 396) (lk_7 rfl rfl) rfl ?_
            refine K_inc (pc := 1129) (i := 749) (q := 3) (lo' := [(0, _), (1, _), (2, _), (3, _)]) rfl rfl rfl rfl rfl ?_
            refine K_goto 18 (pc := 1132) (i := 750) (lk_15 rfl rfl) rfl ?_
            exact ih18 (x3 + 5) _ (by omega) ⟨by omega, _, _, hI, rl⟩
          · refine K_tableIn 659 (by omega) (pc := 32) (i := 21) (lk_0 rfl rfl) (by omega) (by omega) (by rw [sx32]; rfl) rfl ?_
            refine K_aload_n (pc := 659) (i := 397) (lk_7 rfl rfl) rfl ?_
            refine K_cVI (pc := 660) (i := 398) (lk_7 rfl rfl) (c_War_tangle G (hI := hI)) S_0 rfl (lv_law_81 rfl) rfl rfl rfl rfl rfl (fun v660 h660 q660 => ?_)
            obtain ⟨fx660, q660⟩ := q660
            obtain ⟨hI, r660⟩ := q660
            refine K_pop (pc := 663) (i := 399) (lk_7 rfl rfl) rfl ?_
            refine K_aload_n (pc := 664) (i := 400) (lk_8 rfl rfl) rfl ?_
            refine K_cVI (pc := 665) (i := 401) (lk_8 rfl rfl) (c_Model_tangle G (hT := trivial) (hI := hI)) S_184 rfl (lv_law_84 rfl) rfl rfl rfl rfl rfl (fun v665 h665 q665 => ?_)
            obtain ⟨fx665, q665⟩ := q665
            obtain ⟨hI, r665⟩ := q665
            have q0 : v660 = v665 := an_tangle rl.2 hk0 (fun c hc => fx660.cell c (fun i => by first | (dsimp only; omega) | omega | exact not_false)) (rd_many hI0).1 r660 r665
            have rs : Rs h665 := rl.2.fx hI0 (Fx.two fx660 fx665) (fun c i q => by rintro (e | e) <;> first | exact False.elim e | (dsimp only at e; omega) | omega) (fun c i q => by rintro (e | e) <;> first | exact False.elim e | (dsimp only at e; omega) | omega) (fun c i q => by rintro (e | e) <;> first | exact False.elim e | (dsimp only at e; omega) | omega) (fun c i q => by rintro (e | e) <;> first | exact False.elim e | (dsimp only at e; omega) | omega) (fun c i q => by rintro (e | e) <;> first | exact False.elim e | (dsimp only at e; omega) | omega) (fun c i q => by rintro (e | e) <;> first | exact False.elim e | (dsimp only at e; omega) | omega)
            have rl : Rl h665 := ⟨by rw [fx665.cell 2 (fun i => (by first | (dsimp only; omega) | omega | exact not_false)), fx665.cell 190 (fun i => (by first | (dsimp only; omega) | omega | exact not_false)), fx660.cell 2 (fun i => (by first | (dsimp only; omega) | omega | exact not_false)), fx660.cell 190 (fun i => (by first | (dsimp only; omega) | omega | exact not_false))]; exact rl.1, rs⟩
            refine K_pop (pc := 668) (i := 402) (lk_8 rfl rfl) rfl ?_
            refine K_goto 1129 (pc := 669) (i := 403) (lk_8 rfl rfl) rfl ?_
            refine K_inc (pc := 1129) (i := 749) (q := 3) (lo' := [(0, _), (1, _), (2, _), (3, _)]) rfl rfl rfl rfl rfl ?_
            refine K_goto 18 (pc := 1132) (i := 750) (lk_15 rfl rfl) rfl ?_
            exact ih18 (x3 + 5) _ (by omega) ⟨by omega, _, _, hI, rl⟩
          · refine K_tableIn 672 (by omega) (pc := 32) (i := 21) (lk_0 rfl rfl) (by omega) (by omega) (by rw [sx32]; rfl) rfl ?_
            refine K_aload_n (pc := 672) (i := 404) (lk_8 rfl rfl) rfl ?_
            refine K_cVI (pc := 673) (i := 405) (lk_8 rfl rfl) (c_War_toTakeIn G (hI := hI)) S_0 rfl (lv_law_85 rfl) rfl rfl rfl rfl rfl (fun v673 h673 q673 => ?_)
            obtain ⟨fx673, q673⟩ := q673
            obtain ⟨hI, r673⟩ := q673
            refine K_pop (pc := 676) (i := 406) (lk_8 rfl rfl) rfl ?_
            refine K_aload_n (pc := 677) (i := 407) (lk_8 rfl rfl) rfl ?_
            refine K_cVI (pc := 678) (i := 408) (lk_8 rfl rfl) (c_Model_toTakeIn G (hT := trivial) (hI := hI)) S_184 rfl (lv_law_88 rfl) rfl rfl rfl rfl rfl (fun v678 h678 q678 => ?_)
            obtain ⟨fx678, q678⟩ := q678
            obtain ⟨hI, r678⟩ := q678
            have q0 : v673 = v678 := an_toTakeIn rl.2 hk0 (fun c hc => fx673.cell c (fun i => by first | (dsimp only; omega) | omega | exact not_false)) r673 r678
            have rs : Rs h678 := rl.2.fx hI0 (Fx.two fx673 fx678) (fun c i q => by rintro (e | e) <;> first | exact False.elim e | (dsimp only at e; omega) | omega) (fun c i q => by rintro (e | e) <;> first | exact False.elim e | (dsimp only at e; omega) | omega) (fun c i q => by rintro (e | e) <;> first | exact False.elim e | (dsimp only at e; omega) | omega) (fun c i q => by rintro (e | e) <;> first | exact False.elim e | (dsimp only at e; omega) | omega) (fun c i q => by rintro (e | e) <;> first | exact False.elim e | (dsimp only at e; omega) | omega) (fun c i q => by rintro (e | e) <;> first | exact False.elim e | (dsimp only at e; omega) | omega)
            have rl : Rl h678 := ⟨by rw [fx678.cell 2 (fun i => (by first | (dsimp only; omega) | omega | exact not_false)), fx678.cell 190 (fun i => (by first | (dsimp only; omega) | omega | exact not_false)), fx673.cell 2 (fun i => (by first | (dsimp only; omega) | omega | exact not_false)), fx673.cell 190 (fun i => (by first | (dsimp only; omega) | omega | exact not_false))]; exact rl.1, rs⟩
            refine K_pop (pc := 681) (i := 409) (lk_8 rfl rfl) rfl ?_
            refine K_goto 1129 (pc := 682) (i := 410) (lk_8 rfl rfl) rfl ?_
            refine K_inc (pc := 1129) (i := 749) (q := 3) (lo' := [(0, _), (1, _), (2, _), (3, _)]) rfl rfl rfl rfl rfl ?_
            refine K_goto 18 (pc := 1132) (i := 750) (lk_15 rfl rfl) rfl ?_
            exact ih18 (x3 + 5) _ (by omega) ⟨by omega, _, _, hI, rl⟩
          · refine K_tableIn 685 (by omega) (pc := 32) (i := 21) (lk_0 rfl rfl) (by omega) (by omega) (by rw [sx32]; rfl) rfl ?_
            refine K_aload_n (pc := 685) (i := 411) (lk_8 rfl rfl) rfl ?_
            refine K_aload_n (pc := 686) (i := 412) (lk_8 rfl rfl) rfl ?_
            refine K_iload_n (pc := 687) (i := 413) (lk_8 rfl rfl) rfl ?_
            refine K_iconst (pc := 688) (i := 414) (lk_8 rfl rfl) ?_
            refine K_iadd (pc := 689) (i := 415) (lk_8 rfl rfl) ?_
            refine K_sld (pc := 690) (i := 416) (lk_8 rfl rfl) (by omega) (by omega) hL ?_
            refine K_nm (fun v690 e690 => ?_)
            have r690 := kR_of (xs (x3 + 1).toNat)
            rw [← e690] at r690
            refine K_aload_n (pc := 691) (i := 417) (lk_8 rfl rfl) rfl ?_
            refine K_iload_n (pc := 692) (i := 418) (lk_8 rfl rfl) rfl ?_
            refine K_iconst (pc := 693) (i := 419) (lk_8 rfl rfl) ?_
            refine K_iadd (pc := 694) (i := 420) (lk_8 rfl rfl) ?_
            refine K_sld (pc := 695) (i := 421) (lk_8 rfl rfl) (by omega) (by omega) hL ?_
            refine K_nm (fun v695 e695 => ?_)
            have r695 := kR_of (xs (x3 + 2).toNat)
            rw [← e695] at r695
            refine K_cVI (pc := 696) (i := 422) (lk_8 rfl rfl) (c_War_after G (x1 := v690) (x2 := v695) (hI := hI) (s1 := by omega) (s2 := by omega)) S_0 rfl (lv_law_89 rfl) rfl rfl rfl rfl rfl (fun v696 h696 q696 => ?_)
            obtain ⟨fx696, q696⟩ := q696
            obtain ⟨hI, r696⟩ := q696
            refine K_pop (pc := 699) (i := 423) (lk_8 rfl rfl) rfl ?_
            refine K_aload_n (pc := 700) (i := 424) (lk_8 rfl rfl) rfl ?_
            refine K_aload_n (pc := 701) (i := 425) (lk_8 rfl rfl) rfl ?_
            refine K_iload_n (pc := 702) (i := 426) (lk_8 rfl rfl) rfl ?_
            refine K_iconst (pc := 703) (i := 427) (lk_8 rfl rfl) ?_
            refine K_iadd (pc := 704) (i := 428) (lk_8 rfl rfl) ?_
            refine K_sld (pc := 705) (i := 429) (lk_8 rfl rfl) (by omega) (by omega) hL ?_
            refine K_nm (fun v705 e705 => ?_)
            have r705 := kR_of (xs (x3 + 1).toNat)
            rw [← e705] at r705
            refine K_aload_n (pc := 706) (i := 430) (lk_8 rfl rfl) rfl ?_
            refine K_iload_n (pc := 707) (i := 431) (lk_8 rfl rfl) rfl ?_
            refine K_iconst (pc := 708) (i := 432) (lk_8 rfl rfl) ?_
            refine K_iadd (pc := 709) (i := 433) (lk_8 rfl rfl) ?_
            refine K_sld (pc := 710) (i := 434) (lk_8 rfl rfl) (by omega) (by omega) hL ?_
            refine K_nm (fun v710 e710 => ?_)
            have r710 := kR_of (xs (x3 + 2).toNat)
            rw [← e710] at r710
            refine K_cVI (pc := 711) (i := 435) (lk_8 rfl rfl) (c_Model_after G (x1 := v705) (x2 := v710) (hT := trivial) (hI := hI) (s1 := by omega) (s2 := by omega)) S_184 rfl (lv_law_92 rfl) rfl rfl rfl rfl rfl (fun v711 h711 q711 => ?_)
            obtain ⟨fx711, q711⟩ := q711
            obtain ⟨hI, r711⟩ := q711
            have y0 : v705 = v690 := by rw [e705, e690]
            have y1 : v710 = v695 := by rw [e710, e695]
            rw [y0, y1] at r711
            have q0 : v696 = v711 := an_after rl.2 hI0 hk0 (fun c hc => fx696.cell c (fun i => by first | (dsimp only; omega) | omega | exact not_false)) r696 r711
            have rs : Rs h711 := rl.2.fx hI0 (Fx.two fx696 fx711) (fun c i q => by rintro (e | e) <;> first | exact False.elim e | (dsimp only at e; omega) | omega) (fun c i q => by rintro (e | e) <;> first | exact False.elim e | (dsimp only at e; omega) | omega) (fun c i q => by rintro (e | e) <;> first | exact False.elim e | (dsimp only at e; omega) | omega) (fun c i q => by rintro (e | e) <;> first | exact False.elim e | (dsimp only at e; omega) | omega) (fun c i q => by rintro (e | e) <;> first | exact False.elim e | (dsimp only at e; omega) | omega) (fun c i q => by rintro (e | e) <;> first | exact False.elim e | (dsimp only at e; omega) | omega)
            have rl : Rl h711 := ⟨by rw [fx711.cell 2 (fun i => (by first | (dsimp only; omega) | omega | exact not_false)), fx711.cell 190 (fun i => (by first | (dsimp only; omega) | omega | exact not_false)), fx696.cell 2 (fun i => (by first | (dsimp only; omega) | omega | exact not_false)), fx696.cell 190 (fun i => (by first | (dsimp only; omega) | omega | exact not_false))]; exact rl.1, rs⟩
            refine K_pop (pc := 714) (i := 436) (lk_8 rfl rfl) rfl ?_
            refine K_goto 1129 (pc := 715) (i := 437) (lk_8 rfl rfl) rfl ?_
            refine K_inc (pc := 1129) (i := 749) (q := 3) (lo' := [(0, _), (1, _), (2, _), (3, _)]) rfl rfl rfl rfl rfl ?_
            refine K_goto 18 (pc := 1132) (i := 750) (lk_15 rfl rfl) rfl ?_
            exact ih18 (x3 + 5) _ (by omega) ⟨by omega, _, _, hI, rl⟩
          · refine K_tableIn 718 (by omega) (pc := 32) (i := 21) (lk_0 rfl rfl) (by omega) (by omega) (by rw [sx32]; rfl) rfl ?_
            refine K_aload_n (pc := 718) (i := 438) (lk_8 rfl rfl) rfl ?_
            refine K_aload_n (pc := 719) (i := 439) (lk_8 rfl rfl) rfl ?_
            refine K_iload_n (pc := 720) (i := 440) (lk_8 rfl rfl) rfl ?_
            refine K_iconst (pc := 721) (i := 441) (lk_8 rfl rfl) ?_
            refine K_iadd (pc := 722) (i := 442) (lk_8 rfl rfl) ?_
            refine K_sld (pc := 723) (i := 443) (lk_8 rfl rfl) (by omega) (by omega) hL ?_
            refine K_nm (fun v723 e723 => ?_)
            have r723 := kR_of (xs (x3 + 1).toNat)
            rw [← e723] at r723
            refine K_cVI (pc := 724) (i := 444) (lk_8 rfl rfl) (c_War_tonight G (x1 := v723) (hI := hI) (s1 := by omega)) S_0 rfl (lv_law_93 rfl) rfl rfl rfl rfl rfl (fun v724 h724 q724 => ?_)
            obtain ⟨fx724, q724⟩ := q724
            obtain ⟨hI, r724⟩ := q724
            refine K_pop (pc := 727) (i := 445) (lk_8 rfl rfl) rfl ?_
            refine K_aload_n (pc := 728) (i := 446) (lk_8 rfl rfl) rfl ?_
            refine K_aload_n (pc := 729) (i := 447) (lk_8 rfl rfl) rfl ?_
            refine K_iload_n (pc := 730) (i := 448) (lk_8 rfl rfl) rfl ?_
            refine K_iconst (pc := 731) (i := 449) (lk_8 rfl rfl) ?_
            refine K_iadd (pc := 732) (i := 450) (lk_9 rfl rfl) ?_
            refine K_sld (pc := 733) (i := 451) (lk_9 rfl rfl) (by omega) (by omega) hL ?_
            refine K_nm (fun v733 e733 => ?_)
            have r733 := kR_of (xs (x3 + 1).toNat)
            rw [← e733] at r733
            refine K_cVI (pc := 734) (i := 452) (lk_9 rfl rfl) (c_Model_tonight G (x1 := v733) (hT := trivial) (hI := hI) (s1 := by omega)) S_184 rfl (lv_law_96 rfl) rfl rfl rfl rfl rfl (fun v734 h734 q734 => ?_)
            obtain ⟨fx734, q734⟩ := q734
            obtain ⟨hI, r734⟩ := q734
            have rs : Rs h734 := rl.2.fx hI0 (Fx.two fx724 fx734) (fun c i q => by rintro (e | e) <;> first | exact False.elim e | (dsimp only at e; omega) | omega) (fun c i q => by rintro (e | e) <;> first | exact False.elim e | (dsimp only at e; omega) | omega) (fun c i q => by rintro (e | e) <;> first | exact False.elim e | (dsimp only at e; omega) | omega) (fun c i q => by rintro (e | e) <;> first | exact False.elim e | (dsimp only at e; omega) | omega) (fun c i q => by rintro (e | e) <;> first | exact False.elim e | (dsimp only at e; omega) | omega) (fun c i q => by rintro (e | e) <;> first | exact False.elim e | (dsimp only at e; omega) | omega)
            have rl : Rl h734 := ⟨by rw [fx734.cell 2 (fun i => (by first | (dsimp only; omega) | omega | exact not_false)), fx734.cell 190 (fun i => (by first | (dsimp only; omega) | omega | exact not_false)), fx724.cell 2 (fun i => (by first | (dsimp only; omega) | omega | exact not_false)), fx724.cell 190 (fun i => (by first | (dsimp only; omega) | omega | exact not_false))]; exact rl.1, rs⟩
            refine K_pop (pc := 737) (i := 453) (lk_9 rfl rfl) rfl ?_
            refine K_goto 1129 (pc := 738) (i := 454) (lk_9 rfl rfl) rfl ?_
            refine K_inc (pc := 1129) (i := 749) (q := 3) (lo' := [(0, _), (1, _), (2, _), (3, _)]) rfl rfl rfl rfl rfl ?_
            refine K_goto 18 (pc := 1132) (i := 750) (lk_15 rfl rfl) rfl ?_
            exact ih18 (x3 + 5) _ (by omega) ⟨by omega, _, _, hI, rl⟩
          · refine K_tableIn 741 (by omega) (pc := 32) (i := 21) (lk_0 rfl rfl) (by omega) (by omega) (by rw [sx32]; rfl) rfl ?_
            refine K_aload_n (pc := 741) (i := 455) (lk_9 rfl rfl) rfl ?_
            refine K_aload_n (pc := 742) (i := 456) (lk_9 rfl rfl) rfl ?_
            refine K_iload_n (pc := 743) (i := 457) (lk_9 rfl rfl) rfl ?_
            refine K_iconst (pc := 744) (i := 458) (lk_9 rfl rfl) ?_
            refine K_iadd (pc := 745) (i := 459) (lk_9 rfl rfl) ?_
            refine K_sld (pc := 746) (i := 460) (lk_9 rfl rfl) (by omega) (by omega) hL ?_
            refine K_nm (fun v746 e746 => ?_)
            have r746 := kR_of (xs (x3 + 1).toNat)
            rw [← e746] at r746
            refine K_aload_n (pc := 747) (i := 461) (lk_9 rfl rfl) rfl ?_
            refine K_iload_n (pc := 748) (i := 462) (lk_9 rfl rfl) rfl ?_
            refine K_iconst (pc := 749) (i := 463) (lk_9 rfl rfl) ?_
            refine K_iadd (pc := 750) (i := 464) (lk_9 rfl rfl) ?_
            refine K_sld (pc := 751) (i := 465) (lk_9 rfl rfl) (by omega) (by omega) hL ?_
            refine K_nm (fun v751 e751 => ?_)
            have r751 := kR_of (xs (x3 + 2).toNat)
            rw [← e751] at r751
            refine K_cVI (pc := 752) (i := 466) (lk_9 rfl rfl) (c_War_tonightAt G (x1 := v746) (x2 := v751) (hI := hI) (s1 := by omega) (s2 := by omega)) S_0 rfl (lv_law_97 rfl) rfl rfl rfl rfl rfl (fun v752 h752 q752 => ?_)
            obtain ⟨fx752, q752⟩ := q752
            obtain ⟨hI, r752⟩ := q752
            refine K_pop (pc := 755) (i := 467) (lk_9 rfl rfl) rfl ?_
            refine K_aload_n (pc := 756) (i := 468) (lk_9 rfl rfl) rfl ?_
            refine K_aload_n (pc := 757) (i := 469) (lk_9 rfl rfl) rfl ?_
            refine K_iload_n (pc := 758) (i := 470) (lk_9 rfl rfl) rfl ?_
            refine K_iconst (pc := 759) (i := 471) (lk_9 rfl rfl) ?_
            refine K_iadd (pc := 760) (i := 472) (lk_9 rfl rfl) ?_
            refine K_sld (pc := 761) (i := 473) (lk_9 rfl rfl) (by omega) (by omega) hL ?_
            refine K_nm (fun v761 e761 => ?_)
            have r761 := kR_of (xs (x3 + 1).toNat)
            rw [← e761] at r761
            refine K_aload_n (pc := 762) (i := 474) (lk_9 rfl rfl) rfl ?_
            refine K_iload_n (pc := 763) (i := 475) (lk_9 rfl rfl) rfl ?_
            refine K_iconst (pc := 764) (i := 476) (lk_9 rfl rfl) ?_
            refine K_iadd (pc := 765) (i := 477) (lk_9 rfl rfl) ?_
            refine K_sld (pc := 766) (i := 478) (lk_9 rfl rfl) (by omega) (by omega) hL ?_
            refine K_nm (fun v766 e766 => ?_)
            have r766 := kR_of (xs (x3 + 2).toNat)
            rw [← e766] at r766
            refine K_cVI (pc := 767) (i := 479) (lk_9 rfl rfl) (c_Model_tonightAt G (x1 := v761) (x2 := v766) (hT := trivial) (hI := hI) (s1 := by omega) (s2 := by omega)) S_184 rfl (lv_law_100 rfl) rfl rfl rfl rfl rfl (fun v767 h767 q767 => ?_)
            obtain ⟨fx767, q767⟩ := q767
            obtain ⟨hI, r767⟩ := q767
            have rs : Rs h767 := rl.2.fx hI0 (Fx.two fx752 fx767) (fun c i q => by rintro (e | e) <;> first | exact False.elim e | (dsimp only at e; omega) | omega) (fun c i q => by rintro (e | e) <;> first | exact False.elim e | (dsimp only at e; omega) | omega) (fun c i q => by rintro (e | e) <;> first | exact False.elim e | (dsimp only at e; omega) | omega) (fun c i q => by rintro (e | e) <;> first | exact False.elim e | (dsimp only at e; omega) | omega) (fun c i q => by rintro (e | e) <;> first | exact False.elim e | (dsimp only at e; omega) | omega) (fun c i q => by rintro (e | e) <;> first | exact False.elim e | (dsimp only at e; omega) | omega)
            have rl : Rl h767 := ⟨by rw [fx767.cell 2 (fun i => (by first | (dsimp only; omega) | omega | exact not_false)), fx767.cell 190 (fun i => (by first | (dsimp only; omega) | omega | exact not_false)), fx752.cell 2 (fun i => (by first | (dsimp only; omega) | omega | exact not_false)), fx752.cell 190 (fun i => (by first | (dsimp only; omega) | omega | exact not_false))]; exact rl.1, rs⟩
            refine K_pop (pc := 770) (i := 480) (lk_9 rfl rfl) rfl ?_
            refine K_goto 1129 (pc := 771) (i := 481) (lk_9 rfl rfl) rfl ?_
            refine K_inc (pc := 1129) (i := 749) (q := 3) (lo' := [(0, _), (1, _), (2, _), (3, _)]) rfl rfl rfl rfl rfl ?_
            refine K_goto 18 (pc := 1132) (i := 750) (lk_15 rfl rfl) rfl ?_
            exact ih18 (x3 + 5) _ (by omega) ⟨by omega, _, _, hI, rl⟩
          · refine K_tableIn 774 (by omega) (pc := 32) (i := 21) (lk_0 rfl rfl) (by omega) (by omega) (by rw [sx32]; rfl) rfl ?_
            refine K_aload_n (pc := 774) (i := 482) (lk_9 rfl rfl) rfl ?_
            refine K_aload_n (pc := 775) (i := 483) (lk_9 rfl rfl) rfl ?_
            refine K_iload_n (pc := 776) (i := 484) (lk_9 rfl rfl) rfl ?_
            refine K_iconst (pc := 777) (i := 485) (lk_9 rfl rfl) ?_
            refine K_iadd (pc := 778) (i := 486) (lk_9 rfl rfl) ?_
            refine K_sld (pc := 779) (i := 487) (lk_9 rfl rfl) (by omega) (by omega) hL ?_
            refine K_nm (fun v779 e779 => ?_)
            have r779 := kR_of (xs (x3 + 1).toNat)
            rw [← e779] at r779
            refine K_cVI (pc := 780) (i := 488) (lk_9 rfl rfl) (c_War_forSure G (x1 := v779) (hI := hI) (s1 := by omega)) S_0 rfl (lv_law_101 rfl) rfl rfl rfl rfl rfl (fun v780 h780 q780 => ?_)
            obtain ⟨fx780, q780⟩ := q780
            obtain ⟨hI, r780⟩ := q780
            refine K_pop (pc := 783) (i := 489) (lk_9 rfl rfl) rfl ?_
            refine K_aload_n (pc := 784) (i := 490) (lk_9 rfl rfl) rfl ?_
            refine K_aload_n (pc := 785) (i := 491) (lk_9 rfl rfl) rfl ?_
            refine K_iload_n (pc := 786) (i := 492) (lk_9 rfl rfl) rfl ?_
            refine K_iconst (pc := 787) (i := 493) (lk_9 rfl rfl) ?_
            refine K_iadd (pc := 788) (i := 494) (lk_9 rfl rfl) ?_
            refine K_sld (pc := 789) (i := 495) (lk_9 rfl rfl) (by omega) (by omega) hL ?_
            refine K_nm (fun v789 e789 => ?_)
            have r789 := kR_of (xs (x3 + 1).toNat)
            rw [← e789] at r789
            refine K_cVI (pc := 790) (i := 496) (lk_9 rfl rfl) (c_Model_forSure G (x1 := v789) (hT := trivial) (hI := hI) (s1 := by omega)) S_184 rfl (lv_law_104 rfl) rfl rfl rfl rfl rfl (fun v790 h790 q790 => ?_)
            obtain ⟨fx790, q790⟩ := q790
            obtain ⟨hI, r790⟩ := q790
            have rs : Rs h790 := rl.2.fx hI0 (Fx.two fx780 fx790) (fun c i q => by rintro (e | e) <;> first | exact False.elim e | (dsimp only at e; omega) | omega) (fun c i q => by rintro (e | e) <;> first | exact False.elim e | (dsimp only at e; omega) | omega) (fun c i q => by rintro (e | e) <;> first | exact False.elim e | (dsimp only at e; omega) | omega) (fun c i q => by rintro (e | e) <;> first | exact False.elim e | (dsimp only at e; omega) | omega) (fun c i q => by rintro (e | e) <;> first | exact False.elim e | (dsimp only at e; omega) | omega) (fun c i q => by rintro (e | e) <;> first | exact False.elim e | (dsimp only at e; omega) | omega)
            have rl : Rl h790 := ⟨by rw [fx790.cell 2 (fun i => (by first | (dsimp only; omega) | omega | exact not_false)), fx790.cell 190 (fun i => (by first | (dsimp only; omega) | omega | exact not_false)), fx780.cell 2 (fun i => (by first | (dsimp only; omega) | omega | exact not_false)), fx780.cell 190 (fun i => (by first | (dsimp only; omega) | omega | exact not_false))]; exact rl.1, rs⟩
            refine K_pop (pc := 793) (i := 497) (lk_9 rfl rfl) rfl ?_
            refine K_goto 1129 (pc := 794) (i := 498) (lk_9 rfl rfl) rfl ?_
            refine K_inc (pc := 1129) (i := 749) (q := 3) (lo' := [(0, _), (1, _), (2, _), (3, _)]) rfl rfl rfl rfl rfl ?_
            refine K_goto 18 (pc := 1132) (i := 750) (lk_15 rfl rfl) rfl ?_
            exact ih18 (x3 + 5) _ (by omega) ⟨by omega, _, _, hI, rl⟩
          · refine K_tableIn 797 (by omega) (pc := 32) (i := 21) (lk_0 rfl rfl) (by omega) (by omega) (by rw [sx32]; rfl) rfl ?_
            refine K_aload_n (pc := 797) (i := 499) (lk_9 rfl rfl) rfl ?_
            refine K_aload_n (pc := 798) (i := 500) (lk_10 rfl rfl) rfl ?_
            refine K_iload_n (pc := 799) (i := 501) (lk_10 rfl rfl) rfl ?_
            refine K_iconst (pc := 800) (i := 502) (lk_10 rfl rfl) ?_
            refine K_iadd (pc := 801) (i := 503) (lk_10 rfl rfl) ?_
            refine K_sld (pc := 802) (i := 504) (lk_10 rfl rfl) (by omega) (by omega) hL ?_
            refine K_nm (fun v802 e802 => ?_)
            have r802 := kR_of (xs (x3 + 1).toNat)
            rw [← e802] at r802
            refine K_aload_n (pc := 803) (i := 505) (lk_10 rfl rfl) rfl ?_
            refine K_iload_n (pc := 804) (i := 506) (lk_10 rfl rfl) rfl ?_
            refine K_iconst (pc := 805) (i := 507) (lk_10 rfl rfl) ?_
            refine K_iadd (pc := 806) (i := 508) (lk_10 rfl rfl) ?_
            refine K_sld (pc := 807) (i := 509) (lk_10 rfl rfl) (by omega) (by omega) hL ?_
            refine K_nm (fun v807 e807 => ?_)
            have r807 := kR_of (xs (x3 + 2).toNat)
            rw [← e807] at r807
            refine K_aload_n (pc := 808) (i := 510) (lk_10 rfl rfl) rfl ?_
            refine K_iload_n (pc := 809) (i := 511) (lk_10 rfl rfl) rfl ?_
            refine K_iconst (pc := 810) (i := 512) (lk_10 rfl rfl) ?_
            refine K_iadd (pc := 811) (i := 513) (lk_10 rfl rfl) ?_
            refine K_sld (pc := 812) (i := 514) (lk_10 rfl rfl) (by omega) (by omega) hL ?_
            refine K_nm (fun v812 e812 => ?_)
            have r812 := kR_of (xs (x3 + 3).toNat)
            rw [← e812] at r812
            refine K_cVI (pc := 813) (i := 515) (lk_10 rfl rfl) (c_War_toLaunch G (x1 := v802) (x2 := v807) (x3 := v812) (hI := hI) (s1 := by omega) (s2 := by omega) (s3 := by omega)) S_0 rfl (lv_law_105 rfl) rfl rfl rfl rfl rfl (fun v813 h813 q813 => ?_)
            obtain ⟨fx813, q813⟩ := q813
            obtain ⟨hI, r813⟩ := q813
            refine K_pop (pc := 816) (i := 516) (lk_10 rfl rfl) rfl ?_
            refine K_aload_n (pc := 817) (i := 517) (lk_10 rfl rfl) rfl ?_
            refine K_aload_n (pc := 818) (i := 518) (lk_10 rfl rfl) rfl ?_
            refine K_iload_n (pc := 819) (i := 519) (lk_10 rfl rfl) rfl ?_
            refine K_iconst (pc := 820) (i := 520) (lk_10 rfl rfl) ?_
            refine K_iadd (pc := 821) (i := 521) (lk_10 rfl rfl) ?_
            refine K_sld (pc := 822) (i := 522) (lk_10 rfl rfl) (by omega) (by omega) hL ?_
            refine K_nm (fun v822 e822 => ?_)
            have r822 := kR_of (xs (x3 + 1).toNat)
            rw [← e822] at r822
            refine K_aload_n (pc := 823) (i := 523) (lk_10 rfl rfl) rfl ?_
            refine K_iload_n (pc := 824) (i := 524) (lk_10 rfl rfl) rfl ?_
            refine K_iconst (pc := 825) (i := 525) (lk_10 rfl rfl) ?_
            refine K_iadd (pc := 826) (i := 526) (lk_10 rfl rfl) ?_
            refine K_sld (pc := 827) (i := 527) (lk_10 rfl rfl) (by omega) (by omega) hL ?_
            refine K_nm (fun v827 e827 => ?_)
            have r827 := kR_of (xs (x3 + 2).toNat)
            rw [← e827] at r827
            refine K_aload_n (pc := 828) (i := 528) (lk_10 rfl rfl) rfl ?_
            refine K_iload_n (pc := 829) (i := 529) (lk_10 rfl rfl) rfl ?_
            refine K_iconst (pc := 830) (i := 530) (lk_10 rfl rfl) ?_
            refine K_iadd (pc := 831) (i := 531) (lk_10 rfl rfl) ?_
            refine K_sld (pc := 832) (i := 532) (lk_10 rfl rfl) (by omega) (by omega) hL ?_
            refine K_nm (fun v832 e832 => ?_)
            have r832 := kR_of (xs (x3 + 3).toNat)
            rw [← e832] at r832
            refine K_cVI (pc := 833) (i := 533) (lk_10 rfl rfl) (c_Model_toLaunch G (x1 := v822) (x2 := v827) (x3 := v832) (hT := trivial) (hI := hI) (s1 := by omega) (s2 := by omega) (s3 := by omega)) S_184 rfl (lv_law_109 rfl) rfl rfl rfl rfl rfl (fun v833 h833 q833 => ?_)
            obtain ⟨fx833, q833⟩ := q833
            obtain ⟨hI, rs833, ct833⟩ := q833
            have y0 : v822 = v802 := by rw [e822, e802]
            have y1 : v827 = v807 := by rw [e827, e807]
            have y2 : v832 = v812 := by rw [e832, e812]
            rw [y0, y1, y2] at ct833
            have q0 : v813 = v833 := an_toLaunch rl.2 hI0 hk0 (fun c hc => fx813.cell c (fun i => by first | (dsimp only; omega) | omega | exact not_false)) r813 ct833
            have rs : Rs h833 := rs_toLaunch rl.2 hI0 fx813 rs833 fx833
            have rl : Rl h833 := ⟨by rw [fx833.cell 2 (fun i => (by first | (dsimp only; omega) | omega | exact not_false)), fx833.cell 190 (fun i => (by first | (dsimp only; omega) | omega | exact not_false)), fx813.cell 2 (fun i => (by first | (dsimp only; omega) | omega | exact not_false)), fx813.cell 190 (fun i => (by first | (dsimp only; omega) | omega | exact not_false))]; exact rl.1, rs⟩
            refine K_pop (pc := 836) (i := 534) (lk_10 rfl rfl) rfl ?_
            refine K_goto 1129 (pc := 837) (i := 535) (lk_10 rfl rfl) rfl ?_
            refine K_inc (pc := 1129) (i := 749) (q := 3) (lo' := [(0, _), (1, _), (2, _), (3, _)]) rfl rfl rfl rfl rfl ?_
            refine K_goto 18 (pc := 1132) (i := 750) (lk_15 rfl rfl) rfl ?_
            exact ih18 (x3 + 5) _ (by omega) ⟨by omega, _, _, hI, rl⟩
          · refine K_tableIn 840 (by omega) (pc := 32) (i := 21) (lk_0 rfl rfl) (by omega) (by omega) (by rw [sx32]; rfl) rfl ?_
            refine K_aload_n (pc := 840) (i := 536) (lk_10 rfl rfl) rfl ?_
            refine K_aload_n (pc := 841) (i := 537) (lk_10 rfl rfl) rfl ?_
            refine K_iload_n (pc := 842) (i := 538) (lk_10 rfl rfl) rfl ?_
            refine K_iconst (pc := 843) (i := 539) (lk_10 rfl rfl) ?_
            refine K_iadd (pc := 844) (i := 540) (lk_10 rfl rfl) ?_
            refine K_sld (pc := 845) (i := 541) (lk_10 rfl rfl) (by omega) (by omega) hL ?_
            refine K_nm (fun v845 e845 => ?_)
            have r845 := kR_of (xs (x3 + 1).toNat)
            rw [← e845] at r845
            refine K_aload_n (pc := 846) (i := 542) (lk_10 rfl rfl) rfl ?_
            refine K_iload_n (pc := 847) (i := 543) (lk_10 rfl rfl) rfl ?_
            refine K_iconst (pc := 848) (i := 544) (lk_10 rfl rfl) ?_
            refine K_iadd (pc := 849) (i := 545) (lk_10 rfl rfl) ?_
            refine K_sld (pc := 850) (i := 546) (lk_10 rfl rfl) (by omega) (by omega) hL ?_
            refine K_nm (fun v850 e850 => ?_)
            have r850 := kR_of (xs (x3 + 2).toNat)
            rw [← e850] at r850
            refine K_aload_n (pc := 851) (i := 547) (lk_10 rfl rfl) rfl ?_
            refine K_iload_n (pc := 852) (i := 548) (lk_10 rfl rfl) rfl ?_
            refine K_iconst (pc := 853) (i := 549) (lk_10 rfl rfl) ?_
            refine K_iadd (pc := 854) (i := 550) (lk_11 rfl rfl) ?_
            refine K_sld (pc := 855) (i := 551) (lk_11 rfl rfl) (by omega) (by omega) hL ?_
            refine K_nm (fun v855 e855 => ?_)
            have r855 := kR_of (xs (x3 + 3).toNat)
            rw [← e855] at r855
            first | refine K_if_eq 863 (pc := 856) (i := 552) (lk_11 rfl rfl) rfl (by omega) (fun b856 => ?_) (fun b856 => ?_) | refine K_if_eq_an 863 (pc := 856) (i := 552) (lk_11 rfl rfl) rfl (fun b856 => ?_) (fun b856 => ?_)
            · skip
              refine K_iconst (pc := 863) (i := 555) (lk_11 rfl rfl) ?_
              refine K_cVI (pc := 864) (i := 556) (lk_11 rfl rfl) (c_War_see G (x1 := v845) (x2 := v850) (x3 := 0) (hI := hI) (s1 := by omega) (s2 := by omega) (s3 := by omega)) S_0 rfl (lv_law_110 rfl) rfl rfl rfl rfl rfl (fun v864 h864 q864 => ?_)
              obtain ⟨fx864, q864⟩ := q864
              obtain ⟨hI, r864⟩ := q864
              refine K_pop (pc := 867) (i := 557) (lk_11 rfl rfl) rfl ?_
              refine K_aload_n (pc := 868) (i := 558) (lk_11 rfl rfl) rfl ?_
              refine K_aload_n (pc := 869) (i := 559) (lk_11 rfl rfl) rfl ?_
              refine K_iload_n (pc := 870) (i := 560) (lk_11 rfl rfl) rfl ?_
              refine K_iconst (pc := 871) (i := 561) (lk_11 rfl rfl) ?_
              refine K_iadd (pc := 872) (i := 562) (lk_11 rfl rfl) ?_
              refine K_sld (pc := 873) (i := 563) (lk_11 rfl rfl) (by omega) (by omega) hL ?_
              refine K_nm (fun v873 e873 => ?_)
              have r873 := kR_of (xs (x3 + 1).toNat)
              rw [← e873] at r873
              refine K_aload_n (pc := 874) (i := 564) (lk_11 rfl rfl) rfl ?_
              refine K_iload_n (pc := 875) (i := 565) (lk_11 rfl rfl) rfl ?_
              refine K_iconst (pc := 876) (i := 566) (lk_11 rfl rfl) ?_
              refine K_iadd (pc := 877) (i := 567) (lk_11 rfl rfl) ?_
              refine K_sld (pc := 878) (i := 568) (lk_11 rfl rfl) (by omega) (by omega) hL ?_
              refine K_nm (fun v878 e878 => ?_)
              have r878 := kR_of (xs (x3 + 2).toNat)
              rw [← e878] at r878
              refine K_aload_n (pc := 879) (i := 569) (lk_11 rfl rfl) rfl ?_
              refine K_iload_n (pc := 880) (i := 570) (lk_11 rfl rfl) rfl ?_
              refine K_iconst (pc := 881) (i := 571) (lk_11 rfl rfl) ?_
              refine K_iadd (pc := 882) (i := 572) (lk_11 rfl rfl) ?_
              refine K_sld (pc := 883) (i := 573) (lk_11 rfl rfl) (by omega) (by omega) hL ?_
              refine K_nm (fun v883 e883 => ?_)
              have r883 := kR_of (xs (x3 + 3).toNat)
              rw [← e883] at r883
              first | refine K_if_eq 891 (pc := 884) (i := 574) (lk_11 rfl rfl) rfl (by omega) (fun b884 => ?_) (fun b884 => ?_) | refine K_if_eq_an 891 (pc := 884) (i := 574) (lk_11 rfl rfl) rfl (fun b884 => ?_) (fun b884 => ?_)
              · skip
                refine K_iconst (pc := 891) (i := 577) (lk_11 rfl rfl) ?_
                refine K_cVI (pc := 892) (i := 578) (lk_11 rfl rfl) (c_Model_see G (x1 := v873) (x2 := v878) (x3 := 0) (hI := hI) (s1 := by omega) (s2 := by omega) (s3 := by omega)) S_184 rfl (lv_law_114 rfl) rfl rfl rfl rfl rfl (fun v892 h892 q892 => ?_)
                obtain ⟨fx892, q892⟩ := q892
                obtain ⟨hI, r892⟩ := q892
                have y0 : v873 = v845 := by rw [e873, e845]
                have y1 : v878 = v850 := by rw [e878, e850]
                have y2 : v883 = v855 := by rw [e883, e855]
                rw [y0, y1] at r892
                obtain ⟨q0, rs⟩ : v864 = v892 ∧ Rs h892 := by first | exact rl_see rl.2 hI0 hk0 r864 fx864 r892 fx892 | exact False.elim (by omega)
                have rl : Rl h892 := ⟨by rw [fx892.cell 2 (fun i => (by first | (dsimp only; omega) | omega | exact not_false)), fx892.cell 190 (fun i => (by first | (dsimp only; omega) | omega | exact not_false)), fx864.cell 2 (fun i => (by first | (dsimp only; omega) | omega | exact not_false)), fx864.cell 190 (fun i => (by first | (dsimp only; omega) | omega | exact not_false))]; exact rl.1, rs⟩
                refine K_pop (pc := 895) (i := 579) (lk_11 rfl rfl) rfl ?_
                refine K_goto 1129 (pc := 896) (i := 580) (lk_11 rfl rfl) rfl ?_
                refine K_inc (pc := 1129) (i := 749) (q := 3) (lo' := [(0, _), (1, _), (2, _), (3, _)]) rfl rfl rfl rfl rfl ?_
                refine K_goto 18 (pc := 1132) (i := 750) (lk_15 rfl rfl) rfl ?_
                exact ih18 (x3 + 5) _ (by omega) ⟨by omega, _, _, hI, rl⟩
              · skip
                refine K_iconst (pc := 887) (i := 575) (lk_11 rfl rfl) ?_
                refine K_goto 892 (pc := 888) (i := 576) (lk_11 rfl rfl) rfl ?_
                refine K_cVI (pc := 892) (i := 578) (lk_11 rfl rfl) (c_Model_see G (x1 := v873) (x2 := v878) (x3 := 1) (hI := hI) (s1 := by omega) (s2 := by omega) (s3 := by omega)) S_184 rfl (lv_law_114 rfl) rfl rfl rfl rfl rfl (fun v892 h892 q892 => ?_)
                obtain ⟨fx892, q892⟩ := q892
                obtain ⟨hI, r892⟩ := q892
                have y0 : v873 = v845 := by rw [e873, e845]
                have y1 : v878 = v850 := by rw [e878, e850]
                have y2 : v883 = v855 := by rw [e883, e855]
                rw [y0, y1] at r892
                obtain ⟨q0, rs⟩ : v864 = v892 ∧ Rs h892 := by first | exact rl_see rl.2 hI0 hk0 r864 fx864 r892 fx892 | exact False.elim (by omega)
                have rl : Rl h892 := ⟨by rw [fx892.cell 2 (fun i => (by first | (dsimp only; omega) | omega | exact not_false)), fx892.cell 190 (fun i => (by first | (dsimp only; omega) | omega | exact not_false)), fx864.cell 2 (fun i => (by first | (dsimp only; omega) | omega | exact not_false)), fx864.cell 190 (fun i => (by first | (dsimp only; omega) | omega | exact not_false))]; exact rl.1, rs⟩
                refine K_pop (pc := 895) (i := 579) (lk_11 rfl rfl) rfl ?_
                refine K_goto 1129 (pc := 896) (i := 580) (lk_11 rfl rfl) rfl ?_
                refine K_inc (pc := 1129) (i := 749) (q := 3) (lo' := [(0, _), (1, _), (2, _), (3, _)]) rfl rfl rfl rfl rfl ?_
                refine K_goto 18 (pc := 1132) (i := 750) (lk_15 rfl rfl) rfl ?_
                exact ih18 (x3 + 5) _ (by omega) ⟨by omega, _, _, hI, rl⟩
            · skip
              refine K_iconst (pc := 859) (i := 553) (lk_11 rfl rfl) ?_
              refine K_goto 864 (pc := 860) (i := 554) (lk_11 rfl rfl) rfl ?_
              refine K_cVI (pc := 864) (i := 556) (lk_11 rfl rfl) (c_War_see G (x1 := v845) (x2 := v850) (x3 := 1) (hI := hI) (s1 := by omega) (s2 := by omega) (s3 := by omega)) S_0 rfl (lv_law_110 rfl) rfl rfl rfl rfl rfl (fun v864 h864 q864 => ?_)
              obtain ⟨fx864, q864⟩ := q864
              obtain ⟨hI, r864⟩ := q864
              refine K_pop (pc := 867) (i := 557) (lk_11 rfl rfl) rfl ?_
              refine K_aload_n (pc := 868) (i := 558) (lk_11 rfl rfl) rfl ?_
              refine K_aload_n (pc := 869) (i := 559) (lk_11 rfl rfl) rfl ?_
              refine K_iload_n (pc := 870) (i := 560) (lk_11 rfl rfl) rfl ?_
              refine K_iconst (pc := 871) (i := 561) (lk_11 rfl rfl) ?_
              refine K_iadd (pc := 872) (i := 562) (lk_11 rfl rfl) ?_
              refine K_sld (pc := 873) (i := 563) (lk_11 rfl rfl) (by omega) (by omega) hL ?_
              refine K_nm (fun v873 e873 => ?_)
              have r873 := kR_of (xs (x3 + 1).toNat)
              rw [← e873] at r873
              refine K_aload_n (pc := 874) (i := 564) (lk_11 rfl rfl) rfl ?_
              refine K_iload_n (pc := 875) (i := 565) (lk_11 rfl rfl) rfl ?_
              refine K_iconst (pc := 876) (i := 566) (lk_11 rfl rfl) ?_
              refine K_iadd (pc := 877) (i := 567) (lk_11 rfl rfl) ?_
              refine K_sld (pc := 878) (i := 568) (lk_11 rfl rfl) (by omega) (by omega) hL ?_
              refine K_nm (fun v878 e878 => ?_)
              have r878 := kR_of (xs (x3 + 2).toNat)
              rw [← e878] at r878
              refine K_aload_n (pc := 879) (i := 569) (lk_11 rfl rfl) rfl ?_
              refine K_iload_n (pc := 880) (i := 570) (lk_11 rfl rfl) rfl ?_
              refine K_iconst (pc := 881) (i := 571) (lk_11 rfl rfl) ?_
              refine K_iadd (pc := 882) (i := 572) (lk_11 rfl rfl) ?_
              refine K_sld (pc := 883) (i := 573) (lk_11 rfl rfl) (by omega) (by omega) hL ?_
              refine K_nm (fun v883 e883 => ?_)
              have r883 := kR_of (xs (x3 + 3).toNat)
              rw [← e883] at r883
              first | refine K_if_eq 891 (pc := 884) (i := 574) (lk_11 rfl rfl) rfl (by omega) (fun b884 => ?_) (fun b884 => ?_) | refine K_if_eq_an 891 (pc := 884) (i := 574) (lk_11 rfl rfl) rfl (fun b884 => ?_) (fun b884 => ?_)
              · skip
                refine K_iconst (pc := 891) (i := 577) (lk_11 rfl rfl) ?_
                refine K_cVI (pc := 892) (i := 578) (lk_11 rfl rfl) (c_Model_see G (x1 := v873) (x2 := v878) (x3 := 0) (hI := hI) (s1 := by omega) (s2 := by omega) (s3 := by omega)) S_184 rfl (lv_law_114 rfl) rfl rfl rfl rfl rfl (fun v892 h892 q892 => ?_)
                obtain ⟨fx892, q892⟩ := q892
                obtain ⟨hI, r892⟩ := q892
                have y0 : v873 = v845 := by rw [e873, e845]
                have y1 : v878 = v850 := by rw [e878, e850]
                have y2 : v883 = v855 := by rw [e883, e855]
                rw [y0, y1] at r892
                obtain ⟨q0, rs⟩ : v864 = v892 ∧ Rs h892 := by first | exact rl_see rl.2 hI0 hk0 r864 fx864 r892 fx892 | exact False.elim (by omega)
                have rl : Rl h892 := ⟨by rw [fx892.cell 2 (fun i => (by first | (dsimp only; omega) | omega | exact not_false)), fx892.cell 190 (fun i => (by first | (dsimp only; omega) | omega | exact not_false)), fx864.cell 2 (fun i => (by first | (dsimp only; omega) | omega | exact not_false)), fx864.cell 190 (fun i => (by first | (dsimp only; omega) | omega | exact not_false))]; exact rl.1, rs⟩
                refine K_pop (pc := 895) (i := 579) (lk_11 rfl rfl) rfl ?_
                refine K_goto 1129 (pc := 896) (i := 580) (lk_11 rfl rfl) rfl ?_
                refine K_inc (pc := 1129) (i := 749) (q := 3) (lo' := [(0, _), (1, _), (2, _), (3, _)]) rfl rfl rfl rfl rfl ?_
                refine K_goto 18 (pc := 1132) (i := 750) (lk_15 rfl rfl) rfl ?_
                exact ih18 (x3 + 5) _ (by omega) ⟨by omega, _, _, hI, rl⟩
              · skip
                refine K_iconst (pc := 887) (i := 575) (lk_11 rfl rfl) ?_
                refine K_goto 892 (pc := 888) (i := 576) (lk_11 rfl rfl) rfl ?_
                refine K_cVI (pc := 892) (i := 578) (lk_11 rfl rfl) (c_Model_see G (x1 := v873) (x2 := v878) (x3 := 1) (hI := hI) (s1 := by omega) (s2 := by omega) (s3 := by omega)) S_184 rfl (lv_law_114 rfl) rfl rfl rfl rfl rfl (fun v892 h892 q892 => ?_)
                obtain ⟨fx892, q892⟩ := q892
                obtain ⟨hI, r892⟩ := q892
                have y0 : v873 = v845 := by rw [e873, e845]
                have y1 : v878 = v850 := by rw [e878, e850]
                have y2 : v883 = v855 := by rw [e883, e855]
                rw [y0, y1] at r892
                obtain ⟨q0, rs⟩ : v864 = v892 ∧ Rs h892 := by first | exact rl_see rl.2 hI0 hk0 r864 fx864 r892 fx892 | exact False.elim (by omega)
                have rl : Rl h892 := ⟨by rw [fx892.cell 2 (fun i => (by first | (dsimp only; omega) | omega | exact not_false)), fx892.cell 190 (fun i => (by first | (dsimp only; omega) | omega | exact not_false)), fx864.cell 2 (fun i => (by first | (dsimp only; omega) | omega | exact not_false)), fx864.cell 190 (fun i => (by first | (dsimp only; omega) | omega | exact not_false))]; exact rl.1, rs⟩
                refine K_pop (pc := 895) (i := 579) (lk_11 rfl rfl) rfl ?_
                refine K_goto 1129 (pc := 896) (i := 580) (lk_11 rfl rfl) rfl ?_
                refine K_inc (pc := 1129) (i := 749) (q := 3) (lo' := [(0, _), (1, _), (2, _), (3, _)]) rfl rfl rfl rfl rfl ?_
                refine K_goto 18 (pc := 1132) (i := 750) (lk_15 rfl rfl) rfl ?_
                exact ih18 (x3 + 5) _ (by omega) ⟨by omega, _, _, hI, rl⟩
          · refine K_tableIn 899 (by omega) (pc := 32) (i := 21) (lk_0 rfl rfl) (by omega) (by omega) (by rw [sx32]; rfl) rfl ?_
            refine K_aload_n (pc := 899) (i := 581) (lk_11 rfl rfl) rfl ?_
            refine K_cVI (pc := 900) (i := 582) (lk_11 rfl rfl) (c_War_unsee G (hI := hI)) S_0 rfl (lv_law_115 rfl) rfl rfl rfl rfl rfl (fun v900 h900 q900 => ?_)
            obtain ⟨fx900, q900⟩ := q900
            obtain ⟨hI, r900⟩ := q900
            refine K_pop (pc := 903) (i := 583) (lk_11 rfl rfl) rfl ?_
            refine K_aload_n (pc := 904) (i := 584) (lk_11 rfl rfl) rfl ?_
            refine K_cVI (pc := 905) (i := 585) (lk_11 rfl rfl) (c_Model_unsee G (hI := hI)) S_184 rfl (lv_law_118 rfl) rfl rfl rfl rfl rfl (fun v905 h905 q905 => ?_)
            obtain ⟨fx905, q905⟩ := q905
            obtain ⟨hI, r905⟩ := q905
            obtain ⟨q0, rs⟩ : v900 = v905 ∧ Rs h905 := by first | exact rl_unsee rl.2 hI0 hk0 r900 fx900 r905 fx905 | exact False.elim (by omega)
            have rl : Rl h905 := ⟨by rw [fx905.cell 2 (fun i => (by first | (dsimp only; omega) | omega | exact not_false)), fx905.cell 190 (fun i => (by first | (dsimp only; omega) | omega | exact not_false)), fx900.cell 2 (fun i => (by first | (dsimp only; omega) | omega | exact not_false)), fx900.cell 190 (fun i => (by first | (dsimp only; omega) | omega | exact not_false))]; exact rl.1, rs⟩
            refine K_pop (pc := 908) (i := 586) (lk_11 rfl rfl) rfl ?_
            refine K_goto 1129 (pc := 909) (i := 587) (lk_11 rfl rfl) rfl ?_
            refine K_inc (pc := 1129) (i := 749) (q := 3) (lo' := [(0, _), (1, _), (2, _), (3, _)]) rfl rfl rfl rfl rfl ?_
            refine K_goto 18 (pc := 1132) (i := 750) (lk_15 rfl rfl) rfl ?_
            exact ih18 (x3 + 5) _ (by omega) ⟨by omega, _, _, hI, rl⟩
          · refine K_tableIn 912 (by omega) (pc := 32) (i := 21) (lk_0 rfl rfl) (by omega) (by omega) (by rw [sx32]; rfl) rfl ?_
            refine K_aload_n (pc := 912) (i := 588) (lk_11 rfl rfl) rfl ?_
            refine K_cVI (pc := 913) (i := 589) (lk_11 rfl rfl) (c_War_fits G (hI := hI)) S_0 rfl (lv_law_119 rfl) rfl rfl rfl rfl rfl (fun v913 h913 q913 => ?_)
            obtain ⟨fx913, q913⟩ := q913
            obtain ⟨hI, r913⟩ := q913
            refine K_pop (pc := 916) (i := 590) (lk_11 rfl rfl) rfl ?_
            refine K_aload_n (pc := 917) (i := 591) (lk_11 rfl rfl) rfl ?_
            refine K_cVI (pc := 918) (i := 592) (lk_11 rfl rfl) (c_Model_fits G (hT := trivial) (hI := hI)) S_184 rfl (lv_law_122 rfl) rfl rfl rfl rfl rfl (fun v918 h918 q918 => ?_)
            obtain ⟨fx918, q918⟩ := q918
            obtain ⟨hI, r918⟩ := q918
            have rs : Rs h918 := rl.2.fx hI0 (Fx.two fx913 fx918) (fun c i q => by rintro (e | e) <;> first | exact False.elim e | (dsimp only at e; omega) | omega) (fun c i q => by rintro (e | e) <;> first | exact False.elim e | (dsimp only at e; omega) | omega) (fun c i q => by rintro (e | e) <;> first | exact False.elim e | (dsimp only at e; omega) | omega) (fun c i q => by rintro (e | e) <;> first | exact False.elim e | (dsimp only at e; omega) | omega) (fun c i q => by rintro (e | e) <;> first | exact False.elim e | (dsimp only at e; omega) | omega) (fun c i q => by rintro (e | e) <;> first | exact False.elim e | (dsimp only at e; omega) | omega)
            have rl : Rl h918 := ⟨by rw [fx918.cell 2 (fun i => (by first | (dsimp only; omega) | omega | exact not_false)), fx918.cell 190 (fun i => (by first | (dsimp only; omega) | omega | exact not_false)), fx913.cell 2 (fun i => (by first | (dsimp only; omega) | omega | exact not_false)), fx913.cell 190 (fun i => (by first | (dsimp only; omega) | omega | exact not_false))]; exact rl.1, rs⟩
            refine K_pop (pc := 921) (i := 593) (lk_11 rfl rfl) rfl ?_
            refine K_goto 1129 (pc := 922) (i := 594) (lk_11 rfl rfl) rfl ?_
            refine K_inc (pc := 1129) (i := 749) (q := 3) (lo' := [(0, _), (1, _), (2, _), (3, _)]) rfl rfl rfl rfl rfl ?_
            refine K_goto 18 (pc := 1132) (i := 750) (lk_15 rfl rfl) rfl ?_
            exact ih18 (x3 + 5) _ (by omega) ⟨by omega, _, _, hI, rl⟩
          · refine K_tableIn 925 (by omega) (pc := 32) (i := 21) (lk_0 rfl rfl) (by omega) (by omega) (by rw [sx32]; rfl) rfl ?_
            refine K_aload_n (pc := 925) (i := 595) (lk_11 rfl rfl) rfl ?_
            refine K_aload_n (pc := 926) (i := 596) (lk_11 rfl rfl) rfl ?_
            refine K_iload_n (pc := 927) (i := 597) (lk_11 rfl rfl) rfl ?_
            refine K_iconst (pc := 928) (i := 598) (lk_11 rfl rfl) ?_
            refine K_iadd (pc := 929) (i := 599) (lk_11 rfl rfl) ?_
            refine K_sld (pc := 930) (i := 600) (lk_12 rfl rfl) (by omega) (by omega) hL ?_
            refine K_nm (fun v930 e930 => ?_)
            have r930 := kR_of (xs (x3 + 1).toNat)
            rw [← e930] at r930
            refine K_aload_n (pc := 931) (i := 601) (lk_12 rfl rfl) rfl ?_
            refine K_iload_n (pc := 932) (i := 602) (lk_12 rfl rfl) rfl ?_
            refine K_iconst (pc := 933) (i := 603) (lk_12 rfl rfl) ?_
            refine K_iadd (pc := 934) (i := 604) (lk_12 rfl rfl) ?_
            refine K_sld (pc := 935) (i := 605) (lk_12 rfl rfl) (by omega) (by omega) hL ?_
            refine K_nm (fun v935 e935 => ?_)
            have r935 := kR_of (xs (x3 + 2).toNat)
            rw [← e935] at r935
            first | refine K_if_eq 943 (pc := 936) (i := 606) (lk_12 rfl rfl) rfl (by omega) (fun b936 => ?_) (fun b936 => ?_) | refine K_if_eq_an 943 (pc := 936) (i := 606) (lk_12 rfl rfl) rfl (fun b936 => ?_) (fun b936 => ?_)
            · skip
              refine K_iconst (pc := 943) (i := 609) (lk_12 rfl rfl) ?_
              refine K_cVI (pc := 944) (i := 610) (lk_12 rfl rfl) (c_War_height G (x1 := v930) (x2 := 0) (hI := hI) (s1 := by omega) (s2 := by omega)) S_0 rfl (lv_law_123 rfl) rfl rfl rfl rfl rfl (fun v944 h944 q944 => ?_)
              obtain ⟨fx944, q944⟩ := q944
              obtain ⟨hI, r944⟩ := q944
              refine K_pop (pc := 947) (i := 611) (lk_12 rfl rfl) rfl ?_
              refine K_aload_n (pc := 948) (i := 612) (lk_12 rfl rfl) rfl ?_
              refine K_aload_n (pc := 949) (i := 613) (lk_12 rfl rfl) rfl ?_
              refine K_iload_n (pc := 950) (i := 614) (lk_12 rfl rfl) rfl ?_
              refine K_iconst (pc := 951) (i := 615) (lk_12 rfl rfl) ?_
              refine K_iadd (pc := 952) (i := 616) (lk_12 rfl rfl) ?_
              refine K_sld (pc := 953) (i := 617) (lk_12 rfl rfl) (by omega) (by omega) hL ?_
              refine K_nm (fun v953 e953 => ?_)
              have r953 := kR_of (xs (x3 + 1).toNat)
              rw [← e953] at r953
              refine K_aload_n (pc := 954) (i := 618) (lk_12 rfl rfl) rfl ?_
              refine K_iload_n (pc := 955) (i := 619) (lk_12 rfl rfl) rfl ?_
              refine K_iconst (pc := 956) (i := 620) (lk_12 rfl rfl) ?_
              refine K_iadd (pc := 957) (i := 621) (lk_12 rfl rfl) ?_
              refine K_sld (pc := 958) (i := 622) (lk_12 rfl rfl) (by omega) (by omega) hL ?_
              refine K_nm (fun v958 e958 => ?_)
              have r958 := kR_of (xs (x3 + 2).toNat)
              rw [← e958] at r958
              first | refine K_if_eq 966 (pc := 959) (i := 623) (lk_12 rfl rfl) rfl (by omega) (fun b959 => ?_) (fun b959 => ?_) | refine K_if_eq_an 966 (pc := 959) (i := 623) (lk_12 rfl rfl) rfl (fun b959 => ?_) (fun b959 => ?_)
              · skip
                refine K_iconst (pc := 966) (i := 626) (lk_12 rfl rfl) ?_
                refine K_cVI (pc := 967) (i := 627) (lk_12 rfl rfl) (c_Model_height G (x1 := v953) (x2 := 0) (hT := trivial) (hI := hI) (s1 := by omega) (s2 := by omega)) S_184 rfl (lv_law_127 rfl) rfl rfl rfl rfl rfl (fun v967 h967 q967 => ?_)
                obtain ⟨fx967, q967⟩ := q967
                obtain ⟨hI, r967⟩ := q967
                have rs : Rs h967 := rl.2.fx hI0 (Fx.two fx944 fx967) (fun c i q => by rintro (e | e) <;> first | exact False.elim e | (dsimp only at e; omega) | omega) (fun c i q => by rintro (e | e) <;> first | exact False.elim e | (dsimp only at e; omega) | omega) (fun c i q => by rintro (e | e) <;> first | exact False.elim e | (dsimp only at e; omega) | omega) (fun c i q => by rintro (e | e) <;> first | exact False.elim e | (dsimp only at e; omega) | omega) (fun c i q => by rintro (e | e) <;> first | exact False.elim e | (dsimp only at e; omega) | omega) (fun c i q => by rintro (e | e) <;> first | exact False.elim e | (dsimp only at e; omega) | omega)
                have rl : Rl h967 := ⟨by rw [fx967.cell 2 (fun i => (by first | (dsimp only; omega) | omega | exact not_false)), fx967.cell 190 (fun i => (by first | (dsimp only; omega) | omega | exact not_false)), fx944.cell 2 (fun i => (by first | (dsimp only; omega) | omega | exact not_false)), fx944.cell 190 (fun i => (by first | (dsimp only; omega) | omega | exact not_false))]; exact rl.1, rs⟩
                refine K_pop (pc := 970) (i := 628) (lk_12 rfl rfl) rfl ?_
                refine K_goto 1129 (pc := 971) (i := 629) (lk_12 rfl rfl) rfl ?_
                refine K_inc (pc := 1129) (i := 749) (q := 3) (lo' := [(0, _), (1, _), (2, _), (3, _)]) rfl rfl rfl rfl rfl ?_
                refine K_goto 18 (pc := 1132) (i := 750) (lk_15 rfl rfl) rfl ?_
                exact ih18 (x3 + 5) _ (by omega) ⟨by omega, _, _, hI, rl⟩
              · skip
                refine K_iconst (pc := 962) (i := 624) (lk_12 rfl rfl) ?_
                refine K_goto 967 (pc := 963) (i := 625) (lk_12 rfl rfl) rfl ?_
                refine K_cVI (pc := 967) (i := 627) (lk_12 rfl rfl) (c_Model_height G (x1 := v953) (x2 := 1) (hT := trivial) (hI := hI) (s1 := by omega) (s2 := by omega)) S_184 rfl (lv_law_127 rfl) rfl rfl rfl rfl rfl (fun v967 h967 q967 => ?_)
                obtain ⟨fx967, q967⟩ := q967
                obtain ⟨hI, r967⟩ := q967
                have rs : Rs h967 := rl.2.fx hI0 (Fx.two fx944 fx967) (fun c i q => by rintro (e | e) <;> first | exact False.elim e | (dsimp only at e; omega) | omega) (fun c i q => by rintro (e | e) <;> first | exact False.elim e | (dsimp only at e; omega) | omega) (fun c i q => by rintro (e | e) <;> first | exact False.elim e | (dsimp only at e; omega) | omega) (fun c i q => by rintro (e | e) <;> first | exact False.elim e | (dsimp only at e; omega) | omega) (fun c i q => by rintro (e | e) <;> first | exact False.elim e | (dsimp only at e; omega) | omega) (fun c i q => by rintro (e | e) <;> first | exact False.elim e | (dsimp only at e; omega) | omega)
                have rl : Rl h967 := ⟨by rw [fx967.cell 2 (fun i => (by first | (dsimp only; omega) | omega | exact not_false)), fx967.cell 190 (fun i => (by first | (dsimp only; omega) | omega | exact not_false)), fx944.cell 2 (fun i => (by first | (dsimp only; omega) | omega | exact not_false)), fx944.cell 190 (fun i => (by first | (dsimp only; omega) | omega | exact not_false))]; exact rl.1, rs⟩
                refine K_pop (pc := 970) (i := 628) (lk_12 rfl rfl) rfl ?_
                refine K_goto 1129 (pc := 971) (i := 629) (lk_12 rfl rfl) rfl ?_
                refine K_inc (pc := 1129) (i := 749) (q := 3) (lo' := [(0, _), (1, _), (2, _), (3, _)]) rfl rfl rfl rfl rfl ?_
                refine K_goto 18 (pc := 1132) (i := 750) (lk_15 rfl rfl) rfl ?_
                exact ih18 (x3 + 5) _ (by omega) ⟨by omega, _, _, hI, rl⟩
            · skip
              refine K_iconst (pc := 939) (i := 607) (lk_12 rfl rfl) ?_
              refine K_goto 944 (pc := 940) (i := 608) (lk_12 rfl rfl) rfl ?_
              refine K_cVI (pc := 944) (i := 610) (lk_12 rfl rfl) (c_War_height G (x1 := v930) (x2 := 1) (hI := hI) (s1 := by omega) (s2 := by omega)) S_0 rfl (lv_law_123 rfl) rfl rfl rfl rfl rfl (fun v944 h944 q944 => ?_)
              obtain ⟨fx944, q944⟩ := q944
              obtain ⟨hI, r944⟩ := q944
              refine K_pop (pc := 947) (i := 611) (lk_12 rfl rfl) rfl ?_
              refine K_aload_n (pc := 948) (i := 612) (lk_12 rfl rfl) rfl ?_
              refine K_aload_n (pc := 949) (i := 613) (lk_12 rfl rfl) rfl ?_
              refine K_iload_n (pc := 950) (i := 614) (lk_12 rfl rfl) rfl ?_
              refine K_iconst (pc := 951) (i := 615) (lk_12 rfl rfl) ?_
              refine K_iadd (pc := 952) (i := 616) (lk_12 rfl rfl) ?_
              refine K_sld (pc := 953) (i := 617) (lk_12 rfl rfl) (by omega) (by omega) hL ?_
              refine K_nm (fun v953 e953 => ?_)
              have r953 := kR_of (xs (x3 + 1).toNat)
              rw [← e953] at r953
              refine K_aload_n (pc := 954) (i := 618) (lk_12 rfl rfl) rfl ?_
              refine K_iload_n (pc := 955) (i := 619) (lk_12 rfl rfl) rfl ?_
              refine K_iconst (pc := 956) (i := 620) (lk_12 rfl rfl) ?_
              refine K_iadd (pc := 957) (i := 621) (lk_12 rfl rfl) ?_
              refine K_sld (pc := 958) (i := 622) (lk_12 rfl rfl) (by omega) (by omega) hL ?_
              refine K_nm (fun v958 e958 => ?_)
              have r958 := kR_of (xs (x3 + 2).toNat)
              rw [← e958] at r958
              first | refine K_if_eq 966 (pc := 959) (i := 623) (lk_12 rfl rfl) rfl (by omega) (fun b959 => ?_) (fun b959 => ?_) | refine K_if_eq_an 966 (pc := 959) (i := 623) (lk_12 rfl rfl) rfl (fun b959 => ?_) (fun b959 => ?_)
              · skip
                refine K_iconst (pc := 966) (i := 626) (lk_12 rfl rfl) ?_
                refine K_cVI (pc := 967) (i := 627) (lk_12 rfl rfl) (c_Model_height G (x1 := v953) (x2 := 0) (hT := trivial) (hI := hI) (s1 := by omega) (s2 := by omega)) S_184 rfl (lv_law_127 rfl) rfl rfl rfl rfl rfl (fun v967 h967 q967 => ?_)
                obtain ⟨fx967, q967⟩ := q967
                obtain ⟨hI, r967⟩ := q967
                have rs : Rs h967 := rl.2.fx hI0 (Fx.two fx944 fx967) (fun c i q => by rintro (e | e) <;> first | exact False.elim e | (dsimp only at e; omega) | omega) (fun c i q => by rintro (e | e) <;> first | exact False.elim e | (dsimp only at e; omega) | omega) (fun c i q => by rintro (e | e) <;> first | exact False.elim e | (dsimp only at e; omega) | omega) (fun c i q => by rintro (e | e) <;> first | exact False.elim e | (dsimp only at e; omega) | omega) (fun c i q => by rintro (e | e) <;> first | exact False.elim e | (dsimp only at e; omega) | omega) (fun c i q => by rintro (e | e) <;> first | exact False.elim e | (dsimp only at e; omega) | omega)
                have rl : Rl h967 := ⟨by rw [fx967.cell 2 (fun i => (by first | (dsimp only; omega) | omega | exact not_false)), fx967.cell 190 (fun i => (by first | (dsimp only; omega) | omega | exact not_false)), fx944.cell 2 (fun i => (by first | (dsimp only; omega) | omega | exact not_false)), fx944.cell 190 (fun i => (by first | (dsimp only; omega) | omega | exact not_false))]; exact rl.1, rs⟩
                refine K_pop (pc := 970) (i := 628) (lk_12 rfl rfl) rfl ?_
                refine K_goto 1129 (pc := 971) (i := 629) (lk_12 rfl rfl) rfl ?_
                refine K_inc (pc := 1129) (i := 749) (q := 3) (lo' := [(0, _), (1, _), (2, _), (3, _)]) rfl rfl rfl rfl rfl ?_
                refine K_goto 18 (pc := 1132) (i := 750) (lk_15 rfl rfl) rfl ?_
                exact ih18 (x3 + 5) _ (by omega) ⟨by omega, _, _, hI, rl⟩
              · skip
                refine K_iconst (pc := 962) (i := 624) (lk_12 rfl rfl) ?_
                refine K_goto 967 (pc := 963) (i := 625) (lk_12 rfl rfl) rfl ?_
                refine K_cVI (pc := 967) (i := 627) (lk_12 rfl rfl) (c_Model_height G (x1 := v953) (x2 := 1) (hT := trivial) (hI := hI) (s1 := by omega) (s2 := by omega)) S_184 rfl (lv_law_127 rfl) rfl rfl rfl rfl rfl (fun v967 h967 q967 => ?_)
                obtain ⟨fx967, q967⟩ := q967
                obtain ⟨hI, r967⟩ := q967
                have rs : Rs h967 := rl.2.fx hI0 (Fx.two fx944 fx967) (fun c i q => by rintro (e | e) <;> first | exact False.elim e | (dsimp only at e; omega) | omega) (fun c i q => by rintro (e | e) <;> first | exact False.elim e | (dsimp only at e; omega) | omega) (fun c i q => by rintro (e | e) <;> first | exact False.elim e | (dsimp only at e; omega) | omega) (fun c i q => by rintro (e | e) <;> first | exact False.elim e | (dsimp only at e; omega) | omega) (fun c i q => by rintro (e | e) <;> first | exact False.elim e | (dsimp only at e; omega) | omega) (fun c i q => by rintro (e | e) <;> first | exact False.elim e | (dsimp only at e; omega) | omega)
                have rl : Rl h967 := ⟨by rw [fx967.cell 2 (fun i => (by first | (dsimp only; omega) | omega | exact not_false)), fx967.cell 190 (fun i => (by first | (dsimp only; omega) | omega | exact not_false)), fx944.cell 2 (fun i => (by first | (dsimp only; omega) | omega | exact not_false)), fx944.cell 190 (fun i => (by first | (dsimp only; omega) | omega | exact not_false))]; exact rl.1, rs⟩
                refine K_pop (pc := 970) (i := 628) (lk_12 rfl rfl) rfl ?_
                refine K_goto 1129 (pc := 971) (i := 629) (lk_12 rfl rfl) rfl ?_
                refine K_inc (pc := 1129) (i := 749) (q := 3) (lo' := [(0, _), (1, _), (2, _), (3, _)]) rfl rfl rfl rfl rfl ?_
                refine K_goto 18 (pc := 1132) (i := 750) (lk_15 rfl rfl) rfl ?_
                exact ih18 (x3 + 5) _ (by omega) ⟨by omega, _, _, hI, rl⟩
          · refine K_tableIn 974 (by omega) (pc := 32) (i := 21) (lk_0 rfl rfl) (by omega) (by omega) (by rw [sx32]; rfl) rfl ?_
            refine K_aload_n (pc := 974) (i := 630) (lk_12 rfl rfl) rfl ?_
            refine K_aload_n (pc := 975) (i := 631) (lk_12 rfl rfl) rfl ?_
            refine K_iload_n (pc := 976) (i := 632) (lk_12 rfl rfl) rfl ?_
            refine K_iconst (pc := 977) (i := 633) (lk_12 rfl rfl) ?_
            refine K_iadd (pc := 978) (i := 634) (lk_12 rfl rfl) ?_
            refine K_sld (pc := 979) (i := 635) (lk_12 rfl rfl) (by omega) (by omega) hL ?_
            refine K_nm (fun v979 e979 => ?_)
            have r979 := kR_of (xs (x3 + 1).toNat)
            rw [← e979] at r979
            refine K_i2l (pc := 980) (i := 636) (lk_12 rfl rfl) ?_
            refine K_eqJ (kI2l_eq (a := v979) (by omega)) ?_
            refine K_bipush (pc := 981) (i := 637) (lk_12 rfl rfl) rfl ?_
            refine K_lshl (pc := 983) (i := 638) (lk_12 rfl rfl) ?_
            refine K_aload_n (pc := 984) (i := 639) (lk_12 rfl rfl) rfl ?_
            refine K_iload_n (pc := 985) (i := 640) (lk_12 rfl rfl) rfl ?_
            refine K_iconst (pc := 986) (i := 641) (lk_12 rfl rfl) ?_
            refine K_iadd (pc := 987) (i := 642) (lk_12 rfl rfl) ?_
            refine K_sld (pc := 988) (i := 643) (lk_12 rfl rfl) (by omega) (by omega) hL ?_
            refine K_nm (fun v988 e988 => ?_)
            have r988 := kR_of (xs (x3 + 2).toNat)
            rw [← e988] at r988
            refine K_i2l (pc := 989) (i := 644) (lk_12 rfl rfl) ?_
            refine K_eqJ (kI2l_eq (a := v988) (by omega)) ?_
            refine K_ldc2 (4294967295) (pc := 990) (i := 645) (lk_12 rfl rfl) cl_law_13 (by decide) ?_
            refine K_land (pc := 993) (i := 646) (lk_12 rfl rfl) ?_
            refine K_lor (pc := 994) (i := 647) (lk_12 rfl rfl) ?_
            refine K_cVJ (pc := 995) (i := 648) (lk_12 rfl rfl) (c_War_seed G (l1 := kLor (kLshl v979 32) (kLand v988 4294967295)) (hI := hI)) S_0 rfl (lv_law_128 rfl) rfl rfl rfl rfl rfl (fun v995 h995 q995 => ?_)
            obtain ⟨fx995, q995⟩ := q995
            obtain ⟨r995, hI⟩ := q995
            refine K_pop2 (pc := 998) (i := 649) (lk_12 rfl rfl) rfl ?_
            refine K_aload_n (pc := 999) (i := 650) (lk_13 rfl rfl) rfl ?_
            refine K_aload_n (pc := 1000) (i := 651) (lk_13 rfl rfl) rfl ?_
            refine K_iload_n (pc := 1001) (i := 652) (lk_13 rfl rfl) rfl ?_
            refine K_iconst (pc := 1002) (i := 653) (lk_13 rfl rfl) ?_
            refine K_iadd (pc := 1003) (i := 654) (lk_13 rfl rfl) ?_
            refine K_sld (pc := 1004) (i := 655) (lk_13 rfl rfl) (by omega) (by omega) hL ?_
            refine K_nm (fun v1004 e1004 => ?_)
            have r1004 := kR_of (xs (x3 + 1).toNat)
            rw [← e1004] at r1004
            refine K_i2l (pc := 1005) (i := 656) (lk_13 rfl rfl) ?_
            refine K_eqJ (kI2l_eq (a := v1004) (by omega)) ?_
            refine K_bipush (pc := 1006) (i := 657) (lk_13 rfl rfl) rfl ?_
            refine K_lshl (pc := 1008) (i := 658) (lk_13 rfl rfl) ?_
            refine K_aload_n (pc := 1009) (i := 659) (lk_13 rfl rfl) rfl ?_
            refine K_iload_n (pc := 1010) (i := 660) (lk_13 rfl rfl) rfl ?_
            refine K_iconst (pc := 1011) (i := 661) (lk_13 rfl rfl) ?_
            refine K_iadd (pc := 1012) (i := 662) (lk_13 rfl rfl) ?_
            refine K_sld (pc := 1013) (i := 663) (lk_13 rfl rfl) (by omega) (by omega) hL ?_
            refine K_nm (fun v1013 e1013 => ?_)
            have r1013 := kR_of (xs (x3 + 2).toNat)
            rw [← e1013] at r1013
            refine K_i2l (pc := 1014) (i := 664) (lk_13 rfl rfl) ?_
            refine K_eqJ (kI2l_eq (a := v1013) (by omega)) ?_
            refine K_ldc2 (4294967295) (pc := 1015) (i := 665) (lk_13 rfl rfl) cl_law_13 (by decide) ?_
            refine K_land (pc := 1018) (i := 666) (lk_13 rfl rfl) ?_
            refine K_lor (pc := 1019) (i := 667) (lk_13 rfl rfl) ?_
            refine K_cVJ (pc := 1020) (i := 668) (lk_13 rfl rfl) (c_Model_seed G (l1 := kLor (kLshl v1004 32) (kLand v1013 4294967295)) (hI := hI)) S_184 rfl (lv_law_132 rfl) rfl rfl rfl rfl rfl (fun v1020 h1020 q1020 => ?_)
            obtain ⟨fx1020, q1020⟩ := q1020
            obtain ⟨r1020, hI⟩ := q1020
            have q1 : v1004 = v979 := by rw [e1004, e979]
            have q2 : v1013 = v988 := by rw [e1013, e988]
            have hI : Gd (la, (kLor (kLshl v979 32) (kLand v988 4294967295)), la, (kLor (kLshl v1004 32) (kLand v1013 4294967295)), True) h1020 := hI
            rw [q1, q2] at hI
            have rs : Rs h1020 := rl.2.fx hI0 (Fx.two fx995 fx1020) (fun c i q => by rintro (e | e) <;> first | exact False.elim e | (dsimp only at e; omega) | omega) (fun c i q => by rintro (e | e) <;> first | exact False.elim e | (dsimp only at e; omega) | omega) (fun c i q => by rintro (e | e) <;> first | exact False.elim e | (dsimp only at e; omega) | omega) (fun c i q => by rintro (e | e) <;> first | exact False.elim e | (dsimp only at e; omega) | omega) (fun c i q => by rintro (e | e) <;> first | exact False.elim e | (dsimp only at e; omega) | omega) (fun c i q => by rintro (e | e) <;> first | exact False.elim e | (dsimp only at e; omega) | omega)
            have rl : Rl h1020 := ⟨by rw [fx1020.cell 2 (fun i => (by first | (dsimp only; omega) | omega | exact not_false)), fx1020.cell 190 (fun i => (by first | (dsimp only; omega) | omega | exact not_false)), fx995.cell 2 (fun i => (by first | (dsimp only; omega) | omega | exact not_false)), fx995.cell 190 (fun i => (by first | (dsimp only; omega) | omega | exact not_false))]; exact rl.1, rs⟩
            refine K_pop2 (pc := 1023) (i := 669) (lk_13 rfl rfl) rfl ?_
            refine K_goto 1129 (pc := 1024) (i := 670) (lk_13 rfl rfl) rfl ?_
            refine K_inc (pc := 1129) (i := 749) (q := 3) (lo' := [(0, _), (1, _), (2, _), (3, _)]) rfl rfl rfl rfl rfl ?_
            refine K_goto 18 (pc := 1132) (i := 750) (lk_15 rfl rfl) rfl ?_
            exact ih18 (x3 + 5) _ (by omega) ⟨by omega, _, _, hI, rl⟩
          · refine K_tableIn 1027 (by omega) (pc := 32) (i := 21) (lk_0 rfl rfl) (by omega) (by omega) (by rw [sx32]; rfl) rfl ?_
            refine K_aload_n (pc := 1027) (i := 671) (lk_13 rfl rfl) rfl ?_
            refine K_aload_n (pc := 1028) (i := 672) (lk_13 rfl rfl) rfl ?_
            refine K_iload_n (pc := 1029) (i := 673) (lk_13 rfl rfl) rfl ?_
            refine K_iconst (pc := 1030) (i := 674) (lk_13 rfl rfl) ?_
            refine K_iadd (pc := 1031) (i := 675) (lk_13 rfl rfl) ?_
            refine K_sld (pc := 1032) (i := 676) (lk_13 rfl rfl) (by omega) (by omega) hL ?_
            refine K_nm (fun v1032 e1032 => ?_)
            have r1032 := kR_of (xs (x3 + 1).toNat)
            rw [← e1032] at r1032
            refine K_aload_n (pc := 1033) (i := 677) (lk_13 rfl rfl) rfl ?_
            refine K_iload_n (pc := 1034) (i := 678) (lk_13 rfl rfl) rfl ?_
            refine K_iconst (pc := 1035) (i := 679) (lk_13 rfl rfl) ?_
            refine K_iadd (pc := 1036) (i := 680) (lk_13 rfl rfl) ?_
            refine K_sld (pc := 1037) (i := 681) (lk_13 rfl rfl) (by omega) (by omega) hL ?_
            refine K_nm (fun v1037 e1037 => ?_)
            have r1037 := kR_of (xs (x3 + 2).toNat)
            rw [← e1037] at r1037
            refine K_cVI (pc := 1038) (i := 682) (lk_13 rfl rfl) (c_War_autumn G (x1 := v1032) (x2 := v1037) (hI := hI) (s1 := by omega) (s2 := by omega)) S_0 rfl (lv_law_133 rfl) rfl rfl rfl rfl rfl (fun v1038 h1038 q1038 => ?_)
            obtain ⟨fx1038, q1038⟩ := q1038
            obtain ⟨r1038, ca1038⟩ := q1038
            dsimp only at r1038
            obtain ⟨n1, hI, c1⟩ : ∃ n : Int, Gd (la, n, la, lb, True) h1038 ∧ (((0 ≤ v1032 ∧ v1032 ≤ 1 ∧ 1 ≤ v1037 ∧ v1037 ≤ 20) ∧ n = itr (9 * v1037).toNat lb) ∨ (¬ (0 ≤ v1032 ∧ v1032 ≤ 1 ∧ 1 ≤ v1037 ∧ v1037 ≤ 20) ∧ n = lb)) := by rcases r1038 with q | q; exact ⟨_, q.2, Or.inr ⟨q.1, rfl⟩⟩; exact ⟨_, q.2, Or.inl ⟨q.1, rfl⟩⟩
            refine K_pop (pc := 1041) (i := 683) (lk_13 rfl rfl) rfl ?_
            refine K_aload_n (pc := 1042) (i := 684) (lk_13 rfl rfl) rfl ?_
            refine K_aload_n (pc := 1043) (i := 685) (lk_13 rfl rfl) rfl ?_
            refine K_iload_n (pc := 1044) (i := 686) (lk_13 rfl rfl) rfl ?_
            refine K_iconst (pc := 1045) (i := 687) (lk_13 rfl rfl) ?_
            refine K_iadd (pc := 1046) (i := 688) (lk_13 rfl rfl) ?_
            refine K_sld (pc := 1047) (i := 689) (lk_13 rfl rfl) (by omega) (by omega) hL ?_
            refine K_nm (fun v1047 e1047 => ?_)
            have r1047 := kR_of (xs (x3 + 1).toNat)
            rw [← e1047] at r1047
            refine K_aload_n (pc := 1048) (i := 690) (lk_13 rfl rfl) rfl ?_
            refine K_iload_n (pc := 1049) (i := 691) (lk_13 rfl rfl) rfl ?_
            refine K_iconst (pc := 1050) (i := 692) (lk_13 rfl rfl) ?_
            refine K_iadd (pc := 1051) (i := 693) (lk_13 rfl rfl) ?_
            refine K_sld (pc := 1052) (i := 694) (lk_13 rfl rfl) (by omega) (by omega) hL ?_
            refine K_nm (fun v1052 e1052 => ?_)
            have r1052 := kR_of (xs (x3 + 2).toNat)
            rw [← e1052] at r1052
            refine K_cVI (pc := 1053) (i := 695) (lk_13 rfl rfl) (c_Model_autumn G (x1 := v1047) (x2 := v1052) (hT := trivial) (hI := hI) (s1 := by omega) (s2 := by omega)) S_184 rfl (lv_law_136 rfl) rfl rfl rfl rfl rfl (fun v1053 h1053 q1053 => ?_)
            obtain ⟨fx1053, q1053⟩ := q1053
            obtain ⟨r1053, wd1053, ca1053⟩ := q1053
            dsimp only at r1053
            obtain ⟨n2, hI, c2⟩ : ∃ n : Int, Gd (la, n1, la, n, True) h1053 ∧ (((0 ≤ v1047 ∧ v1047 ≤ 1 ∧ 1 ≤ v1052 ∧ v1052 ≤ 20) ∧ n = itr (9 * v1052).toNat lb) ∨ (¬ (0 ≤ v1047 ∧ v1047 ≤ 1 ∧ 1 ≤ v1052 ∧ v1052 ≤ 20) ∧ n = lb)) := by rcases r1053 with q | q; exact ⟨_, q.2, Or.inr ⟨q.1, rfl⟩⟩; exact ⟨_, q.2, Or.inl ⟨q.1, rfl⟩⟩
            have q1 : v1047 = v1032 := by rw [e1047, e1032]
            have q2 : v1052 = v1037 := by rw [e1052, e1037]
            rw [q1, q2] at c2
            have q3 : n2 = n1 := by rcases c1 with x | x <;> rcases c2 with y | y <;> first | exact y.2.trans x.2.symm | exact absurd x.1 y.1 | exact absurd y.1 x.1
            rw [q3] at hI
            rw [q1, q2] at ca1053
            have q0 : v1038 = v1053 := an_autumn rl.2 hI0 hk0 ⟨fx1038 184 4 (by first | (dsimp only; omega) | omega), fx1038.cell 187 (fun i => by first | (dsimp only; omega) | omega)⟩ ca1038 ca1053
            have rs : Rs h1053 := rs_autumn rl.2 hI0 fx1038 wd1053 fx1053
            have rl : Rl h1053 := ⟨by rw [fx1053.cell 2 (fun i => (by first | (dsimp only; omega) | omega | exact not_false)), fx1053.cell 190 (fun i => (by first | (dsimp only; omega) | omega | exact not_false)), fx1038.cell 2 (fun i => (by first | (dsimp only; omega) | omega | exact not_false)), fx1038.cell 190 (fun i => (by first | (dsimp only; omega) | omega | exact not_false))]; exact rl.1, rs⟩
            refine K_pop (pc := 1056) (i := 696) (lk_13 rfl rfl) rfl ?_
            refine K_goto 1129 (pc := 1057) (i := 697) (lk_13 rfl rfl) rfl ?_
            refine K_inc (pc := 1129) (i := 749) (q := 3) (lo' := [(0, _), (1, _), (2, _), (3, _)]) rfl rfl rfl rfl rfl ?_
            refine K_goto 18 (pc := 1132) (i := 750) (lk_15 rfl rfl) rfl ?_
            exact ih18 (x3 + 5) _ (by omega) ⟨by omega, _, _, hI, rl⟩
          · refine K_tableIn 1060 (by omega) (pc := 32) (i := 21) (lk_0 rfl rfl) (by omega) (by omega) (by rw [sx32]; rfl) rfl ?_
            refine K_aload_n (pc := 1060) (i := 698) (lk_13 rfl rfl) rfl ?_
            refine K_aload_n (pc := 1061) (i := 699) (lk_13 rfl rfl) rfl ?_
            refine K_iload_n (pc := 1062) (i := 700) (lk_14 rfl rfl) rfl ?_
            refine K_iconst (pc := 1063) (i := 701) (lk_14 rfl rfl) ?_
            refine K_iadd (pc := 1064) (i := 702) (lk_14 rfl rfl) ?_
            refine K_sld (pc := 1065) (i := 703) (lk_14 rfl rfl) (by omega) (by omega) hL ?_
            refine K_nm (fun v1065 e1065 => ?_)
            have r1065 := kR_of (xs (x3 + 1).toNat)
            rw [← e1065] at r1065
            refine K_cVI (pc := 1066) (i := 704) (lk_14 rfl rfl) (c_War_keep G (x1 := v1065) (hI := hI) (s1 := by omega)) S_0 rfl (lv_law_137 rfl) rfl rfl rfl rfl rfl (fun v1066 h1066 q1066 => ?_)
            obtain ⟨fx1066, q1066⟩ := q1066
            obtain ⟨hI, r1066⟩ := q1066
            refine K_pop (pc := 1069) (i := 705) (lk_14 rfl rfl) rfl ?_
            refine K_aload_n (pc := 1070) (i := 706) (lk_14 rfl rfl) rfl ?_
            refine K_aload_n (pc := 1071) (i := 707) (lk_14 rfl rfl) rfl ?_
            refine K_iload_n (pc := 1072) (i := 708) (lk_14 rfl rfl) rfl ?_
            refine K_iconst (pc := 1073) (i := 709) (lk_14 rfl rfl) ?_
            refine K_iadd (pc := 1074) (i := 710) (lk_14 rfl rfl) ?_
            refine K_sld (pc := 1075) (i := 711) (lk_14 rfl rfl) (by omega) (by omega) hL ?_
            refine K_nm (fun v1075 e1075 => ?_)
            have r1075 := kR_of (xs (x3 + 1).toNat)
            rw [← e1075] at r1075
            refine K_cVI (pc := 1076) (i := 712) (lk_14 rfl rfl) (c_Model_keep G (x1 := v1075) (hI := hI) (s1 := by omega)) S_184 rfl (lv_law_140 rfl) rfl rfl rfl rfl rfl (fun v1076 h1076 q1076 => ?_)
            obtain ⟨fx1076, q1076⟩ := q1076
            obtain ⟨hI, r1076⟩ := q1076
            have y0 : v1075 = v1065 := by rw [e1075, e1065]
            rw [y0] at r1076
            obtain ⟨q0, rs⟩ : v1066 = v1076 ∧ Rs h1076 := by first | exact rl_keep rl.2 hI0 hk0 r1066 fx1066 r1076 fx1076 | exact False.elim (by omega)
            have rl : Rl h1076 := ⟨by rw [fx1076.cell 2 (fun i => (by first | (dsimp only; omega) | omega | exact not_false)), fx1076.cell 190 (fun i => (by first | (dsimp only; omega) | omega | exact not_false)), fx1066.cell 2 (fun i => (by first | (dsimp only; omega) | omega | exact not_false)), fx1066.cell 190 (fun i => (by first | (dsimp only; omega) | omega | exact not_false))]; exact rl.1, rs⟩
            refine K_pop (pc := 1079) (i := 713) (lk_14 rfl rfl) rfl ?_
            refine K_goto 1129 (pc := 1080) (i := 714) (lk_14 rfl rfl) rfl ?_
            refine K_inc (pc := 1129) (i := 749) (q := 3) (lo' := [(0, _), (1, _), (2, _), (3, _)]) rfl rfl rfl rfl rfl ?_
            refine K_goto 18 (pc := 1132) (i := 750) (lk_15 rfl rfl) rfl ?_
            exact ih18 (x3 + 5) _ (by omega) ⟨by omega, _, _, hI, rl⟩
          · refine K_tableIn 1083 (by omega) (pc := 32) (i := 21) (lk_0 rfl rfl) (by omega) (by omega) (by rw [sx32]; rfl) rfl ?_
            refine K_aload_n (pc := 1083) (i := 715) (lk_14 rfl rfl) rfl ?_
            refine K_aload_n (pc := 1084) (i := 716) (lk_14 rfl rfl) rfl ?_
            refine K_iload_n (pc := 1085) (i := 717) (lk_14 rfl rfl) rfl ?_
            refine K_iconst (pc := 1086) (i := 718) (lk_14 rfl rfl) ?_
            refine K_iadd (pc := 1087) (i := 719) (lk_14 rfl rfl) ?_
            refine K_sld (pc := 1088) (i := 720) (lk_14 rfl rfl) (by omega) (by omega) hL ?_
            refine K_nm (fun v1088 e1088 => ?_)
            have r1088 := kR_of (xs (x3 + 1).toNat)
            rw [← e1088] at r1088
            refine K_cVI (pc := 1089) (i := 721) (lk_14 rfl rfl) (c_War_again G (x1 := v1088) (hI := hI) (s1 := by omega)) S_0 rfl (lv_law_141 rfl) rfl rfl rfl rfl rfl (fun v1089 h1089 q1089 => ?_)
            obtain ⟨fx1089, q1089⟩ := q1089
            obtain ⟨hI, r1089⟩ := q1089
            refine K_pop (pc := 1092) (i := 722) (lk_14 rfl rfl) rfl ?_
            refine K_aload_n (pc := 1093) (i := 723) (lk_14 rfl rfl) rfl ?_
            refine K_aload_n (pc := 1094) (i := 724) (lk_14 rfl rfl) rfl ?_
            refine K_iload_n (pc := 1095) (i := 725) (lk_14 rfl rfl) rfl ?_
            refine K_iconst (pc := 1096) (i := 726) (lk_14 rfl rfl) ?_
            refine K_iadd (pc := 1097) (i := 727) (lk_14 rfl rfl) ?_
            refine K_sld (pc := 1098) (i := 728) (lk_14 rfl rfl) (by omega) (by omega) hL ?_
            refine K_nm (fun v1098 e1098 => ?_)
            have r1098 := kR_of (xs (x3 + 1).toNat)
            rw [← e1098] at r1098
            refine K_cVI (pc := 1099) (i := 729) (lk_14 rfl rfl) (c_Model_again G (x1 := v1098) (hI := hI) (s1 := by omega)) S_184 rfl (lv_law_144 rfl) rfl rfl rfl rfl rfl (fun v1099 h1099 q1099 => ?_)
            obtain ⟨fx1099, q1099⟩ := q1099
            obtain ⟨hI, r1099⟩ := q1099
            have y0 : v1098 = v1088 := by rw [e1098, e1088]
            rw [y0] at r1099
            obtain ⟨q0, rs⟩ : v1089 = v1099 ∧ Rs h1099 := by first | exact rl_again rl.2 hI0 hk0 r1089 fx1089 r1099 fx1099 | exact False.elim (by omega)
            have rl : Rl h1099 := ⟨by rw [fx1099.cell 2 (fun i => (by first | (dsimp only; omega) | omega | exact not_false)), fx1099.cell 190 (fun i => (by first | (dsimp only; omega) | omega | exact not_false)), fx1089.cell 2 (fun i => (by first | (dsimp only; omega) | omega | exact not_false)), fx1089.cell 190 (fun i => (by first | (dsimp only; omega) | omega | exact not_false))]; exact rl.1, rs⟩
            refine K_pop (pc := 1102) (i := 730) (lk_14 rfl rfl) rfl ?_
            refine K_goto 1129 (pc := 1103) (i := 731) (lk_14 rfl rfl) rfl ?_
            refine K_inc (pc := 1129) (i := 749) (q := 3) (lo' := [(0, _), (1, _), (2, _), (3, _)]) rfl rfl rfl rfl rfl ?_
            refine K_goto 18 (pc := 1132) (i := 750) (lk_15 rfl rfl) rfl ?_
            exact ih18 (x3 + 5) _ (by omega) ⟨by omega, _, _, hI, rl⟩
          · refine K_tableIn 1106 (by omega) (pc := 32) (i := 21) (lk_0 rfl rfl) (by omega) (by omega) (by rw [sx32]; rfl) rfl ?_
            refine K_aload_n (pc := 1106) (i := 732) (lk_14 rfl rfl) rfl ?_
            refine K_aload_n (pc := 1107) (i := 733) (lk_14 rfl rfl) rfl ?_
            refine K_iload_n (pc := 1108) (i := 734) (lk_14 rfl rfl) rfl ?_
            refine K_iconst (pc := 1109) (i := 735) (lk_14 rfl rfl) ?_
            refine K_iadd (pc := 1110) (i := 736) (lk_14 rfl rfl) ?_
            refine K_sld (pc := 1111) (i := 737) (lk_14 rfl rfl) (by omega) (by omega) hL ?_
            refine K_nm (fun v1111 e1111 => ?_)
            have r1111 := kR_of (xs (x3 + 1).toNat)
            rw [← e1111] at r1111
            refine K_cVI (pc := 1112) (i := 738) (lk_14 rfl rfl) (c_War_count G (x1 := v1111) (hI := hI) (s1 := by omega)) S_0 rfl (lv_law_145 rfl) rfl rfl rfl rfl rfl (fun v1112 h1112 q1112 => ?_)
            obtain ⟨fx1112, q1112⟩ := q1112
            obtain ⟨hI, r1112⟩ := q1112
            refine K_aload_n (pc := 1115) (i := 739) (lk_14 rfl rfl) rfl ?_
            refine K_aload_n (pc := 1116) (i := 740) (lk_14 rfl rfl) rfl ?_
            refine K_iload_n (pc := 1117) (i := 741) (lk_14 rfl rfl) rfl ?_
            refine K_iconst (pc := 1118) (i := 742) (lk_14 rfl rfl) ?_
            refine K_iadd (pc := 1119) (i := 743) (lk_14 rfl rfl) ?_
            refine K_sld (pc := 1120) (i := 744) (lk_14 rfl rfl) (by omega) (by omega) hL ?_
            refine K_nm (fun v1120 e1120 => ?_)
            have r1120 := kR_of (xs (x3 + 1).toNat)
            rw [← e1120] at r1120
            refine K_cVI (pc := 1121) (i := 745) (lk_14 rfl rfl) (c_Model_count G (x1 := v1120) (hI := hI) (s1 := by omega)) S_184 rfl (lv_law_148 rfl) rfl rfl rfl rfl rfl (fun v1121 h1121 q1121 => ?_)
            obtain ⟨fx1121, q1121⟩ := q1121
            obtain ⟨hI, r1121⟩ := q1121
            have y0 : v1120 = v1111 := by rw [e1120, e1111]
            rw [y0] at r1121
            have q0 : v1112 = v1121 := an_count tl0 rl.2 (fun c hc => fx1112.cell c (fun i => by first | (dsimp only; omega) | omega | exact not_false)) (rd_many hI0).1 r1112 r1121
            have rs : Rs h1121 := rl.2.fx hI0 (Fx.two fx1112 fx1121) (fun c i q => by rintro (e | e) <;> first | exact False.elim e | (dsimp only at e; omega) | omega) (fun c i q => by rintro (e | e) <;> first | exact False.elim e | (dsimp only at e; omega) | omega) (fun c i q => by rintro (e | e) <;> first | exact False.elim e | (dsimp only at e; omega) | omega) (fun c i q => by rintro (e | e) <;> first | exact False.elim e | (dsimp only at e; omega) | omega) (fun c i q => by rintro (e | e) <;> first | exact False.elim e | (dsimp only at e; omega) | omega) (fun c i q => by rintro (e | e) <;> first | exact False.elim e | (dsimp only at e; omega) | omega)
            have rl : Rl h1121 := ⟨by rw [fx1121.cell 2 (fun i => (by first | (dsimp only; omega) | omega | exact not_false)), fx1121.cell 190 (fun i => (by first | (dsimp only; omega) | omega | exact not_false)), fx1112.cell 2 (fun i => (by first | (dsimp only; omega) | omega | exact not_false)), fx1112.cell 190 (fun i => (by first | (dsimp only; omega) | omega | exact not_false))]; exact rl.1, rs⟩
            refine K_icmp_eq_self 1129 (pc := 1124) (i := 746) (lk_14 rfl rfl) rfl (show v1112 = v1121 from by omega) ?_
            refine K_inc (pc := 1129) (i := 749) (q := 3) (lo' := [(0, _), (1, _), (2, _), (3, _)]) rfl rfl rfl rfl rfl ?_
            refine K_goto 18 (pc := 1132) (i := 750) (lk_15 rfl rfl) rfl ?_
            exact ih18 (x3 + 5) _ (by omega) ⟨by omega, _, _, hI, rl⟩
        · refine K_tableOut 1129 (by omega) (pc := 32) (i := 21) (lk_0 rfl rfl) (by omega) rfl ?_
          refine K_inc (pc := 1129) (i := 749) (q := 3) (lo' := [(0, _), (1, _), (2, _), (3, _)]) rfl rfl rfl rfl rfl ?_
          refine K_goto 18 (pc := 1132) (i := 750) (lk_15 rfl rfl) rfl ?_
          exact ih18 (x3 + 5) _ (by omega) ⟨by omega, _, _, hI, rl⟩
  exact L18 _ 0 _ (Nat.lt_succ_self _) ⟨by omega, hI⟩
