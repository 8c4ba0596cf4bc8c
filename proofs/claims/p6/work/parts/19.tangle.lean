theorem kShl_le {k : Int} (h : 0 ≤ k ∧ k ≤ 8) : 1 ≤ kShl 1 k ∧ kShl 1 k ≤ 256 := by
  rcases (show k = 0 ∨ k = 1 ∨ k = 2 ∨ k = 3 ∨ k = 4 ∨ k = 5 ∨ k = 6 ∨ k = 7 ∨ k = 8 by omega) with rfl | rfl | rfl | rfl | rfl | rfl | rfl | rfl | rfl <;> decide
set_option maxHeartbeats 4000000 in
set_option maxRecDepth 100000 in
theorem c_Tangle_look (G : kG) {g : kGh} {h : kH} {f : Nat} (hf : f ∈ FL) (hI : Gd g h) : Ctr G y_Tangle_look X_Tangle_look 4 [.ref (G.2.2.2 182), .ref (G.2.2.2 f)] h (kQv (fun h' => Fx (fun c i => c = 183) h h' ∧ (Gd g h'))) := by
  refine Ctr.ofK (by decide) rfl T_Tangle_look (Nat.le_of_ble_eq_true rfl) (lo := [(0, .ref (G.2.2.2 182)), (1, .ref (G.2.2.2 f))]) rfl ?_
  have fx : Fx (fun c i => c = 183) h h := Fx.rf
  refine K_iconst (pc := 0) (i := 0) rfl ?_
  refine K_ist_n (pc := 1) (i := 1) (lo' := [(0, _), (1, _), (2, _)]) rfl rfl rfl rfl ?_
  have L2 : ∀ (n : Nat) (x2 : Int) (ha : kH), (8 - x2).toNat < n → (Gd g ha) → (Fx (fun c i => c = 183) h ha) → (0 ≤ x2 ∧ x2 ≤ 8) → K X_Tangle_look G (kZm G 4 (kQv (fun h' => Fx (fun c i => c = 183) h h' ∧ (Gd g h')))) 2 [(0, .ref (G.2.2.2 182)), (1, .ref (G.2.2.2 f)), (2, kI x2)] [] ha := by
    intro n
    induction n with
    | zero => intro x2 ha hm; exact absurd hm (Nat.not_lt_zero _)
    | succ n ih2 =>
      intro x2 ha hm2 hI fx hV2
      refine K_iload_n (pc := 2) (i := 2) rfl rfl ?_
      refine K_aload_n (pc := 3) (i := 3) rfl rfl ?_
      refine K_getI (pc := 4) (i := 4) (j := 6) rfl (S_Fl hf) rfl (by decide) rfl fw_Tangle_15 ?_
      refine K_nm (fun v4 e4 => ?_)
      have r4 := rd_kites hI hf
      rw [← e4] at r4
      first | refine K_icmp_ge 65 (pc := 7) (i := 5) rfl rfl (by omega) (by omega) (fun b7 => ?_) (fun b7 => ?_) | refine K_icmp_ge_an 65 (pc := 7) (i := 5) rfl rfl (fun b7 => ?_) (fun b7 => ?_)
      · skip
        exact K_retV (pc := 65) (i := 39) rfl rfl ⟨fx, hI⟩
      · skip
        refine K_aload_n (pc := 10) (i := 6) rfl rfl ?_
        refine K_getR (pc := 11) (i := 7) (j := 0) (d := 183) rfl S_182 rfl (by decide) rfl fw_Tangle_9 ?_
        refine K_iload_n (pc := 14) (i := 8) rfl rfl ?_
        refine K_iconst (pc := 15) (i := 9) rfl ?_
        refine K_iast (pc := 16) (i := 10) rfl S_183 (by omega) (by omega) (by decide) ?_
        have hI := st_free (c := 183) hI (by decide +kernel) (by decide) (i := (x2).toNat) (v := 0)
        have fx := Fx.st (c := 183) (i := (x2).toNat) (v := 0) fx (by first | (dsimp only; omega) | omega | exact not_false)
        refine K_iconst (pc := 17) (i := 11) rfl ?_
        refine K_ist_n (pc := 18) (i := 12) (lo' := [(0, _), (1, _), (2, _), (3, _)]) rfl rfl rfl rfl ?_
        have L19 : ∀ (n : Nat) (x3 : Int) (ha : kH), (8 - x3).toNat < n → (Gd g ha) → (Fx (fun c i => c = 183) h ha) → (0 ≤ x3 ∧ x3 ≤ 8) → K X_Tangle_look G (kZm G 4 (kQv (fun h' => Fx (fun c i => c = 183) h h' ∧ (Gd g h')))) 19 [(0, .ref (G.2.2.2 182)), (1, .ref (G.2.2.2 f)), (2, kI x2), (3, kI x3)] [] ha := by
          intro n
          induction n with
          | zero => intro x3 ha hm; exact absurd hm (Nat.not_lt_zero _)
          | succ n ih19 =>
            intro x3 ha hm19 hI fx hV19
            refine K_iload_n (pc := 19) (i := 13) rfl rfl ?_
            refine K_aload_n (pc := 20) (i := 14) rfl rfl ?_
            refine K_getI (pc := 21) (i := 15) (j := 6) rfl (S_Fl hf) rfl (by decide) rfl fw_Tangle_15 ?_
            refine K_nm (fun v21 e21 => ?_)
            have r21 := rd_kites hI hf
            rw [← e21] at r21
            first | refine K_icmp_ge 59 (pc := 24) (i := 16) rfl rfl (by omega) (by omega) (fun b24 => ?_) (fun b24 => ?_) | refine K_icmp_ge_an 59 (pc := 24) (i := 16) rfl rfl (fun b24 => ?_) (fun b24 => ?_)
            · skip
              refine K_inc (pc := 59) (i := 37) (q := 2) (lo' := [(0, _), (1, _), (2, _), (3, _)]) rfl rfl rfl rfl rfl ?_
              refine K_goto 2 (pc := 62) (i := 38) rfl rfl ?_
              refine K_drop (lo' := [(0, .ref (G.2.2.2 182)), (1, .ref (G.2.2.2 f)), (2, kI (x2 + 1))]) [0, 1, 2] rfl ?_
              exact ih2 (x2 + 1) _ (by omega) hI fx (by omega)
            · skip
              refine K_iload_n (pc := 27) (i := 17) rfl rfl ?_
              refine K_iload_n (pc := 28) (i := 18) rfl rfl ?_
              first | refine K_icmp_eq 53 (pc := 29) (i := 19) rfl rfl (by omega) (by omega) (fun b29 => ?_) (fun b29 => ?_) | refine K_icmp_eq_an 53 (pc := 29) (i := 19) rfl rfl (fun b29 => ?_) (fun b29 => ?_)
              · skip
                refine K_inc (pc := 53) (i := 35) (q := 3) (lo' := [(0, _), (1, _), (2, _), (3, _)]) rfl rfl rfl rfl rfl ?_
                refine K_goto 19 (pc := 56) (i := 36) rfl rfl ?_
                exact ih19 (x3 + 1) _ (by omega) hI fx (by omega)
              · skip
                refine K_aload_n (pc := 32) (i := 20) rfl rfl ?_
                refine K_iload_n (pc := 33) (i := 21) rfl rfl ?_
                refine K_iload_n (pc := 34) (i := 22) rfl rfl ?_
                refine K_cVI (pc := 35) (i := 23) rfl (c_Fleet_meet G (f := f) (hf := hf) (x1 := x2) (x2 := x3) (hI := hI) (s1 := by omega) (s2 := by omega)) (S_Fl hf) rfl (lv_Tangle_21 rfl) rfl rfl rfl rfl rfl (fun v35 h35 q35 => ?_)
                obtain ⟨eh, r35⟩ := q35
                rw [eh]; clear eh
                first | refine K_if_eq 53 (pc := 38) (i := 24) rfl rfl (by omega) (fun b38 => ?_) (fun b38 => ?_) | refine K_if_eq_an 53 (pc := 38) (i := 24) rfl rfl (fun b38 => ?_) (fun b38 => ?_)
                · skip
                  refine K_inc (pc := 53) (i := 35) (q := 3) (lo' := [(0, _), (1, _), (2, _), (3, _)]) rfl rfl rfl rfl rfl ?_
                  refine K_goto 19 (pc := 56) (i := 36) rfl rfl ?_
                  exact ih19 (x3 + 1) _ (by omega) hI fx (by omega)
                · skip
                  refine K_aload_n (pc := 41) (i := 25) rfl rfl ?_
                  refine K_getR (pc := 42) (i := 26) (j := 0) (d := 183) rfl S_182 rfl (by decide) rfl fw_Tangle_9 ?_
                  refine K_iload_n (pc := 45) (i := 27) rfl rfl ?_
                  refine K_dup2 (pc := 46) (i := 28) rfl rfl rfl ?_
                  refine K_iald (pc := 47) (i := 29) rfl S_183 (by omega) (by omega) (by decide) ?_
                  refine K_any (fun v47 r47 => ?_)
                  refine K_iconst (pc := 48) (i := 30) rfl ?_
                  refine K_iload_n (pc := 49) (i := 31) rfl rfl ?_
                  refine K_ishl (pc := 50) (i := 32) rfl ?_
                  refine K_any (fun v50 r50 => ?_)
                  refine K_ior (pc := 51) (i := 33) rfl ?_
                  refine K_any (fun v51 r51 => ?_)
                  refine K_iast (pc := 52) (i := 34) rfl S_183 (by omega) (by omega) (by decide) ?_
                  have hI := st_free (c := 183) hI (by decide +kernel) (by decide) (i := (x2).toNat) (v := v51)
                  have fx := Fx.st (c := 183) (i := (x2).toNat) (v := v51) fx (by first | (dsimp only; omega) | omega | exact not_false)
                  refine K_inc (pc := 53) (i := 35) (q := 3) (lo' := [(0, _), (1, _), (2, _), (3, _)]) rfl rfl rfl rfl rfl ?_
                  refine K_goto 19 (pc := 56) (i := 36) rfl rfl ?_
                  exact ih19 (x3 + 1) _ (by omega) hI fx (by omega)
        exact L19 _ 0 _ (Nat.lt_succ_self _) hI fx (by omega)
  exact L2 _ 0 _ (Nat.lt_succ_self _) hI fx (by omega)
set_option maxHeartbeats 4000000 in
set_option maxRecDepth 100000 in
theorem c_Tangle_pairs (G : kG) {g : kGh} {h : kH} {f : Nat} (hf : f ∈ FL) (hI : Gd g h) : Ctr G y_Tangle_pairs X_Tangle_pairs 5 [.ref (G.2.2.2 182), .ref (G.2.2.2 f)] h (kQi (fun z h' => Fx (fun c i => c = 183) h h' ∧ (Gd g h' ∧ kR z))) := by
  refine Ctr.ofK (by decide) rfl T_Tangle_pairs (Nat.le_of_ble_eq_true rfl) (lo := [(0, .ref (G.2.2.2 182)), (1, .ref (G.2.2.2 f))]) rfl ?_
  have fx : Fx (fun c i => c = 183) h h := Fx.rf
  refine K_aload_n (pc := 0) (i := 0) rfl rfl ?_
  refine K_aload_n (pc := 1) (i := 1) rfl rfl ?_
  refine K_cVV (pc := 2) (i := 2) rfl (c_Tangle_look G (f := f) (hf := hf) (hI := hI)) S_182 rfl (lv_Tangle_25 rfl) rfl rfl rfl rfl rfl (fun h2 q2 => ?_)
  obtain ⟨fx2, q2⟩ := q2
  have hI := q2
  have fx := fx.tr fx2 (fun c i q => (by first | (dsimp only at q ⊢; omega) | omega))
  refine K_iconst (pc := 5) (i := 3) rfl ?_
  refine K_ist_n (pc := 6) (i := 4) (lo' := [(0, _), (1, _), (2, _)]) rfl rfl rfl rfl ?_
  refine K_iconst (pc := 7) (i := 5) rfl ?_
  refine K_ist_n (pc := 8) (i := 6) (lo' := [(0, _), (1, _), (2, _), (3, _)]) rfl rfl rfl rfl ?_
  have L9 : ∀ (n : Nat) (x2 : Int) (x3 : Int), (8 - x3).toNat < n → (0 ≤ x3 ∧ x3 ≤ 8) → K X_Tangle_pairs G (kZm G 5 (kQi (fun z h' => Fx (fun c i => c = 183) h h' ∧ (Gd g h' ∧ kR z)))) 9 [(0, .ref (G.2.2.2 182)), (1, .ref (G.2.2.2 f)), (2, kI x2), (3, kI x3)] [] h2 := by
    intro n
    induction n with
    | zero => intro x2 x3 hm; exact absurd hm (Nat.not_lt_zero _)
    | succ n ih9 =>
      intro x2 x3 hm9 hV9
      refine K_iload_n (pc := 9) (i := 7) rfl rfl ?_
      refine K_aload_n (pc := 10) (i := 8) rfl rfl ?_
      refine K_getI (pc := 11) (i := 9) (j := 6) rfl (S_Fl hf) rfl (by decide) rfl fw_Tangle_15 ?_
      refine K_nm (fun v11 e11 => ?_)
      have r11 := rd_kites hI hf
      rw [← e11] at r11
      first | refine K_icmp_ge 35 (pc := 14) (i := 10) rfl rfl (by omega) (by omega) (fun b14 => ?_) (fun b14 => ?_) | refine K_icmp_ge_an 35 (pc := 14) (i := 10) rfl rfl (fun b14 => ?_) (fun b14 => ?_)
      · skip
        refine K_iload_n (pc := 35) (i := 21) rfl rfl ?_
        refine K_iconst (pc := 36) (i := 22) rfl ?_
        refine K_idiv (pc := 37) (i := 23) rfl (by omega) (by omega) ?_
        refine K_any (fun v37 r37 => ?_)
        exact K_retI (pc := 38) (i := 24) rfl rfl ⟨fx, ⟨hI, by omega⟩⟩
      · skip
        refine K_iload_n (pc := 17) (i := 11) rfl rfl ?_
        refine K_aload_n (pc := 18) (i := 12) rfl rfl ?_
        refine K_getR (pc := 19) (i := 13) (j := 0) (d := 183) rfl S_182 rfl (by decide) rfl fw_Tangle_9 ?_
        refine K_iload_n (pc := 22) (i := 14) rfl rfl ?_
        refine K_iald (pc := 23) (i := 15) rfl S_183 (by omega) (by omega) (by decide) ?_
        refine K_any (fun v23 r23 => ?_)
        refine K_cSI (pc := 24) (i := 16) rfl (c_Integer_bitCount G (x0 := v23)) (ls_Tangle_29 rfl) rfl rfl rfl rfl (fun v24 h24 q24 => ?_)
        obtain ⟨eh, r24⟩ := q24
        rw [eh]; clear eh
        refine K_iadd (pc := 27) (i := 17) rfl ?_
        refine K_ist_n (pc := 28) (i := 18) (lo' := [(0, _), (1, _), (2, _), (3, _)]) rfl rfl rfl rfl ?_
        refine K_inc (pc := 29) (i := 19) (q := 3) (lo' := [(0, _), (1, _), (2, _), (3, _)]) rfl rfl rfl rfl rfl ?_
        refine K_goto 9 (pc := 32) (i := 20) rfl rfl ?_
        exact ih9 (x2 + v24) (x3 + 1) (by omega) (by omega)
  exact L9 _ 0 0 (Nat.lt_succ_self _) (by omega)
set_option maxHeartbeats 4000000 in
set_option maxRecDepth 100000 in
theorem c_Tangle_isLoose (G : kG) {g : kGh} {h : kH} {x1 : Int} {x2 : Int} (s2 : 0 ≤ x2 ∧ x2 ≤ 8) (hI : Gd g h) : Ctr G y_Tangle_isLoose X_Tangle_isLoose 1 [.ref (G.2.2.2 182), kI x1, kI x2] h (kQi (fun z h' => h' = h ∧ (z = 0 ∨ z = 1))) := by
  refine Ctr.ofK (by decide) rfl T_Tangle_isLoose (Nat.le_of_ble_eq_true rfl) (lo := [(0, .ref (G.2.2.2 182)), (1, kI x1), (2, kI x2)]) rfl ?_
  refine K_iconst (pc := 0) (i := 0) rfl ?_
  refine K_ist_n (pc := 1) (i := 1) (lo' := [(0, _), (1, _), (2, _), (3, _)]) rfl rfl rfl rfl ?_
  have L2 : ∀ (n : Nat) (x3 : Int), (8 - x3).toNat < n → (0 ≤ x3 ∧ x3 ≤ 8) → K X_Tangle_isLoose G (kZm G 1 (kQi (fun z h' => h' = h ∧ (z = 0 ∨ z = 1)))) 2 [(0, .ref (G.2.2.2 182)), (1, kI x1), (2, kI x2), (3, kI x3)] [] h := by
    intro n
    induction n with
    | zero => intro x3 hm; exact absurd hm (Nat.not_lt_zero _)
    | succ n ih2 =>
      intro x3 hm2 hV2
      refine K_iload_n (pc := 2) (i := 2) rfl rfl ?_
      refine K_iload_n (pc := 3) (i := 3) rfl rfl ?_
      first | refine K_icmp_ge 34 (pc := 4) (i := 4) rfl rfl (by omega) (by omega) (fun b4 => ?_) (fun b4 => ?_) | refine K_icmp_ge_an 34 (pc := 4) (i := 4) rfl rfl (fun b4 => ?_) (fun b4 => ?_)
      · skip
        refine K_iconst (pc := 34) (i := 22) rfl ?_
        exact K_retZ (pc := 35) (i := 23) rfl rfl (by omega) ⟨rfl, by omega⟩
      · skip
        refine K_iload_n (pc := 7) (i := 5) rfl rfl ?_
        refine K_iload_n (pc := 8) (i := 6) rfl rfl ?_
        refine K_ishr (pc := 9) (i := 7) rfl ?_
        refine K_any (fun v9 r9 => ?_)
        refine K_iconst (pc := 10) (i := 8) rfl ?_
        refine K_iand (pc := 11) (i := 9) rfl ?_
        refine K_nm (fun v11 e11 => ?_)
        have r11 := kAnd_1 v9
        rw [← e11] at r11
        first | refine K_if_eq 28 (pc := 12) (i := 10) rfl rfl (by omega) (fun b12 => ?_) (fun b12 => ?_) | refine K_if_eq_an 28 (pc := 12) (i := 10) rfl rfl (fun b12 => ?_) (fun b12 => ?_)
        · skip
          refine K_inc (pc := 28) (i := 20) (q := 3) (lo' := [(0, _), (1, _), (2, _), (3, _)]) rfl rfl rfl rfl rfl ?_
          refine K_goto 2 (pc := 31) (i := 21) rfl rfl ?_
          exact ih2 (x3 + 1) (by omega) (by omega)
        · skip
          refine K_aload_n (pc := 15) (i := 11) rfl rfl ?_
          refine K_getR (pc := 16) (i := 12) (j := 0) (d := 183) rfl S_182 rfl (by decide) rfl fw_Tangle_9 ?_
          refine K_iload_n (pc := 19) (i := 13) rfl rfl ?_
          refine K_iald (pc := 20) (i := 14) rfl S_183 (by omega) (by omega) (by decide) ?_
          refine K_any (fun v20 r20 => ?_)
          refine K_iload_n (pc := 21) (i := 15) rfl rfl ?_
          refine K_iand (pc := 22) (i := 16) rfl ?_
          refine K_any (fun v22 r22 => ?_)
          first | refine K_if_eq 28 (pc := 23) (i := 17) rfl rfl (by omega) (fun b23 => ?_) (fun b23 => ?_) | refine K_if_eq_an 28 (pc := 23) (i := 17) rfl rfl (fun b23 => ?_) (fun b23 => ?_)
          · skip
            refine K_inc (pc := 28) (i := 20) (q := 3) (lo' := [(0, _), (1, _), (2, _), (3, _)]) rfl rfl rfl rfl rfl ?_
            refine K_goto 2 (pc := 31) (i := 21) rfl rfl ?_
            exact ih2 (x3 + 1) (by omega) (by omega)
          · skip
            refine K_iconst (pc := 26) (i := 18) rfl ?_
            exact K_retZ (pc := 27) (i := 19) rfl rfl (by omega) ⟨rfl, by omega⟩
  exact L2 _ 0 (Nat.lt_succ_self _) (by omega)
set_option maxHeartbeats 4000000 in
set_option maxRecDepth 100000 in
theorem c_Tangle_fewest (G : kG) {g : kGh} {h : kH} {f : Nat} (hf : f ∈ FL) (hI : Gd g h) : Ctr G y_Tangle_fewest X_Tangle_fewest 5 [.ref (G.2.2.2 182), .ref (G.2.2.2 f)] h (kQi (fun z h' => Fx (fun c i => c = 183) h h' ∧ (Gd g h' ∧ kR z))) := by
  refine Ctr.ofK (by decide) rfl T_Tangle_fewest (Nat.le_of_ble_eq_true rfl) (lo := [(0, .ref (G.2.2.2 182)), (1, .ref (G.2.2.2 f))]) rfl ?_
  have fx : Fx (fun c i => c = 183) h h := Fx.rf
  refine K_aload_n (pc := 0) (i := 0) rfl rfl ?_
  refine K_aload_n (pc := 1) (i := 1) rfl rfl ?_
  refine K_cVV (pc := 2) (i := 2) rfl (c_Tangle_look G (f := f) (hf := hf) (hI := hI)) S_182 rfl (lv_Tangle_25 rfl) rfl rfl rfl rfl rfl (fun h2 q2 => ?_)
  obtain ⟨fx2, q2⟩ := q2
  have hI := q2
  have fx := fx.tr fx2 (fun c i q => (by first | (dsimp only at q ⊢; omega) | omega))
  refine K_iconst (pc := 5) (i := 3) rfl ?_
  refine K_aload_n (pc := 6) (i := 4) rfl rfl ?_
  refine K_getI (pc := 7) (i := 5) (j := 6) rfl (S_Fl hf) rfl (by decide) rfl fw_Tangle_15 ?_
  refine K_nm (fun v7 e7 => ?_)
  have r7 := rd_kites hI hf
  rw [← e7] at r7
  refine K_ishl (pc := 10) (i := 6) rfl ?_
  refine K_nm (fun v10 e10 => ?_)
  have r10 := kShl_R 1 v7
  rw [← e10] at r10
  have t10 : 1 ≤ v10 ∧ v10 ≤ 256 := by rw [e10]; exact kShl_le r7
  refine K_iconst (pc := 11) (i := 7) rfl ?_
  refine K_isub (pc := 12) (i := 8) rfl ?_
  refine K_ist_n (pc := 13) (i := 9) (lo' := [(0, _), (1, _), (2, _)]) rfl rfl rfl rfl ?_
  refine K_iload_n (pc := 14) (i := 10) rfl rfl ?_
  refine K_ist_n (pc := 15) (i := 11) (lo' := [(0, _), (1, _), (2, _), (3, _)]) rfl rfl rfl rfl ?_
  refine K_iconst (pc := 16) (i := 12) rfl ?_
  refine K_ist (pc := 17) (i := 13) (lo' := [(0, _), (1, _), (2, _), (3, _), (4, _)]) rfl rfl rfl rfl ?_
  have L19 : ∀ (n : Nat) (x3 : Int) (x4 : Int), (257 - x4).toNat < n → ((0 ≤ x4 ∧ x4 ≤ 256) ∧ kR x3) → K X_Tangle_fewest G (kZm G 5 (kQi (fun z h' => Fx (fun c i => c = 183) h h' ∧ (Gd g h' ∧ kR z)))) 19 [(0, .ref (G.2.2.2 182)), (1, .ref (G.2.2.2 f)), (2, kI (v10 - 1)), (3, kI x3), (4, kI x4)] [] h2 := by
    intro n
    induction n with
    | zero => intro x3 x4 hm; exact absurd hm (Nat.not_lt_zero _)
    | succ n ih19 =>
      intro x3 x4 hm19 hV19
      refine K_iload (pc := 19) (i := 14) rfl rfl ?_
      refine K_iload_n (pc := 21) (i := 15) rfl rfl ?_
      first | refine K_icmp_gt 63 (pc := 22) (i := 16) rfl rfl (by omega) (by omega) (fun b22 => ?_) (fun b22 => ?_) | refine K_icmp_gt_an 63 (pc := 22) (i := 16) rfl rfl (fun b22 => ?_) (fun b22 => ?_)
      · skip
        refine K_iload_n (pc := 63) (i := 36) rfl rfl ?_
        exact K_retI (pc := 64) (i := 37) rfl rfl ⟨fx, ⟨hI, by omega⟩⟩
      · skip
        refine K_iload (pc := 25) (i := 17) rfl rfl ?_
        refine K_cSI (pc := 27) (i := 18) rfl (c_Integer_bitCount G (x0 := x4)) (ls_Tangle_29 rfl) rfl rfl rfl rfl (fun v27 h27 q27 => ?_)
        obtain ⟨eh, r27⟩ := q27
        rw [eh]; clear eh
        refine K_iload_n (pc := 30) (i := 19) rfl rfl ?_
        refine K_cSI (pc := 31) (i := 20) rfl (c_Integer_bitCount G (x0 := x3)) (ls_Tangle_29 rfl) rfl rfl rfl rfl (fun v31 h31 q31 => ?_)
        obtain ⟨eh, r31⟩ := q31
        rw [eh]; clear eh
        first | refine K_icmp_ge 57 (pc := 34) (i := 21) rfl rfl (by omega) (by omega) (fun b34 => ?_) (fun b34 => ?_) | refine K_icmp_ge_an 57 (pc := 34) (i := 21) rfl rfl (fun b34 => ?_) (fun b34 => ?_)
        · skip
          refine K_inc (pc := 57) (i := 34) (q := 4) (lo' := [(0, _), (1, _), (2, _), (3, _), (4, _)]) rfl rfl rfl rfl rfl ?_
          refine K_goto 19 (pc := 60) (i := 35) rfl rfl ?_
          exact ih19 x3 (x4 + 1) (by omega) (by omega)
        · skip
          refine K_aload_n (pc := 37) (i := 22) rfl rfl ?_
          refine K_iload_n (pc := 38) (i := 23) rfl rfl ?_
          refine K_iload (pc := 39) (i := 24) rfl rfl ?_
          refine K_iconst (pc := 41) (i := 25) rfl ?_
          refine K_ixor (pc := 42) (i := 26) rfl ?_
          refine K_any (fun v42 r42 => ?_)
          refine K_iand (pc := 43) (i := 27) rfl ?_
          refine K_any (fun v43 r43 => ?_)
          refine K_aload_n (pc := 44) (i := 28) rfl rfl ?_
          refine K_getI (pc := 45) (i := 29) (j := 6) rfl (S_Fl hf) rfl (by decide) rfl fw_Tangle_15 ?_
          refine K_nm (fun v45 e45 => ?_)
          have r45 := rd_kites hI hf
          rw [← e45] at r45
          refine K_cVI (pc := 48) (i := 30) rfl (c_Tangle_isLoose G (x1 := v43) (x2 := v45) (hI := hI) (s2 := by omega)) S_182 rfl (lv_Tangle_35 rfl) rfl rfl rfl rfl rfl (fun v48 h48 q48 => ?_)
          obtain ⟨eh, r48⟩ := q48
          rw [eh]; clear eh
          first | refine K_if_eq 57 (pc := 51) (i := 31) rfl rfl (by omega) (fun b51 => ?_) (fun b51 => ?_) | refine K_if_eq_an 57 (pc := 51) (i := 31) rfl rfl (fun b51 => ?_) (fun b51 => ?_)
          · skip
            refine K_inc (pc := 57) (i := 34) (q := 4) (lo' := [(0, _), (1, _), (2, _), (3, _), (4, _)]) rfl rfl rfl rfl rfl ?_
            refine K_goto 19 (pc := 60) (i := 35) rfl rfl ?_
            exact ih19 x3 (x4 + 1) (by omega) (by omega)
          · skip
            refine K_iload (pc := 54) (i := 32) rfl rfl ?_
            refine K_ist_n (pc := 56) (i := 33) (lo' := [(0, _), (1, _), (2, _), (3, _), (4, _)]) rfl rfl rfl rfl ?_
            refine K_inc (pc := 57) (i := 34) (q := 4) (lo' := [(0, _), (1, _), (2, _), (3, _), (4, _)]) rfl rfl rfl rfl rfl ?_
            refine K_goto 19 (pc := 60) (i := 35) rfl rfl ?_
            exact ih19 x4 (x4 + 1) (by omega) (by omega)
  exact L19 _ (v10 - 1) 0 (Nat.lt_succ_self _) (by omega)
set_option maxHeartbeats 4000000 in
set_option maxRecDepth 100000 in
theorem c_Tangle_isAhead (G : kG) {g : kGh} {h : kH} {f : Nat} (hf : f ∈ FL) {x1 : Int} {x2 : Int} {x3 : Int} (s1 : 0 ≤ x1 ∧ x1 ≤ 7) (s2 : 0 ≤ x2 ∧ x2 ≤ 7) (s3 : 0 ≤ x3 ∧ x3 ≤ 7) (hI : Gd g h) : Ctr G y_Tangle_isAhead X_Tangle_isAhead 3 [.ref (G.2.2.2 f), kI x1, kI x2, kI x3] h (kQi (fun z h' => h' = h ∧ (z = 0 ∨ z = 1))) := by
  refine Ctr.ofK (by decide) rfl T_Tangle_isAhead (Nat.le_of_ble_eq_true rfl) (lo := [(0, .ref (G.2.2.2 f)), (1, kI x1), (2, kI x2), (3, kI x3)]) rfl ?_
  refine K_aload_n (pc := 0) (i := 0) rfl rfl ?_
  refine K_iload_n (pc := 1) (i := 1) rfl rfl ?_
  refine K_iload_n (pc := 2) (i := 2) rfl rfl ?_
  refine K_cVI (pc := 3) (i := 3) rfl (c_Fleet_meetingHeight G (f := f) (hf := hf) (x1 := x1) (x2 := x2) (hI := hI) (s1 := by omega) (s2 := by omega)) (S_Fl hf) rfl (lv_Tangle_46 rfl) rfl rfl rfl rfl rfl (fun v3 h3 q3 => ?_)
  obtain ⟨eh, r3⟩ := q3
  rw [eh]; clear eh
  refine K_aload_n (pc := 6) (i := 4) rfl rfl ?_
  refine K_iload_n (pc := 7) (i := 5) rfl rfl ?_
  refine K_iload_n (pc := 8) (i := 6) rfl rfl ?_
  refine K_cVI (pc := 9) (i := 7) rfl (c_Fleet_meetingBelow G (f := f) (hf := hf) (x1 := x1) (x2 := x3) (hI := hI) (s1 := by omega) (s2 := by omega)) (S_Fl hf) rfl (lv_Tangle_50 rfl) rfl rfl rfl rfl rfl (fun v9 h9 q9 => ?_)
  obtain ⟨eh, r9⟩ := q9
  rw [eh]; clear eh
  refine K_imul (pc := 12) (i := 8) rfl ?_
  refine K_any (fun v12 r12 => ?_)
  refine K_ist (pc := 13) (i := 9) (lo' := [(0, _), (1, _), (2, _), (3, _), (4, _)]) rfl rfl rfl rfl ?_
  refine K_aload_n (pc := 15) (i := 10) rfl rfl ?_
  refine K_iload_n (pc := 16) (i := 11) rfl rfl ?_
  refine K_iload_n (pc := 17) (i := 12) rfl rfl ?_
  refine K_cVI (pc := 18) (i := 13) rfl (c_Fleet_meetingHeight G (f := f) (hf := hf) (x1 := x1) (x2 := x3) (hI := hI) (s1 := by omega) (s2 := by omega)) (S_Fl hf) rfl (lv_Tangle_46 rfl) rfl rfl rfl rfl rfl (fun v18 h18 q18 => ?_)
  obtain ⟨eh, r18⟩ := q18
  rw [eh]; clear eh
  refine K_aload_n (pc := 21) (i := 14) rfl rfl ?_
  refine K_iload_n (pc := 22) (i := 15) rfl rfl ?_
  refine K_iload_n (pc := 23) (i := 16) rfl rfl ?_
  refine K_cVI (pc := 24) (i := 17) rfl (c_Fleet_meetingBelow G (f := f) (hf := hf) (x1 := x1) (x2 := x2) (hI := hI) (s1 := by omega) (s2 := by omega)) (S_Fl hf) rfl (lv_Tangle_50 rfl) rfl rfl rfl rfl rfl (fun v24 h24 q24 => ?_)
  obtain ⟨eh, r24⟩ := q24
  rw [eh]; clear eh
  refine K_imul (pc := 27) (i := 18) rfl ?_
  refine K_any (fun v27 r27 => ?_)
  refine K_ist (pc := 28) (i := 19) (lo' := [(0, _), (1, _), (2, _), (3, _), (4, _), (5, _)]) rfl rfl rfl rfl ?_
  refine K_iload (pc := 30) (i := 20) rfl rfl ?_
  refine K_iload (pc := 32) (i := 21) rfl rfl ?_
  first | refine K_icmp_lt 49 (pc := 34) (i := 22) rfl rfl (by omega) (by omega) (fun b34 => ?_) (fun b34 => ?_) | refine K_icmp_lt_an 49 (pc := 34) (i := 22) rfl rfl (fun b34 => ?_) (fun b34 => ?_)
  · skip
    refine K_iconst (pc := 49) (i := 29) rfl ?_
    refine K_goto 54 (pc := 50) (i := 30) rfl rfl ?_
    exact K_retZ (pc := 54) (i := 32) rfl rfl (by omega) ⟨rfl, by omega⟩
  · skip
    refine K_iload (pc := 37) (i := 23) rfl rfl ?_
    refine K_iload (pc := 39) (i := 24) rfl rfl ?_
    first | refine K_icmp_ne 53 (pc := 41) (i := 25) rfl rfl (by omega) (by omega) (fun b41 => ?_) (fun b41 => ?_) | refine K_icmp_ne_an 53 (pc := 41) (i := 25) rfl rfl (fun b41 => ?_) (fun b41 => ?_)
    · skip
      refine K_iconst (pc := 53) (i := 31) rfl ?_
      exact K_retZ (pc := 54) (i := 32) rfl rfl (by omega) ⟨rfl, by omega⟩
    · skip
      refine K_iload_n (pc := 44) (i := 26) rfl rfl ?_
      refine K_iload_n (pc := 45) (i := 27) rfl rfl ?_
      first | refine K_icmp_ge 53 (pc := 46) (i := 28) rfl rfl (by omega) (by omega) (fun b46 => ?_) (fun b46 => ?_) | refine K_icmp_ge_an 53 (pc := 46) (i := 28) rfl rfl (fun b46 => ?_) (fun b46 => ?_)
      · skip
        refine K_iconst (pc := 53) (i := 31) rfl ?_
        exact K_retZ (pc := 54) (i := 32) rfl rfl (by omega) ⟨rfl, by omega⟩
      · skip
        refine K_iconst (pc := 49) (i := 29) rfl ?_
        refine K_goto 54 (pc := 50) (i := 30) rfl rfl ?_
        exact K_retZ (pc := 54) (i := 32) rfl rfl (by omega) ⟨rfl, by omega⟩
set_option maxHeartbeats 4000000 in
set_option maxRecDepth 100000 in
theorem c_Tangle_countAhead (G : kG) {g : kGh} {h : kH} {f : Nat} (hf : f ∈ FL) {x2 : Int} {x3 : Int} (s2 : 0 ≤ x2 ∧ x2 ≤ 7) (s3 : 0 ≤ x3 ∧ x3 ≤ 7) (hI : Gd g h) : Ctr G y_Tangle_countAhead X_Tangle_countAhead 4 [.ref (G.2.2.2 182), .ref (G.2.2.2 f), kI x2, kI x3] h (kQi (fun z h' => h' = h ∧ 0 ≤ z ∧ z ≤ 8)) := by
  refine Ctr.ofK (by decide) rfl T_Tangle_countAhead (Nat.le_of_ble_eq_true rfl) (lo := [(0, .ref (G.2.2.2 182)), (1, .ref (G.2.2.2 f)), (2, kI x2), (3, kI x3)]) rfl ?_
  refine K_iconst (pc := 0) (i := 0) rfl ?_
  refine K_ist (pc := 1) (i := 1) (lo' := [(0, _), (1, _), (2, _), (3, _), (4, _)]) rfl rfl rfl rfl ?_
  refine K_iconst (pc := 3) (i := 2) rfl ?_
  refine K_ist (pc := 4) (i := 3) (lo' := [(0, _), (1, _), (2, _), (3, _), (4, _), (5, _)]) rfl rfl rfl rfl ?_
  have L6 : ∀ (n : Nat) (x4 : Int) (x5 : Int), (8 - x5).toNat < n → (0 ≤ x4 ∧ x4 ≤ x5 ∧ x5 ≤ 8) → K X_Tangle_countAhead G (kZm G 4 (kQi (fun z h' => h' = h ∧ 0 ≤ z ∧ z ≤ 8))) 6 [(0, .ref (G.2.2.2 182)), (1, .ref (G.2.2.2 f)), (2, kI x2), (3, kI x3), (4, kI x4), (5, kI x5)] [] h := by
    intro n
    induction n with
    | zero => intro x4 x5 hm; exact absurd hm (Nat.not_lt_zero _)
    | succ n ih6 =>
      intro x4 x5 hm6 hV6
      refine K_iload (pc := 6) (i := 4) rfl rfl ?_
      refine K_aload_n (pc := 8) (i := 5) rfl rfl ?_
      refine K_getI (pc := 9) (i := 6) (j := 6) rfl (S_Fl hf) rfl (by decide) rfl fw_Tangle_15 ?_
      refine K_nm (fun v9 e9 => ?_)
      have r9 := rd_kites hI hf
      rw [← e9] at r9
      first | refine K_icmp_ge 49 (pc := 12) (i := 7) rfl rfl (by omega) (by omega) (fun b12 => ?_) (fun b12 => ?_) | refine K_icmp_ge_an 49 (pc := 12) (i := 7) rfl rfl (fun b12 => ?_) (fun b12 => ?_)
      · skip
        refine K_iload (pc := 49) (i := 26) rfl rfl ?_
        exact K_retI (pc := 51) (i := 27) rfl rfl ⟨rfl, by omega⟩
      · skip
        refine K_aload_n (pc := 15) (i := 8) rfl rfl ?_
        refine K_getR (pc := 16) (i := 9) (j := 0) (d := 183) rfl S_182 rfl (by decide) rfl fw_Tangle_9 ?_
        refine K_iload_n (pc := 19) (i := 10) rfl rfl ?_
        refine K_iald (pc := 20) (i := 11) rfl S_183 (by omega) (by omega) (by decide) ?_
        refine K_any (fun v20 r20 => ?_)
        refine K_iload (pc := 21) (i := 12) rfl rfl ?_
        refine K_ishr (pc := 23) (i := 13) rfl ?_
        refine K_any (fun v23 r23 => ?_)
        refine K_iconst (pc := 24) (i := 14) rfl ?_
        refine K_iand (pc := 25) (i := 15) rfl ?_
        refine K_nm (fun v25 e25 => ?_)
        have r25 := kAnd_1 v23
        rw [← e25] at r25
        first | refine K_if_eq 43 (pc := 26) (i := 16) rfl rfl (by omega) (fun b26 => ?_) (fun b26 => ?_) | refine K_if_eq_an 43 (pc := 26) (i := 16) rfl rfl (fun b26 => ?_) (fun b26 => ?_)
        · skip
          refine K_inc (pc := 43) (i := 24) (q := 5) (lo' := [(0, _), (1, _), (2, _), (3, _), (4, _), (5, _)]) rfl rfl rfl rfl rfl ?_
          refine K_goto 6 (pc := 46) (i := 25) rfl rfl ?_
          exact ih6 x4 (x5 + 1) (by omega) (by omega)
        · skip
          refine K_aload_n (pc := 29) (i := 17) rfl rfl ?_
          refine K_iload_n (pc := 30) (i := 18) rfl rfl ?_
          refine K_iload (pc := 31) (i := 19) rfl rfl ?_
          refine K_iload_n (pc := 33) (i := 20) rfl rfl ?_
          refine K_cSI (pc := 34) (i := 21) rfl (c_Tangle_isAhead G (f := f) (hf := hf) (x1 := x2) (x2 := x5) (x3 := x3) (hI := hI) (s1 := by omega) (s2 := by omega) (s3 := by omega)) (ls_Tangle_42 rfl) rfl rfl rfl rfl (fun v34 h34 q34 => ?_)
          obtain ⟨eh, r34⟩ := q34
          rw [eh]; clear eh
          first | refine K_if_eq 43 (pc := 37) (i := 22) rfl rfl (by omega) (fun b37 => ?_) (fun b37 => ?_) | refine K_if_eq_an 43 (pc := 37) (i := 22) rfl rfl (fun b37 => ?_) (fun b37 => ?_)
          · skip
            refine K_inc (pc := 43) (i := 24) (q := 5) (lo' := [(0, _), (1, _), (2, _), (3, _), (4, _), (5, _)]) rfl rfl rfl rfl rfl ?_
            refine K_goto 6 (pc := 46) (i := 25) rfl rfl ?_
            exact ih6 x4 (x5 + 1) (by omega) (by omega)
          · skip
            refine K_inc (pc := 40) (i := 23) (q := 4) (lo' := [(0, _), (1, _), (2, _), (3, _), (4, _), (5, _)]) rfl rfl rfl rfl rfl ?_
            refine K_inc (pc := 43) (i := 24) (q := 5) (lo' := [(0, _), (1, _), (2, _), (3, _), (4, _), (5, _)]) rfl rfl rfl rfl rfl ?_
            refine K_goto 6 (pc := 46) (i := 25) rfl rfl ?_
            exact ih6 (x4 + 1) (x5 + 1) (by omega) (by omega)
  exact L6 _ 0 0 (Nat.lt_succ_self _) (by omega)
set_option maxHeartbeats 4000000 in
set_option maxRecDepth 100000 in
theorem c_Tangle_nthAlong (G : kG) {g : kGh} {h : kH} {f : Nat} (hf : f ∈ FL) {x2 : Int} {x3 : Int} (s2 : 0 ≤ x2 ∧ x2 ≤ 7) (hI : Gd g h) : Ctr G y_Tangle_nthAlong X_Tangle_nthAlong 5 [.ref (G.2.2.2 182), .ref (G.2.2.2 f), kI x2, kI x3] h (kQi (fun z h' => Fx (fun c i => c = 183) h h' ∧ (Gd g h' ∧ kR z))) := by
  refine Ctr.ofK (by decide) rfl T_Tangle_nthAlong (Nat.le_of_ble_eq_true rfl) (lo := [(0, .ref (G.2.2.2 182)), (1, .ref (G.2.2.2 f)), (2, kI x2), (3, kI x3)]) rfl ?_
  have fx : Fx (fun c i => c = 183) h h := Fx.rf
  refine K_aload_n (pc := 0) (i := 0) rfl rfl ?_
  refine K_aload_n (pc := 1) (i := 1) rfl rfl ?_
  refine K_cVV (pc := 2) (i := 2) rfl (c_Tangle_look G (f := f) (hf := hf) (hI := hI)) S_182 rfl (lv_Tangle_25 rfl) rfl rfl rfl rfl rfl (fun h2 q2 => ?_)
  obtain ⟨fx2, q2⟩ := q2
  have hI := q2
  have fx := fx.tr fx2 (fun c i q => (by first | (dsimp only at q ⊢; omega) | omega))
  refine K_iconst (pc := 5) (i := 3) rfl ?_
  refine K_ist (pc := 6) (i := 4) (lo' := [(0, _), (1, _), (2, _), (3, _), (4, _)]) rfl rfl rfl rfl ?_
  have L8 : ∀ (n : Nat) (x4 : Int), (8 - x4).toNat < n → (0 ≤ x4 ∧ x4 ≤ 8) → K X_Tangle_nthAlong G (kZm G 5 (kQi (fun z h' => Fx (fun c i => c = 183) h h' ∧ (Gd g h' ∧ kR z)))) 8 [(0, .ref (G.2.2.2 182)), (1, .ref (G.2.2.2 f)), (2, kI x2), (3, kI x3), (4, kI x4)] [] h2 := by
    intro n
    induction n with
    | zero => intro x4 hm; exact absurd hm (Nat.not_lt_zero _)
    | succ n ih8 =>
      intro x4 hm8 hV8
      refine K_iload (pc := 8) (i := 5) rfl rfl ?_
      refine K_aload_n (pc := 10) (i := 6) rfl rfl ?_
      refine K_getI (pc := 11) (i := 7) (j := 6) rfl (S_Fl hf) rfl (by decide) rfl fw_Tangle_15 ?_
      refine K_nm (fun v11 e11 => ?_)
      have r11 := rd_kites hI hf
      rw [← e11] at r11
      first | refine K_icmp_ge 52 (pc := 14) (i := 8) rfl rfl (by omega) (by omega) (fun b14 => ?_) (fun b14 => ?_) | refine K_icmp_ge_an 52 (pc := 14) (i := 8) rfl rfl (fun b14 => ?_) (fun b14 => ?_)
      · skip
        refine K_bipush (pc := 52) (i := 29) rfl rfl ?_
        exact K_retI (pc := 54) (i := 30) rfl rfl ⟨fx, ⟨hI, by omega⟩⟩
      · skip
        refine K_aload_n (pc := 17) (i := 9) rfl rfl ?_
        refine K_getR (pc := 18) (i := 10) (j := 0) (d := 183) rfl S_182 rfl (by decide) rfl fw_Tangle_9 ?_
        refine K_iload_n (pc := 21) (i := 11) rfl rfl ?_
        refine K_iald (pc := 22) (i := 12) rfl S_183 (by omega) (by omega) (by decide) ?_
        refine K_any (fun v22 r22 => ?_)
        refine K_iload (pc := 23) (i := 13) rfl rfl ?_
        refine K_ishr (pc := 25) (i := 14) rfl ?_
        refine K_any (fun v25 r25 => ?_)
        refine K_iconst (pc := 26) (i := 15) rfl ?_
        refine K_iand (pc := 27) (i := 16) rfl ?_
        refine K_nm (fun v27 e27 => ?_)
        have r27 := kAnd_1 v25
        rw [← e27] at r27
        first | refine K_if_eq 46 (pc := 28) (i := 17) rfl rfl (by omega) (fun b28 => ?_) (fun b28 => ?_) | refine K_if_eq_an 46 (pc := 28) (i := 17) rfl rfl (fun b28 => ?_) (fun b28 => ?_)
        · skip
          refine K_inc (pc := 46) (i := 27) (q := 4) (lo' := [(0, _), (1, _), (2, _), (3, _), (4, _)]) rfl rfl rfl rfl rfl ?_
          refine K_goto 8 (pc := 49) (i := 28) rfl rfl ?_
          exact ih8 (x4 + 1) (by omega) (by omega)
        · skip
          refine K_aload_n (pc := 31) (i := 18) rfl rfl ?_
          refine K_aload_n (pc := 32) (i := 19) rfl rfl ?_
          refine K_iload_n (pc := 33) (i := 20) rfl rfl ?_
          refine K_iload (pc := 34) (i := 21) rfl rfl ?_
          refine K_cVI (pc := 36) (i := 22) rfl (c_Tangle_countAhead G (f := f) (hf := hf) (x2 := x2) (x3 := x4) (hI := hI) (s2 := by omega) (s3 := by omega)) S_182 rfl (lv_Tangle_38 rfl) rfl rfl rfl rfl rfl (fun v36 h36 q36 => ?_)
          obtain ⟨eh, r36⟩ := q36
          rw [eh]; clear eh
          refine K_iload_n (pc := 39) (i := 23) rfl rfl ?_
          first | refine K_icmp_ne 46 (pc := 40) (i := 24) rfl rfl (by omega) (by omega) (fun b40 => ?_) (fun b40 => ?_) | refine K_icmp_ne_an 46 (pc := 40) (i := 24) rfl rfl (fun b40 => ?_) (fun b40 => ?_)
          · skip
            refine K_inc (pc := 46) (i := 27) (q := 4) (lo' := [(0, _), (1, _), (2, _), (3, _), (4, _)]) rfl rfl rfl rfl rfl ?_
            refine K_goto 8 (pc := 49) (i := 28) rfl rfl ?_
            exact ih8 (x4 + 1) (by omega) (by omega)
          · skip
            refine K_iload (pc := 43) (i := 25) rfl rfl ?_
            exact K_retI (pc := 45) (i := 26) rfl rfl ⟨fx, ⟨hI, by omega⟩⟩
  exact L8 _ 0 (Nat.lt_succ_self _) (by omega)
