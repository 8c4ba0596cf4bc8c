set_option maxHeartbeats 4000000 in
set_option maxRecDepth 100000 in
theorem c_Model_leave40 (G : kG) {g : kGh} {h : kH} {x1 : Int} {x2 : Int} {x3 : Int} (s1 : x1 = 40) (s2 : 0 ≤ x2 ∧ x2 ≤ 8) (hI : Gd g h) : Ctr G y_Model_leave X_Model_leave 1 [.ref (G.2.2.2 184), kI x1, kI x2, kI x3] h (kQi (fun z h' => Fx (fun c i => (c = 187 ∧ 40 ≤ i) ∨ c = 192) h h' ∧ (Gd g h' ∧ (0 ≤ z ∧ z ≤ x2) ∧ z = kc (pB x3) x2.toNat ∧ THK (kap h x1.toNat) (kap h' x1.toNat) (pB x3) x2 ∧ GN (h 192) (h' 192) x3 (fun i => kap h x1.toNat (5 * i)) x2))) := by
  refine Ctr.ofK (by decide) rfl T_Model_leave (Nat.le_of_ble_eq_true rfl) (lo := [(0, .ref (G.2.2.2 184)), (1, kI x1), (2, kI x2), (3, kI x3)]) rfl ?_
  have fx : Fx (fun c i => (c = 187 ∧ 40 ≤ i) ∨ c = 192) h h := Fx.rf
  refine K_iconst (pc := 0) (i := 0) rfl ?_
  refine K_ist (pc := 1) (i := 1) (lo' := [(0, _), (1, _), (2, _), (3, _), (4, _)]) rfl rfl rfl rfl ?_
  refine K_iconst (pc := 3) (i := 2) rfl ?_
  refine K_ist (pc := 4) (i := 3) (lo' := [(0, _), (1, _), (2, _), (3, _), (4, _), (5, _)]) rfl rfl rfl rfl ?_
  have L6 : ∀ (n : Nat) (x4 : Int) (x5 : Int) (ha : kH), (8 - x5).toNat < n → (Gd g ha) → (Fx (fun c i => (c = 187 ∧ 40 ≤ i) ∨ c = 192) h ha) → ((0 ≤ x4 ∧ x4 ≤ x5 ∧ x5 ≤ x2) ∧ x4 = kc (pB x3) x5.toNat ∧ LVK (kap h x1.toNat) (kap ha x1.toNat) (pB x3) x5.toNat ∧ GN (h 192) (ha 192) x3 (fun i => kap h x1.toNat (5 * i)) x5) → K X_Model_leave G (kZm G 1 (kQi (fun z h' => Fx (fun c i => (c = 187 ∧ 40 ≤ i) ∨ c = 192) h h' ∧ (Gd g h' ∧ (0 ≤ z ∧ z ≤ x2) ∧ z = kc (pB x3) x2.toNat ∧ THK (kap h x1.toNat) (kap h' x1.toNat) (pB x3) x2 ∧ GN (h 192) (h' 192) x3 (fun i => kap h x1.toNat (5 * i)) x2)))) 6 [(0, .ref (G.2.2.2 184)), (1, kI x1), (2, kI x2), (3, kI x3), (4, kI x4), (5, kI x5)] [] ha := by
    intro n
    induction n with
    | zero => intro x4 x5 ha hm; exact absurd hm (Nat.not_lt_zero _)
    | succ n ih6 =>
      intro x4 x5 ha hm6 hI fx hV6
      refine K_iload (pc := 6) (i := 4) rfl rfl ?_
      refine K_iload_n (pc := 8) (i := 5) rfl rfl ?_
      first | refine K_icmp_ge 99 (pc := 9) (i := 6) rfl rfl (by omega) (by omega) (fun b9 => ?_) (fun b9 => ?_) | refine K_icmp_ge_an 99 (pc := 9) (i := 6) rfl rfl (fun b9 => ?_) (fun b9 => ?_)
      · skip
        refine K_iload (pc := 99) (i := 62) rfl rfl ?_
        exact K_retI (pc := 101) (i := 63) rfl rfl ⟨fx, ⟨hI, by omega, by rw [hV6.2.1, show x5 = x2 by omega], fun i a hi hp ha9 => hV6.2.2.1.1 i a (by omega) hp ha9, by have q := hV6.2.2.2; rwa [show x5 = x2 by omega] at q⟩⟩
      · skip
        refine K_iload_n (pc := 12) (i := 7) rfl rfl ?_
        refine K_iload (pc := 13) (i := 8) rfl rfl ?_
        refine K_ishr (pc := 15) (i := 9) rfl ?_
        refine K_nm (fun v15 e15 => ?_)
        have r15 := kShr_R x3 x5
        rw [← e15] at r15
        refine K_iconst (pc := 16) (i := 10) rfl ?_
        refine K_iand (pc := 17) (i := 11) rfl ?_
        refine K_nm (fun v17 e17 => ?_)
        have r17 := kAnd_1 v15
        rw [← e17] at r17
        have t17 : v17 = if tb x3 x5 then 1 else 0 := by rw [e17, e15]; exact kbit (by omega)
        refine K_iconst (pc := 18) (i := 12) rfl ?_
        first | refine K_icmp_ne 47 (pc := 19) (i := 13) rfl rfl (by omega) (by omega) (fun b19 => ?_) (fun b19 => ?_) | refine K_icmp_ne_an 47 (pc := 19) (i := 13) rfl rfl (fun b19 => ?_) (fun b19 => ?_)
        · skip
          refine K_iconst (pc := 47) (i := 32) rfl ?_
          refine K_ist (pc := 48) (i := 33) (lo' := [(0, _), (1, _), (2, _), (3, _), (4, _), (5, _), (6, _)]) rfl rfl rfl rfl ?_
          have L50 : ∀ (n : Nat) (x6 : Int) (hb : kH), (5 - x6).toNat < n → (Gd g hb) → (Fx (fun c i => (c = 187 ∧ 40 ≤ i) ∨ c = 192) h hb) → ((0 ≤ x6 ∧ x6 ≤ 5) ∧ LVKi (kap h x1.toNat) (kap hb x1.toNat) (pB x3) x5.toNat x6.toNat ∧ hb 192 = ha 192) → K X_Model_leave G (kZm G 1 (kQi (fun z h' => Fx (fun c i => (c = 187 ∧ 40 ≤ i) ∨ c = 192) h h' ∧ (Gd g h' ∧ (0 ≤ z ∧ z ≤ x2) ∧ z = kc (pB x3) x2.toNat ∧ THK (kap h x1.toNat) (kap h' x1.toNat) (pB x3) x2 ∧ GN (h 192) (h' 192) x3 (fun i => kap h x1.toNat (5 * i)) x2)))) 50 [(0, .ref (G.2.2.2 184)), (1, kI x1), (2, kI x2), (3, kI x3), (4, kI x4), (5, kI x5), (6, kI x6)] [] hb := by
            intro n
            induction n with
            | zero => intro x6 hb hm; exact absurd hm (Nat.not_lt_zero _)
            | succ n ih50 =>
              intro x6 hb hm50 hI fx hV50
              refine K_iload (pc := 50) (i := 34) rfl rfl ?_
              refine K_iconst (pc := 52) (i := 35) rfl ?_
              first | refine K_icmp_ge 90 (pc := 53) (i := 36) rfl rfl (by omega) (by omega) (fun b53 => ?_) (fun b53 => ?_) | refine K_icmp_ge_an 90 (pc := 53) (i := 36) rfl rfl (fun b53 => ?_) (fun b53 => ?_)
              · skip
                have lv90 : LVK (kap h x1.toNat) (kap hb x1.toNat) (pB x3) (x5 + 1).toNat := by have q := hV50.2.1; rw [show x6.toNat = 5 by omega] at q; rw [show (x5 + 1).toNat = x5.toNat + 1 by omega]; exact q.end
                have kc90 : x4 + 1 = kc (pB x3) (x5 + 1).toNat := by rw [show (x5 + 1).toNat = x5.toNat + 1 by omega, kc, pB_t (by omega) t17 (by omega)]; simp; omega
                have gn90 : GN (h 192) (hb 192) x3 (fun i => kap h x1.toNat (5 * i)) (x5 + 1) := by rw [hV50.2.2]; exact hV6.2.2.2.no (by omega) (tbf t17 (by omega))
                refine K_inc (pc := 90) (i := 59) (q := 4) (lo' := [(0, _), (1, _), (2, _), (3, _), (4, _), (5, _), (6, _)]) rfl rfl rfl rfl rfl ?_
                refine K_inc (pc := 93) (i := 60) (q := 5) (lo' := [(0, _), (1, _), (2, _), (3, _), (4, _), (5, _), (6, _)]) rfl rfl rfl rfl rfl ?_
                refine K_goto 6 (pc := 96) (i := 61) rfl rfl ?_
                refine K_drop (lo' := [(0, .ref (G.2.2.2 184)), (1, kI x1), (2, kI x2), (3, kI x3), (4, kI (x4 + 1)), (5, kI (x5 + 1))]) [0, 1, 2, 3, 4, 5] rfl ?_
                exact ih6 (x4 + 1) (x5 + 1) _ (by omega) hI fx (by first | exact ⟨by omega, kc43, lv43, gn43⟩ | exact ⟨by omega, kc90, lv90, gn90⟩)
              · skip
                refine K_aload_n (pc := 56) (i := 37) rfl rfl ?_
                refine K_getR (pc := 57) (i := 38) (j := 3) (d := 187) rfl S_184 rfl (by decide) rfl fw_Model_16 ?_
                refine K_iload_n (pc := 60) (i := 39) rfl rfl ?_
                refine K_iconst (pc := 61) (i := 40) rfl ?_
                refine K_iload (pc := 62) (i := 41) rfl rfl ?_
                refine K_imul (pc := 64) (i := 42) rfl ?_
                refine K_iadd (pc := 65) (i := 43) rfl ?_
                refine K_iload (pc := 66) (i := 44) rfl rfl ?_
                refine K_iadd (pc := 68) (i := 45) rfl ?_
                refine K_aload_n (pc := 69) (i := 46) rfl rfl ?_
                refine K_getR (pc := 70) (i := 47) (j := 3) (d := 187) rfl S_184 rfl (by decide) rfl fw_Model_16 ?_
                refine K_iload_n (pc := 73) (i := 48) rfl rfl ?_
                refine K_iconst (pc := 74) (i := 49) rfl ?_
                refine K_iload (pc := 75) (i := 50) rfl rfl ?_
                refine K_imul (pc := 77) (i := 51) rfl ?_
                refine K_iadd (pc := 78) (i := 52) rfl ?_
                refine K_iload (pc := 79) (i := 53) rfl rfl ?_
                refine K_iadd (pc := 81) (i := 54) rfl ?_
                refine K_iald (pc := 82) (i := 55) rfl S_187 (by omega) (by omega) (by decide) ?_
                refine K_nm (fun v82 e82 => ?_)
                have r82 := rd_mkites hI ((x1 + (5 * x5)) + x6).toNat
                rw [← e82] at r82
                have w82 : kap hb x1.toNat (5 * x5.toNat + x6.toNat) = v82 := by rw [e82]; unfold kap; congr 1; omega
                refine K_iast (pc := 83) (i := 56) rfl S_187 (by omega) (by omega) (by decide) ?_
                have hI := st_mkites hI (i := ((x1 + (5 * x4)) + x6).toNat) (v := v82) (bK_of r82 (m5 (by omega) hV6.1.1 (by omega) hV50.1.1)) (fun _ a => a.hi (rd_many hI).2 (hi40 s1 hV6.1.1 hV50.1.1))
                have fx := Fx.st (c := 187) (i := ((x1 + (5 * x4)) + x6).toNat) (v := v82) fx (Or.inl ⟨rfl, hi40 s1 hV6.1.1 hV50.1.1⟩)
                have li83 := LVKi.st (i := ((x1 + (5 * x4)) + x6).toNat) (v := v82) hV50.2.1 (by omega) (by omega) (by rw [← w82])
                rw [show x6.toNat + 1 = (x6 + 1).toNat by omega] at li83
                refine K_inc (pc := 84) (i := 57) (q := 6) (lo' := [(0, _), (1, _), (2, _), (3, _), (4, _), (5, _), (6, _)]) rfl rfl rfl rfl rfl ?_
                refine K_goto 50 (pc := 87) (i := 58) rfl rfl ?_
                exact ih50 (x6 + 1) _ (by omega) hI fx ⟨by omega, li83, (kU_c _ _ _ _ (by decide)).trans hV50.2.2⟩
          exact L50 _ 0 _ (Nat.lt_succ_self _) hI fx ⟨by omega, hV6.2.2.1.i, rfl⟩
        · skip
          refine K_aload_n (pc := 22) (i := 14) rfl rfl ?_
          refine K_getR (pc := 23) (i := 15) (j := 14) (d := 192) rfl S_184 rfl (by decide) rfl fw_Model_31 ?_
          refine K_iconst (pc := 26) (i := 16) rfl ?_
          refine K_aload_n (pc := 27) (i := 17) rfl rfl ?_
          refine K_getR (pc := 28) (i := 18) (j := 3) (d := 187) rfl S_184 rfl (by decide) rfl fw_Model_16 ?_
          refine K_iload_n (pc := 31) (i := 19) rfl rfl ?_
          refine K_iconst (pc := 32) (i := 20) rfl ?_
          refine K_iload (pc := 33) (i := 21) rfl rfl ?_
          refine K_imul (pc := 35) (i := 22) rfl ?_
          refine K_iadd (pc := 36) (i := 23) rfl ?_
          refine K_iald (pc := 37) (i := 24) rfl S_187 (by omega) (by omega) (by decide) ?_
          refine K_nm (fun v37 e37 => ?_)
          have r37 := (rd_mkites hI (x1 + (5 * x5)).toNat).1 (by omega)
          rw [← e37] at r37
          have w37 : kap ha x1.toNat (5 * x5.toNat) = v37 := by rw [e37]; unfold kap; congr 1; omega
          have y37 : kap h x1.toNat (5 * x5.toNat) = v37 := by rw [← w37]; exact (hV6.2.2.1.2 _ (by omega)).symm
          refine K_isub (pc := 38) (i := 25) rfl ?_
          refine K_dup2 (pc := 39) (i := 26) rfl rfl rfl ?_
          refine K_iald (pc := 40) (i := 27) rfl S_192 (by omega) (by omega) (by decide) ?_
          refine K_nm (fun v40 e40 => ?_)
          refine K_iconst (pc := 41) (i := 28) rfl ?_
          refine K_iadd (pc := 42) (i := 29) rfl ?_
          refine K_iast (pc := 43) (i := 30) rfl S_192 (by omega) (by omega) (by decide) ?_
          have hI := st_free (c := 192) hI (by decide +kernel) (by decide) (i := (1 - v37).toNat) (v := v40 + 1)
          have fx := Fx.st (c := 192) (i := (1 - v37).toNat) (v := v40 + 1) fx (Or.inr rfl)
          have gn43 := GN.yes (l := (1 - v37).toNat) (w := v40 + 1) hV6.2.2.2 (by omega) (tbx t17 (by omega)) (by rw [y37]; omega) e40 rfl
          have lv43 : LVK (kap h x1.toNat) (kap (kU ha 192 ((1 - v37).toNat) (v40 + 1)) x1.toNat) (pB x3) (x5 + 1).toNat := by rw [show (x5 + 1).toNat = x5.toNat + 1 by omega, kap_of (kU_c _ _ _ _ (by decide))]; exact hV6.2.2.1.no (pB_f (by omega) t17 (by omega))
          have kc43 : x4 = kc (pB x3) (x5 + 1).toNat := by rw [show (x5 + 1).toNat = x5.toNat + 1 by omega, kc, pB_f (by omega) t17 (by omega)]; simp; omega
          refine K_goto 93 (pc := 44) (i := 31) rfl rfl ?_
          refine K_inc (pc := 93) (i := 60) (q := 5) (lo' := [(0, _), (1, _), (2, _), (3, _), (4, _), (5, _)]) rfl rfl rfl rfl rfl ?_
          refine K_goto 6 (pc := 96) (i := 61) rfl rfl ?_
          exact ih6 x4 (x5 + 1) _ (by omega) hI fx (by first | exact ⟨by omega, kc43, lv43, gn43⟩ | exact ⟨by omega, kc90, lv90, gn90⟩)
  exact L6 _ 0 0 _ (Nat.lt_succ_self _) hI fx ⟨by omega, rfl, LVK.z, GN.z⟩
