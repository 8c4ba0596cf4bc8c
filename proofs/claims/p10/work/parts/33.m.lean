def mT (h : kH) : Nat := (2 * (8 - h 184 1)).toNat + (if h 184 10 = -9 then 1 else 0)
theorem mT_fault {h : kH} {v : Int} (h0 : h 184 10 = -9) (hv : v ≠ -9) : mT (kU h 184 10 v) < mT h := by
  have e1 : kU h 184 10 v 184 1 = h 184 1 := by rw [kU_at, if_neg (by omega)]
  have e2 : kU h 184 10 v 184 10 = v := by rw [kU_at, if_pos ⟨rfl, rfl⟩]
  unfold mT
  rw [e1, e2, if_pos h0, if_neg hv]
  omega
theorem mT_kite {h h' : kH} (h0 : h 184 10 = -9) (e : h' 184 1 = h 184 1 + 1) (hr : h 184 1 ≤ 7) : mT h' < mT h := by
  unfold mT
  rw [if_pos h0, e]
  split <;> omega
set_option maxHeartbeats 4000000 in
set_option maxRecDepth 100000 in
theorem c_Model_readText (G : kG) {g : kGh} {h : kH}  (hI : Gd g h) : Ctr G y_Model_readText X_Model_readText 4 [.ref (G.2.2.2 184)] h (kQi (fun z h' => Fx (fun c i => c = 185 ∨ c = 186 ∨ (c = 184 ∧ (i = 1 ∨ i = 9 ∨ i = 10))) h h' ∧ (Gd g h' ∧ (-9 ≤ z ∧ z ≤ 74) ∧ (z = -9 → FK (h' 185) (h' 184 1)) ∧ FaultIs (h 190) (h 184 8) z ∧ (z = -9 → Dec h' (h 190) (h' 184 1) ∧ 10 + 8 * h' 184 1 = h 184 8 ∧ ∀ k : Nat, 1 ≤ k → (k : Int) < 10 → h' 186 k = h 190 k - 48 - 3)))) := by
  refine Ctr.ofK (by decide) rfl T_Model_readText (Nat.le_of_ble_eq_true rfl) (lo := [(0, .ref (G.2.2.2 184))]) rfl ?_
  have fx : Fx (fun c i => c = 185 ∨ c = 186 ∨ (c = 184 ∧ (i = 1 ∨ i = 9 ∨ i = 10))) h h := Fx.rf
  refine K_aload_n (pc := 0) (i := 0) rfl rfl ?_
  refine K_iconst (pc := 1) (i := 1) rfl ?_
  refine K_putI (pc := 2) (i := 2) (j := 9) rfl S_184 rfl (by decide) rfl rfl rfl fw_Model_77 ?_
  have hI := st_at hI (v := 0) (by omega)
  have fx := Fx.st (c := 184) (i := 9) (v := 0) fx (by first | (dsimp only; omega) | omega | exact not_false)
  refine K_aload_n (pc := 5) (i := 3) rfl rfl ?_
  refine K_bipush (pc := 6) (i := 4) rfl rfl ?_
  refine K_putI (pc := 8) (i := 5) (j := 10) rfl S_184 rfl (by decide) rfl rfl rfl fw_Model_74 ?_
  have hI := st_faultAt hI (v := -9) (by omega)
  have fx := Fx.st (c := 184) (i := 10) (v := -9) fx (by first | (dsimp only; omega) | omega | exact not_false)
  refine K_aload_n (pc := 11) (i := 6) rfl rfl ?_
  refine K_iconst (pc := 12) (i := 7) rfl ?_
  refine K_putI (pc := 13) (i := 8) (j := 1) rfl S_184 rfl (by decide) rfl rfl rfl fw_Model_82 ?_
  have hI := st_readMany hI (v := 0) (by omega)
  have fx := Fx.st (c := 184) (i := 1) (v := 0) fx (by first | (dsimp only; omega) | omega | exact not_false)
  refine K_aload_n (pc := 16) (i := 9) rfl rfl ?_
  refine K_getI (pc := 17) (i := 10) (j := 8) rfl S_184 rfl (by decide) rfl fw_Model_69 ?_
  refine K_nm (fun v17 e17 => ?_)
  have r17 := rd_mlength hI
  rw [← e17] at r17
  have u17 : v17 = h 184 8 := by rw [e17]; simp [kU]
  first | refine K_if_eq 34 (pc := 20) (i := 11) rfl rfl (by omega) (fun b20 => ?_) (fun b20 => ?_) | refine K_if_eq_an 34 (pc := 20) (i := 11) rfl rfl (fun b20 => ?_) (fun b20 => ?_)
  · skip
    refine K_iconst (pc := 34) (i := 18) rfl ?_
    exact K_retI (pc := 35) (i := 19) rfl rfl ⟨fx, ⟨hI, by omega, fun e => absurd e (by omega), by first | exact Or.inl ⟨⟨by omega, by omega⟩, fun j a b => absurd a (by omega), Or.inr ⟨by omega, by omega⟩⟩ | exact Or.inl ⟨⟨by omega, by omega⟩, fun j a b => absurd a (by omega), Or.inl ⟨by omega, fun q => absurd ((mayS_0 rfl).1 q) (by omega)⟩⟩, fun e => absurd e (by omega)⟩⟩
  · skip
    refine K_aload_n (pc := 23) (i := 12) rfl rfl ?_
    refine K_getR (pc := 24) (i := 13) (j := 7) (d := 190) rfl S_184 rfl (by decide) rfl fw_Model_25 ?_
    refine K_iconst (pc := 27) (i := 14) rfl ?_
    refine K_iald (pc := 28) (i := 15) rfl S_190 (by omega) (by omega) (by decide) ?_
    refine K_nm (fun v28 e28 => ?_)
    have r28 := rd_mtext hI (0 : Int).toNat
    rw [← e28] at r28
    have u28 : h 190 (0 : Int).toNat = v28 := by rw [e28]; simp [kU]
    refine K_bipush (pc := 29) (i := 16) rfl rfl ?_
    first | refine K_icmp_eq 36 (pc := 31) (i := 17) rfl rfl (by omega) (by omega) (fun b31 => ?_) (fun b31 => ?_) | refine K_icmp_eq_an 36 (pc := 31) (i := 17) rfl rfl (fun b31 => ?_) (fun b31 => ?_)
    · skip
      refine K_aload_n (pc := 36) (i := 20) rfl rfl ?_
      refine K_iconst (pc := 37) (i := 21) rfl ?_
      refine K_putI (pc := 38) (i := 22) (j := 9) rfl S_184 rfl (by decide) rfl rfl rfl fw_Model_77 ?_
      have hI := st_at hI (v := 1) (by omega)
      have fx := Fx.st (c := 184) (i := 9) (v := 1) fx (by first | (dsimp only; omega) | omega | exact not_false)
      have rs38 : RS (kU (kU (kU (kU h 184 9 0) 184 10 (-9)) 184 1 0) 184 9 1) (h 190) (h 184 8) 1 := ⟨fun _ => ⟨by rw [kU_at, if_pos ⟨rfl, rfl⟩], by omega, fun j a b => (mayS_0 (by omega)).2 (by rw [show j = 0 by omega]; omega)⟩, fun e => absurd (show (kU (kU (kU (kU h 184 9 0) 184 10 (-9)) 184 1 0) 184 9 1) 184 10 = -9 by simp [kU]) e⟩
      refine K_iconst (pc := 41) (i := 23) rfl ?_
      refine K_ist_n (pc := 42) (i := 24) (lo' := [(0, _), (1, _)]) rfl rfl rfl rfl ?_
      have L43 : ∀ (n : Nat) (x1 : Int) (ha : kH), (10 - x1).toNat < n → (Gd g ha) → (Fx (fun c i => c = 185 ∨ c = 186 ∨ (c = 184 ∧ (i = 1 ∨ i = 9 ∨ i = 10))) h ha) → ((1 ≤ x1 ∧ x1 ≤ 10) ∧ ha 184 1 = 0 ∧ RS ha (h 190) (h 184 8) x1 ∧ (ha 184 10 = -9 → ∀ k : Nat, 1 ≤ k → (k : Int) < x1 → ha 186 k = h 190 k - 48 - 3)) → K X_Model_readText G (kZm G 4 (kQi (fun z h' => Fx (fun c i => c = 185 ∨ c = 186 ∨ (c = 184 ∧ (i = 1 ∨ i = 9 ∨ i = 10))) h h' ∧ (Gd g h' ∧ (-9 ≤ z ∧ z ≤ 74) ∧ (z = -9 → FK (h' 185) (h' 184 1)) ∧ FaultIs (h 190) (h 184 8) z ∧ (z = -9 → Dec h' (h 190) (h' 184 1) ∧ 10 + 8 * h' 184 1 = h 184 8 ∧ ∀ k : Nat, 1 ≤ k → (k : Int) < 10 → h' 186 k = h 190 k - 48 - 3))))) 43 [(0, .ref (G.2.2.2 184)), (1, kI x1)] [] ha := by
        intro n
        induction n with
        | zero => intro x1 ha hm; exact absurd hm (Nat.not_lt_zero _)
        | succ n ih43 =>
          intro x1 ha hm43 hI fx hV43
          refine K_iload_n (pc := 43) (i := 25) rfl rfl ?_
          refine K_bipush (pc := 44) (i := 26) rfl rfl ?_
          first | refine K_icmp_ge 69 (pc := 46) (i := 27) rfl rfl (by omega) (by omega) (fun b46 => ?_) (fun b46 => ?_) | refine K_icmp_ge_an 69 (pc := 46) (i := 27) rfl rfl (fun b46 => ?_) (fun b46 => ?_)
          · skip
            have L69 : ∀ (n : Nat) (ha : kH), mT ha < n → (Gd g ha) → (Fx (fun c i => c = 185 ∨ c = 186 ∨ (c = 184 ∧ (i = 1 ∨ i = 9 ∨ i = 10))) h ha) → ((ha 184 10 = -9 → FK (ha 185) (ha 184 1)) ∧ RS ha (h 190) (h 184 8) (10 + 8 * ha 184 1) ∧ (ha 184 10 = -9 → Dec ha (h 190) (ha 184 1)) ∧ (ha 184 10 = -9 → ∀ k : Nat, 1 ≤ k → (k : Int) < 10 → ha 186 k = h 190 k - 48 - 3)) → K X_Model_readText G (kZm G 4 (kQi (fun z h' => Fx (fun c i => c = 185 ∨ c = 186 ∨ (c = 184 ∧ (i = 1 ∨ i = 9 ∨ i = 10))) h h' ∧ (Gd g h' ∧ (-9 ≤ z ∧ z ≤ 74) ∧ (z = -9 → FK (h' 185) (h' 184 1)) ∧ FaultIs (h 190) (h 184 8) z ∧ (z = -9 → Dec h' (h 190) (h' 184 1) ∧ 10 + 8 * h' 184 1 = h 184 8 ∧ ∀ k : Nat, 1 ≤ k → (k : Int) < 10 → h' 186 k = h 190 k - 48 - 3))))) 69 [(0, .ref (G.2.2.2 184))] [] ha := by
              intro n
              induction n with
              | zero => intro  ha hm; exact absurd hm (Nat.not_lt_zero _)
              | succ n ih69 =>
                intro  ha hm69 hI fx hV69
                refine K_aload_n (pc := 69) (i := 39) rfl rfl ?_
                refine K_getI (pc := 70) (i := 40) (j := 10) rfl S_184 rfl (by decide) rfl fw_Model_74 ?_
                refine K_nm (fun v70 e70 => ?_)
                have r70 := rd_faultAt hI
                rw [← e70] at r70
                refine K_bipush (pc := 73) (i := 41) rfl rfl ?_
                first | refine K_icmp_ne 130 (pc := 75) (i := 42) rfl rfl (by omega) (by omega) (fun b75 => ?_) (fun b75 => ?_) | refine K_icmp_ne_an 130 (pc := 75) (i := 42) rfl rfl (fun b75 => ?_) (fun b75 => ?_)
                · skip
                  have eb130 : (ha) 190 = h 190 := fx.cell 190 (fun i => (by first | (dsimp only; omega) | omega))
                  have el130 : (ha) 184 8 = h 184 8 := fx 184 8 (by first | (dsimp only; omega) | omega)
                  have rmA := rd_readMany hI
                  refine K_aload_n (pc := 130) (i := 67) rfl rfl ?_
                  refine K_getI (pc := 131) (i := 68) (j := 10) rfl S_184 rfl (by decide) rfl fw_Model_74 ?_
                  refine K_nm (fun v131 e131 => ?_)
                  have r131 := rd_faultAt hI
                  rw [← e131] at r131
                  exact K_retI (pc := 134) (i := 69) rfl rfl ⟨fx, ⟨hI, by omega, fun e => hV69.1 (by omega), by first | (rw [e131]; exact hV69.2.1.2 (by omega)) | (have ra := hV69.2.1.1 (by omega); exact Or.inr ⟨by omega, fun j a b => ra.2.2 j a (by omega), by omega, by omega⟩), fun e => by first | exact absurd e (by omega) | (have ra := hV69.2.1.1 (by omega); exact ⟨hV69.2.2.1 (by omega), by omega, hV69.2.2.2 (by omega)⟩)⟩⟩
                · skip
                  refine K_aload_n (pc := 78) (i := 43) rfl rfl ?_
                  refine K_getI (pc := 79) (i := 44) (j := 9) rfl S_184 rfl (by decide) rfl fw_Model_77 ?_
                  refine K_nm (fun v79 e79 => ?_)
                  have r79 := rd_at hI
                  rw [← e79] at r79
                  refine K_aload_n (pc := 82) (i := 45) rfl rfl ?_
                  refine K_getI (pc := 83) (i := 46) (j := 8) rfl S_184 rfl (by decide) rfl fw_Model_69 ?_
                  refine K_nm (fun v83 e83 => ?_)
                  have r83 := rd_mlength hI
                  rw [← e83] at r83
                  first | refine K_icmp_ge 130 (pc := 86) (i := 47) rfl rfl (by omega) (by omega) (fun b86 => ?_) (fun b86 => ?_) | refine K_icmp_ge_an 130 (pc := 86) (i := 47) rfl rfl (fun b86 => ?_) (fun b86 => ?_)
                  · skip
                    have eb130 : (ha) 190 = h 190 := fx.cell 190 (fun i => (by first | (dsimp only; omega) | omega))
                    have el130 : (ha) 184 8 = h 184 8 := fx 184 8 (by first | (dsimp only; omega) | omega)
                    have rmA := rd_readMany hI
                    refine K_aload_n (pc := 130) (i := 67) rfl rfl ?_
                    refine K_getI (pc := 131) (i := 68) (j := 10) rfl S_184 rfl (by decide) rfl fw_Model_74 ?_
                    refine K_nm (fun v131 e131 => ?_)
                    have r131 := rd_faultAt hI
                    rw [← e131] at r131
                    exact K_retI (pc := 134) (i := 69) rfl rfl ⟨fx, ⟨hI, by omega, fun e => hV69.1 (by omega), by first | (rw [e131]; exact hV69.2.1.2 (by omega)) | (have ra := hV69.2.1.1 (by omega); exact Or.inr ⟨by omega, fun j a b => ra.2.2 j a (by omega), by omega, by omega⟩), fun e => by first | exact absurd e (by omega) | (have ra := hV69.2.1.1 (by omega); exact ⟨hV69.2.2.1 (by omega), by omega, hV69.2.2.2 (by omega)⟩)⟩⟩
                  · skip
                    refine K_aload_n (pc := 89) (i := 48) rfl rfl ?_
                    refine K_getR (pc := 90) (i := 49) (j := 7) (d := 190) rfl S_184 rfl (by decide) rfl fw_Model_25 ?_
                    refine K_aload_n (pc := 93) (i := 50) rfl rfl ?_
                    refine K_getI (pc := 94) (i := 51) (j := 9) rfl S_184 rfl (by decide) rfl fw_Model_77 ?_
                    refine K_nm (fun v94 e94 => ?_)
                    have r94 := rd_at hI
                    rw [← e94] at r94
                    have t94 : v94 = v79 := by rw [e94, e79]; try simp [kU]
                    have eb97 : (ha) 190 = h 190 := fx.cell 190 (fun i => (by first | (dsimp only; omega) | omega))
                    refine K_iald (pc := 97) (i := 52) rfl S_190 (by omega) (by omega) (by decide) ?_
                    refine K_nm (fun v97 e97 => ?_)
                    have r97 := rd_mtext hI (v94).toNat
                    rw [← e97] at r97
                    have u97 : h 190 (ha 184 9).toNat = v97 := by rw [← eb97, e97, e94]
                    refine K_bipush (pc := 98) (i := 53) rfl rfl ?_
                    first | refine K_icmp_ne 119 (pc := 100) (i := 54) rfl rfl (by omega) (by omega) (fun b100 => ?_) (fun b100 => ?_) | refine K_icmp_ne_an 119 (pc := 100) (i := 54) rfl rfl (fun b100 => ?_) (fun b100 => ?_)
                    · skip
                      refine K_aload_n (pc := 119) (i := 62) rfl rfl ?_
                      refine K_aload_n (pc := 120) (i := 63) rfl rfl ?_
                      refine K_getI (pc := 121) (i := 64) (j := 9) rfl S_184 rfl (by decide) rfl fw_Model_77 ?_
                      refine K_nm (fun v121 e121 => ?_)
                      have r121 := rd_at hI
                      rw [← e121] at r121
                      have e10 : ha 184 10 = -9 := by omega
                      have ra := hV69.2.1.1 e10
                      have eb124 : (ha) 190 = h 190 := fx.cell 190 (fun i => (by first | (dsimp only; omega) | omega))
                      have el124 : (ha) 184 8 = h 184 8 := fx 184 8 (by first | (dsimp only; omega) | omega)
                      have rmA := rd_readMany hI
                      refine K_putI (pc := 124) (i := 65) (j := 10) rfl S_184 rfl (by decide) rfl rfl rfl fw_Model_74 ?_
                      have hI := st_faultAt hI (v := v121) (by omega)
                      have fx := Fx.st (c := 184) (i := 10) (v := v121) fx (by first | (dsimp only; omega) | omega | exact not_false)
                      have d124 : mT (kU ha 184 10 v121) < mT ha := mT_fault (by omega) (by omega)
                      have rs124 : RS (kU ha 184 10 v121) (h 190) (h 184 8) (10 + 8 * (kU ha 184 10 v121) 184 1) := ⟨fun e => absurd e (by rw [kU_at, if_pos ⟨rfl, rfl⟩]; omega), fun _ => by rw [kU_at, if_pos ⟨rfl, rfl⟩]; exact Or.inl ⟨⟨by omega, by omega⟩, fun j a b => ra.2.2 j a (by omega), Or.inl ⟨by omega, fun q => absurd ((mayS_r0 (by omega) (by omega)).1 q) (by rw [e121, u97]; omega)⟩⟩⟩
                      refine K_goto 69 (pc := 127) (i := 66) rfl rfl ?_
                      exact ih69  _ (by omega) hI fx (by first | exact ⟨fk113, rs113, dc113, wd113⟩ | exact ⟨fun e => absurd e (by rw [kU_at, if_pos ⟨rfl, rfl⟩]; omega), rs124, fun e => absurd e (by rw [kU_at, if_pos ⟨rfl, rfl⟩]; omega), fun e => absurd e (by rw [kU_at, if_pos ⟨rfl, rfl⟩]; omega)⟩)
                    · skip
                      refine K_aload_n (pc := 103) (i := 55) rfl rfl ?_
                      refine K_getI (pc := 104) (i := 56) (j := 1) rfl S_184 rfl (by decide) rfl fw_Model_82 ?_
                      refine K_nm (fun v104 e104 => ?_)
                      have r104 := rd_readMany hI
                      rw [← e104] at r104
                      refine K_bipush (pc := 107) (i := 57) rfl rfl ?_
                      first | refine K_icmp_ge 119 (pc := 109) (i := 58) rfl rfl (by omega) (by omega) (fun b109 => ?_) (fun b109 => ?_) | refine K_icmp_ge_an 119 (pc := 109) (i := 58) rfl rfl (fun b109 => ?_) (fun b109 => ?_)
                      · skip
                        refine K_aload_n (pc := 119) (i := 62) rfl rfl ?_
                        refine K_aload_n (pc := 120) (i := 63) rfl rfl ?_
                        refine K_getI (pc := 121) (i := 64) (j := 9) rfl S_184 rfl (by decide) rfl fw_Model_77 ?_
                        refine K_nm (fun v121 e121 => ?_)
                        have r121 := rd_at hI
                        rw [← e121] at r121
                        have e10 : ha 184 10 = -9 := by omega
                        have ra := hV69.2.1.1 e10
                        have eb124 : (ha) 190 = h 190 := fx.cell 190 (fun i => (by first | (dsimp only; omega) | omega))
                        have el124 : (ha) 184 8 = h 184 8 := fx 184 8 (by first | (dsimp only; omega) | omega)
                        have rmA := rd_readMany hI
                        refine K_putI (pc := 124) (i := 65) (j := 10) rfl S_184 rfl (by decide) rfl rfl rfl fw_Model_74 ?_
                        have hI := st_faultAt hI (v := v121) (by omega)
                        have fx := Fx.st (c := 184) (i := 10) (v := v121) fx (by first | (dsimp only; omega) | omega | exact not_false)
                        have d124 : mT (kU ha 184 10 v121) < mT ha := mT_fault (by omega) (by omega)
                        have rs124 : RS (kU ha 184 10 v121) (h 190) (h 184 8) (10 + 8 * (kU ha 184 10 v121) 184 1) := ⟨fun e => absurd e (by rw [kU_at, if_pos ⟨rfl, rfl⟩]; omega), fun _ => by rw [kU_at, if_pos ⟨rfl, rfl⟩]; exact Or.inl ⟨⟨by omega, by omega⟩, fun j a b => ra.2.2 j a (by omega), Or.inl ⟨by omega, fun q => absurd ((mayS_r0 (by omega) (by omega)).1 q) (by rw [e121, u97]; omega)⟩⟩⟩
                        refine K_goto 69 (pc := 127) (i := 66) rfl rfl ?_
                        exact ih69  _ (by omega) hI fx (by first | exact ⟨fk113, rs113, dc113, wd113⟩ | exact ⟨fun e => absurd e (by rw [kU_at, if_pos ⟨rfl, rfl⟩]; omega), rs124, fun e => absurd e (by rw [kU_at, if_pos ⟨rfl, rfl⟩]; omega), fun e => absurd e (by rw [kU_at, if_pos ⟨rfl, rfl⟩]; omega)⟩)
                      · skip
                        refine K_aload_n (pc := 112) (i := 59) rfl rfl ?_
                        have e10 : ha 184 10 = -9 := by omega
                        have ra := hV69.2.1.1 e10
                        have eb113 : (ha) 190 = h 190 := fx.cell 190 (fun i => (by first | (dsimp only; omega) | omega))
                        have el113 : (ha) 184 8 = h 184 8 := fx 184 8 (by first | (dsimp only; omega) | omega)
                        have hr113 : (ha 184 10 = -9 ∧ ha 184 9 = 10 + 8 * ha 184 1 ∧ ha 184 9 < ha 184 8 ∧ ha 190 (ha 184 9).toNat = 75) ∧ (∀ j, 0 ≤ j → j < ha 184 9 → mayS (ha 190) j) ∧ Dec ha (ha 190) (ha 184 1) := ⟨⟨e10, ra.1, by omega, by rw [eb113, u97]; omega⟩, by rw [eb113, ra.1]; exact ra.2.2, by rw [eb113]; exact hV69.2.2.1 e10⟩
                        refine K_cVV (pc := 113) (i := 60) rfl (c_Model_readKite G (hm := by omega) (ha := by omega) (hk := hV69.1 (by omega)) (hr := hr113) (hI := hI)) S_184 rfl (lv_Model_89 rfl) rfl rfl rfl rfl rfl (fun h113 q113 => ?_)
                        obtain ⟨fx113, q113⟩ := q113
                        obtain ⟨hI, rm113, fk113, rs113, dc113⟩ := q113
                        have fx := fx.tr fx113 (fun c i q => (by first | (dsimp only at q ⊢; omega) | omega))
                        have d113 : mT h113 < mT ha := mT_kite (by omega) rm113 (by omega)
                        rw [eb113, el113] at rs113
                        rw [eb113] at dc113
                        have wd113 : h113 184 10 = -9 → ∀ k : Nat, 1 ≤ k → (k : Int) < 10 → h113 186 k = h 190 k - 48 - 3 := fun _ k a b => by rw [fx113.cell 186 (fun i => (by first | (dsimp only; omega) | omega))]; exact hV69.2.2.2 e10 k a b
                        refine K_goto 69 (pc := 116) (i := 61) rfl rfl ?_
                        exact ih69  _ (by omega) hI fx (by first | exact ⟨fk113, rs113, dc113, wd113⟩ | exact ⟨fun e => absurd e (by rw [kU_at, if_pos ⟨rfl, rfl⟩]; omega), rs124, fun e => absurd e (by rw [kU_at, if_pos ⟨rfl, rfl⟩]; omega), fun e => absurd e (by rw [kU_at, if_pos ⟨rfl, rfl⟩]; omega)⟩)
            refine K_drop (lo' := [(0, .ref (G.2.2.2 184))]) [0] rfl ?_
            exact L69 _  _ (Nat.lt_succ_self _) hI fx ⟨fun _ i hi => absurd hi (by rw [hV43.2.1]; omega), by rw [hV43.2.1, show (10 : Int) + 8 * 0 = x1 by omega]; exact hV43.2.2.1, fun _ k hk => absurd hk (by rw [hV43.2.1]; omega), fun e k a b => hV43.2.2.2 e k a (by omega)⟩
          · skip
            refine K_aload_n (pc := 49) (i := 28) rfl rfl ?_
            refine K_getR (pc := 50) (i := 29) (j := 2) (d := 186) rfl S_184 rfl (by decide) rfl fw_Model_13 ?_
            refine K_iload_n (pc := 53) (i := 30) rfl rfl ?_
            refine K_aload_n (pc := 54) (i := 31) rfl rfl ?_
            refine K_bipush (pc := 55) (i := 32) rfl rfl ?_
            have eb57 : (ha) 190 = h 190 := fx.cell 190 (fun i => (by first | (dsimp only; omega) | omega))
            have el57 : (ha) 184 8 = h 184 8 := fx 184 8 (by first | (dsimp only; omega) | omega)
            refine K_cVI (pc := 57) (i := 33) rfl (c_Model_figure G (x1 := 127) (hI := hI)) S_184 rfl (lv_Model_85 rfl) rfl rfl rfl rfl rfl (fun v57 h57 q57 => ?_)
            obtain ⟨fx57, q57⟩ := q57
            obtain ⟨hI, fm57, r57, w57, fg57⟩ := q57
            have fx := fx.tr fx57 (fun c i q => (by first | (dsimp only at q ⊢; omega) | omega))
            have u57 : v57 ≤ 6 := r57.2.2.elim (fun q => by omega) (fun q => (tb_c ⟨r57.1, r57.2.1⟩).2.2.2.2.2 q)
            obtain ⟨rs57, dv57⟩ := RS.fig (p := x1) (q := x1 + 1) hV43.2.2.1 fg57 eb57 el57 (by omega) rfl (fun _ _ => may_tb (mayS_h (by omega) (by omega)) (by omega) (by omega) (fun v a b => by rw [tbc_127 a (by omega)]; omega)) (by omega)
            refine K_iconst (pc := 60) (i := 34) rfl ?_
            refine K_isub (pc := 61) (i := 35) rfl ?_
            refine K_iast (pc := 62) (i := 36) rfl S_186 (by omega) (by omega) (by decide) ?_
            have hI := st_readWind hI (i := (x1).toNat) (v := v57 - 3) (by omega)
            have fx := Fx.st (c := 186) (i := (x1).toNat) (v := v57 - 3) fx (by first | (dsimp only; omega) | omega | exact not_false)
            have t62 : (kU h57 186 ((x1).toNat) (v57 - 3)) 184 1 = 0 := by rw [kU_c _ _ _ _ (show (184 : Nat) ≠ 186 by decide), fm57.2 1 (by decide) (by decide)]; exact hV43.2.1
            have rs62 := RS.st (c := 186) (i := (x1).toNat) (v := v57 - 3) rs57 (by decide)
            have wd62 : (kU h57 186 ((x1).toNat) (v57 - 3)) 184 10 = -9 → ∀ k : Nat, 1 ≤ k → (k : Int) < x1 + 1 → (kU h57 186 ((x1).toNat) (v57 - 3)) 186 k = h 190 k - 48 - 3 := fun e k k0 k1 => by
              rw [kU_c _ _ _ _ (show (184 : Nat) ≠ 186 by decide)] at e
              rw [kU_at]
              by_cases q : k = (x1).toNat
              · rw [if_pos ⟨rfl, q⟩, (dv57 e).2, q]
              · rw [if_neg (by omega), fm57.1 186 (by decide)]
                exact hV43.2.2.2 (dv57 e).1 k k0 (by omega)
            refine K_inc (pc := 63) (i := 37) (q := 1) (lo' := [(0, _), (1, _)]) rfl rfl rfl rfl rfl ?_
            refine K_goto 43 (pc := 66) (i := 38) rfl rfl ?_
            exact ih43 (x1 + 1) _ (by omega) hI fx ⟨by omega, t62, rs62, wd62⟩
      exact L43 _ 1 _ (Nat.lt_succ_self _) hI fx ⟨by omega, by simp [kU], rs38, fun _ k a b => absurd a (by omega)⟩
    · skip
      refine K_iconst (pc := 34) (i := 18) rfl ?_
      exact K_retI (pc := 35) (i := 19) rfl rfl ⟨fx, ⟨hI, by omega, fun e => absurd e (by omega), by first | exact Or.inl ⟨⟨by omega, by omega⟩, fun j a b => absurd a (by omega), Or.inr ⟨by omega, by omega⟩⟩ | exact Or.inl ⟨⟨by omega, by omega⟩, fun j a b => absurd a (by omega), Or.inl ⟨by omega, fun q => absurd ((mayS_0 rfl).1 q) (by omega)⟩⟩, fun e => absurd e (by omega)⟩⟩
set_option maxHeartbeats 4000000 in
set_option maxRecDepth 100000 in
theorem c_Model_fault (G : kG) {g : kGh} {h : kH}  (hI : Gd g h) : Ctr G y_Model_fault X_Model_fault 13 [.ref (G.2.2.2 184)] h (kQi (fun z h' => Fx (fun c i => c = 185 ∨ c = 186 ∨ (c = 184 ∧ (i = 1 ∨ i = 9 ∨ i = 10))) h h' ∧ (Gd g h' ∧ FaultIs (h 190) (h 184 8) z))) := by
  refine Ctr.ofK (by decide) rfl T_Model_fault (Nat.le_of_ble_eq_true rfl) (lo := [(0, .ref (G.2.2.2 184))]) rfl ?_
  have fx : Fx (fun c i => c = 185 ∨ c = 186 ∨ (c = 184 ∧ (i = 1 ∨ i = 9 ∨ i = 10))) h h := Fx.rf
  refine K_aload_n (pc := 0) (i := 0) rfl rfl ?_
  refine K_cVI (pc := 1) (i := 1) rfl (c_Model_readText G (hI := hI)) S_184 rfl (lv_Model_95 rfl) rfl rfl rfl rfl rfl (fun v1 h1 q1 => ?_)
  obtain ⟨fx1, q1⟩ := q1
  obtain ⟨hI, r1, fk1, fa1, dc1⟩ := q1
  have fx := fx.tr fx1 (fun c i q => (by first | (dsimp only at q ⊢; omega) | omega))
  exact K_retI (pc := 4) (i := 2) rfl rfl ⟨fx, ⟨hI, fa1⟩⟩
def WK (h1 h : kH) (n : Nat) : Prop := (∀ j, j < n → h 187 j = h1 185 j) ∧ h 185 = h1 185 ∧ h 191 = h1 191 ∧ h 200 = h1 200 ∧ h 184 4 = h1 184 1
theorem WK.k {h1 h : kH} {n : Nat} {v : Int} (a : WK h1 h n) (hv : v = h 185 n) : WK h1 (kU h 187 n v) (n + 1) := by
  obtain ⟨a1, a2, a3, a4, a5⟩ := a
  refine ⟨fun j hj => ?_, (kU_c _ _ _ _ (by decide)).trans a2, (kU_c _ _ _ _ (by decide)).trans a3, (kU_c _ _ _ _ (by decide)).trans a4, ?_⟩
  · rw [kU_at]
    by_cases e : j = n
    · rw [if_pos ⟨rfl, e⟩, e, hv, a2]
    · rw [if_neg (by omega)]; exact a1 j (by omega)
  · rw [kU_at, if_neg (by omega)]; exact a5
theorem WK.ot {h1 h : kH} {n c i : Nat} {v : Int} (a : WK h1 h n) (hc : c ≠ 185 ∧ c ≠ 187 ∧ c ≠ 191 ∧ c ≠ 200 ∧ ¬ (c = 184 ∧ i = 4)) : WK h1 (kU h c i v) n := by
  obtain ⟨a1, a2, a3, a4, a5⟩ := a
  refine ⟨fun j hj => ?_, (kU_c _ _ _ _ (by omega)).trans a2, (kU_c _ _ _ _ (by omega)).trans a3, (kU_c _ _ _ _ (by omega)).trans a4, ?_⟩
  · rw [kU_c _ _ _ _ (by omega)]; exact a1 j hj
  · rw [kU_at, if_neg (by omega)]; exact a5
theorem WK.ok {h1 h : kH} (a : WK h1 h 40) (hn : h1 184 1 ≤ 8) (hk : FK (h1 185) (h1 184 1)) (b : MOk h1) : MOk h := by
  obtain ⟨a1, a2, a3, a4, a5⟩ := a
  refine ⟨?_, ?_, ?_⟩
  · rw [a5]; exact FK.congr hn a1 hk
  · rw [a3]; exact b.2.1
  · rw [a4]; exact b.2.2
set_option maxHeartbeats 4000000 in
set_option maxRecDepth 100000 in
theorem c_Model_war (G : kG) {g : kGh} {h : kH}  (hI : Gd g h) : Ctr G y_Model_war X_Model_war 13 [.ref (G.2.2.2 184)] h (kQi (fun z h' => Fx (fun c i => c = 185 ∨ c = 186 ∨ (c = 184 ∧ (i = 1 ∨ i = 9 ∨ i = 10)) ∨ (c = 184 ∧ (i = 4 ∨ i = 11)) ∨ c = 187 ∨ c = 188 ∨ c = 189 ∨ c = 199) h h' ∧ (Gd g h' ∧ CMwar h h' z))) := by
  refine Ctr.ofK (by decide) rfl T_Model_war (Nat.le_of_ble_eq_true rfl) (lo := [(0, .ref (G.2.2.2 184))]) rfl ?_
  have fx : Fx (fun c i => c = 185 ∨ c = 186 ∨ (c = 184 ∧ (i = 1 ∨ i = 9 ∨ i = 10)) ∨ (c = 184 ∧ (i = 4 ∨ i = 11)) ∨ c = 187 ∨ c = 188 ∨ c = 189 ∨ c = 199) h h := Fx.rf
  refine K_aload_n (pc := 0) (i := 0) rfl rfl ?_
  refine K_cVI (pc := 1) (i := 1) rfl (c_Model_readText G (hI := hI)) S_184 rfl (lv_Model_95 rfl) rfl rfl rfl rfl rfl (fun v1 h1 q1 => ?_)
  obtain ⟨fx1, q1⟩ := q1
  obtain ⟨hI, r1, fk1, fa1, dc1⟩ := q1
  have fx := fx.tr fx1 (fun c i q => (by first | (dsimp only at q ⊢; omega) | omega))
  refine K_bipush (pc := 4) (i := 2) rfl rfl ?_
  first | refine K_icmp_eq 12 (pc := 6) (i := 3) rfl rfl (by omega) (by omega) (fun b6 => ?_) (fun b6 => ?_) | refine K_icmp_eq_an 12 (pc := 6) (i := 3) rfl rfl (fun b6 => ?_) (fun b6 => ?_)
  · skip
    have hG := hI
    have hI := hI.nf
    have hm1 := rd_readMany hG
    refine K_aload_n (pc := 12) (i := 6) rfl rfl ?_
    refine K_aload_n (pc := 13) (i := 7) rfl rfl ?_
    refine K_getI (pc := 14) (i := 8) (j := 1) rfl S_184 rfl (by decide) rfl fw_Model_82 ?_
    refine K_nm (fun v14 e14 => ?_)
    have r14 := rd_readMany hI
    rw [← e14] at r14
    refine K_putI (pc := 17) (i := 9) (j := 4) rfl S_184 rfl (by decide) rfl rfl rfl fw_Model_59 ?_
    have hI := st_many hI (v := v14) (by omega) (fun e _ => False.elim e)
    have fx := Fx.st (c := 184) (i := 4) (v := v14) fx (by first | (dsimp only; omega) | omega | exact not_false)
    have wk : WK h1 (kU h1 184 4 v14) 0 := ⟨fun j hj => absurd hj (by omega), kU_c _ _ _ _ (by decide), kU_c _ _ _ _ (by decide), kU_c _ _ _ _ (by decide), by rw [kU_at, if_pos ⟨rfl, rfl⟩, e14]⟩
    have w17 : (kU h1 184 4 v14) 186 = h1 186 ∧ (kU h1 184 4 v14) 188 = h1 188 := ⟨kU_c _ _ _ _ (by decide), kU_c _ _ _ _ (by decide)⟩
    refine K_iconst (pc := 20) (i := 10) rfl ?_
    refine K_ist_n (pc := 21) (i := 11) (lo' := [(0, _), (1, _)]) rfl rfl rfl rfl ?_
    have L22 : ∀ (n : Nat) (x1 : Int) (ha : kH), (40 - x1).toNat < n → (Gd (kNf g) ha) → (Fx (fun c i => c = 185 ∨ c = 186 ∨ (c = 184 ∧ (i = 1 ∨ i = 9 ∨ i = 10)) ∨ (c = 184 ∧ (i = 4 ∨ i = 11)) ∨ c = 187 ∨ c = 188 ∨ c = 189 ∨ c = 199) h ha) → ((0 ≤ x1 ∧ x1 ≤ 40) ∧ WK h1 ha x1.toNat ∧ ha 186 = h1 186 ∧ ha 188 = h1 188) → K X_Model_war G (kZm G 13 (kQi (fun z h' => Fx (fun c i => c = 185 ∨ c = 186 ∨ (c = 184 ∧ (i = 1 ∨ i = 9 ∨ i = 10)) ∨ (c = 184 ∧ (i = 4 ∨ i = 11)) ∨ c = 187 ∨ c = 188 ∨ c = 189 ∨ c = 199) h h' ∧ (Gd g h' ∧ CMwar h h' z)))) 22 [(0, .ref (G.2.2.2 184)), (1, kI x1)] [] ha := by
      intro n
      induction n with
      | zero => intro x1 ha hm; exact absurd hm (Nat.not_lt_zero _)
      | succ n ih22 =>
        intro x1 ha hm22 hI fx hV22
        refine K_iload_n (pc := 22) (i := 12) rfl rfl ?_
        refine K_bipush (pc := 23) (i := 13) rfl rfl ?_
        first | refine K_icmp_ge 46 (pc := 25) (i := 14) rfl rfl (by omega) (by omega) (fun b25 => ?_) (fun b25 => ?_) | refine K_icmp_ge_an 46 (pc := 25) (i := 14) rfl rfl (fun b25 => ?_) (fun b25 => ?_)
        · skip
          refine K_iconst (pc := 46) (i := 25) rfl ?_
          refine K_ist_n (pc := 47) (i := 26) (lo' := [(0, _), (1, _)]) rfl rfl rfl rfl ?_
          have L48 : ∀ (n : Nat) (x1b : Int) (hb : kH), (10 - x1b).toNat < n → (Gd (kNf g) hb) → (Fx (fun c i => c = 185 ∨ c = 186 ∨ (c = 184 ∧ (i = 1 ∨ i = 9 ∨ i = 10)) ∨ (c = 184 ∧ (i = 4 ∨ i = 11)) ∨ c = 187 ∨ c = 188 ∨ c = 189 ∨ c = 199) h hb) → ((1 ≤ x1b ∧ x1b ≤ 10) ∧ WK h1 hb 40 ∧ hb 186 = h1 186 ∧ (∀ k : Nat, hb 188 k = if 1 ≤ k ∧ (k : Int) < x1b then h1 186 k else h1 188 k)) → K X_Model_war G (kZm G 13 (kQi (fun z h' => Fx (fun c i => c = 185 ∨ c = 186 ∨ (c = 184 ∧ (i = 1 ∨ i = 9 ∨ i = 10)) ∨ (c = 184 ∧ (i = 4 ∨ i = 11)) ∨ c = 187 ∨ c = 188 ∨ c = 189 ∨ c = 199) h h' ∧ (Gd g h' ∧ CMwar h h' z)))) 48 [(0, .ref (G.2.2.2 184)), (1, kI x1b)] [] hb := by
            intro n
            induction n with
            | zero => intro x1b hb hm; exact absurd hm (Nat.not_lt_zero _)
            | succ n ih48 =>
              intro x1b hb hm48 hI fx hV48
              have wk := hV48.2.1
              refine K_iload_n (pc := 48) (i := 27) rfl rfl ?_
              refine K_bipush (pc := 49) (i := 28) rfl rfl ?_
              first | refine K_icmp_ge 72 (pc := 51) (i := 29) rfl rfl (by omega) (by omega) (fun b51 => ?_) (fun b51 => ?_) | refine K_icmp_ge_an 72 (pc := 51) (i := 29) rfl rfl (fun b51 => ?_) (fun b51 => ?_)
              · skip
                have ww := hV48.2.2
                refine K_aload_n (pc := 72) (i := 40) rfl rfl ?_
                refine K_getR (pc := 73) (i := 41) (j := 6) (d := 189) rfl S_184 rfl (by decide) rfl fw_Model_22 ?_
                refine K_iconst (pc := 76) (i := 42) rfl ?_
                refine K_iconst (pc := 77) (i := 43) rfl ?_
                refine K_iast (pc := 78) (i := 44) rfl S_189 (by omega) (by omega) (by decide) ?_
                have hI := st_free (c := 189) hI (by decide +kernel) (by decide) (i := (0 : Int).toNat) (v := 0)
                have fx := Fx.st (c := 189) (i := (0 : Int).toNat) (v := 0) fx (by first | (dsimp only; omega) | omega | exact not_false)
                have wk := WK.ot (c := 189) (i := (0 : Int).toNat) (v := 0) wk (by omega)
                refine K_aload_n (pc := 79) (i := 45) rfl rfl ?_
                refine K_getR (pc := 80) (i := 46) (j := 6) (d := 189) rfl S_184 rfl (by decide) rfl fw_Model_22 ?_
                refine K_iconst (pc := 83) (i := 47) rfl ?_
                refine K_iconst (pc := 84) (i := 48) rfl ?_
                refine K_iast (pc := 85) (i := 49) rfl S_189 (by omega) (by omega) (by decide) ?_
                have hI := st_free (c := 189) hI (by decide +kernel) (by decide) (i := (1 : Int).toNat) (v := 0)
                have fx := Fx.st (c := 189) (i := (1 : Int).toNat) (v := 0) fx (by first | (dsimp only; omega) | omega | exact not_false)
                have wk := WK.ot (c := 189) (i := (1 : Int).toNat) (v := 0) wk (by omega)
                refine K_aload_n (pc := 86) (i := 50) rfl rfl ?_
                refine K_iconst (pc := 87) (i := 51) rfl ?_
                refine K_putI (pc := 88) (i := 52) (j := 11) rfl S_184 rfl (by decide) rfl rfl rfl fw_Model_99 ?_
                have hI := st_macts hI (v := 0) (by omega)
                have fx := Fx.st (c := 184) (i := 11) (v := 0) fx (by first | (dsimp only; omega) | omega | exact not_false)
                have wk := WK.ot (c := 184) (i := 11) (v := 0) wk (by omega)
                refine K_aload_n (pc := 91) (i := 53) rfl rfl ?_
                refine K_getR (pc := 92) (i := 54) (j := 24) (d := 199) rfl S_184 rfl (by decide) rfl fw_Model_53 ?_
                refine K_iconst (pc := 95) (i := 55) rfl ?_
                refine K_iconst (pc := 96) (i := 56) rfl ?_
                refine K_bast (pc := 97) (i := 57) rfl S_199 (by omega) (by omega) (by decide) (by omega) ?_
                have hI := st_isKept hI (i := (0 : Int).toNat) (v := 0) (by omega)
                have fx := Fx.st (c := 199) (i := (0 : Int).toNat) (v := 0) fx (by first | (dsimp only; omega) | omega | exact not_false)
                have wk := WK.ot (c := 199) (i := (0 : Int).toNat) (v := 0) wk (by omega)
                refine K_aload_n (pc := 98) (i := 58) rfl rfl ?_
                refine K_getR (pc := 99) (i := 59) (j := 24) (d := 199) rfl S_184 rfl (by decide) rfl fw_Model_53 ?_
                refine K_iconst (pc := 102) (i := 60) rfl ?_
                refine K_iconst (pc := 103) (i := 61) rfl ?_
                refine K_bast (pc := 104) (i := 62) rfl S_199 (by omega) (by omega) (by decide) (by omega) ?_
                have hI := st_isKept hI (i := (1 : Int).toNat) (v := 0) (by omega)
                have fx := Fx.st (c := 199) (i := (1 : Int).toNat) (v := 0) fx (by first | (dsimp only; omega) | omega | exact not_false)
                have wk := WK.ot (c := 199) (i := (1 : Int).toNat) (v := 0) wk (by omega)
                refine K_aload_n (pc := 105) (i := 63) rfl rfl ?_
                refine K_getI (pc := 106) (i := 64) (j := 4) rfl S_184 rfl (by decide) rfl fw_Model_59 ?_
                refine K_nm (fun v106 e106 => ?_)
                have r106 := rd_many hI
                rw [← e106] at r106
                exact K_retI (pc := 109) (i := 65) rfl rfl ⟨fx, ⟨Gd.fn hI (fun e => wk.ok hm1.2 (fk1 b6) (hG.2.2.2.2.2 e)), v1, fa1, Or.inr ⟨by omega, e106, by rw [wk.2.2.2.2]; exact (dc1 b6).2.1, fun k hk9 => by rw [wk.2.2.2.2] at hk9; rw [wk.1 _ (by omega), wk.1 _ (by omega), wk.1 _ (by omega), wk.1 _ (by omega), wk.1 _ (by omega)]; exact (dc1 b6).1 k hk9,
       ⟨fun k a b => by simp only [kU_c _ _ _ _ (show (188 : Nat) ≠ 199 by decide), kU_c _ _ _ _ (show (188 : Nat) ≠ 184 by decide), kU_c _ _ _ _ (show (188 : Nat) ≠ 189 by decide)]; rw [ww.2 k, if_pos (by omega)]; exact (dc1 b6).2.2 k a (by omega), by simp only [kU_c _ _ _ _ (show (188 : Nat) ≠ 199 by decide), kU_c _ _ _ _ (show (188 : Nat) ≠ 184 by decide), kU_c _ _ _ _ (show (188 : Nat) ≠ 189 by decide)]; rw [ww.2 0, if_neg (by omega), fx1.cell 188 (fun i => (by first | (dsimp only; omega) | omega))]⟩,
       ⟨by simp [kU], by simp [kU]⟩, by simp [kU], by simp [kU], by simp [kU]⟩⟩⟩
              · skip
                refine K_aload_n (pc := 54) (i := 30) rfl rfl ?_
                refine K_getR (pc := 55) (i := 31) (j := 5) (d := 188) rfl S_184 rfl (by decide) rfl fw_Model_19 ?_
                refine K_iload_n (pc := 58) (i := 32) rfl rfl ?_
                refine K_aload_n (pc := 59) (i := 33) rfl rfl ?_
                refine K_getR (pc := 60) (i := 34) (j := 2) (d := 186) rfl S_184 rfl (by decide) rfl fw_Model_13 ?_
                refine K_iload_n (pc := 63) (i := 35) rfl rfl ?_
                refine K_iald (pc := 64) (i := 36) rfl S_186 (by omega) (by omega) (by decide) ?_
                refine K_nm (fun v64 e64 => ?_)
                have r64 := rd_readWind hI (x1b).toNat
                rw [← e64] at r64
                refine K_iast (pc := 65) (i := 37) rfl S_188 (by omega) (by omega) (by decide) ?_
                have hI := st_mwinds hI (i := (x1b).toNat) (v := v64) (by omega)
                have fx := Fx.st (c := 188) (i := (x1b).toNat) (v := v64) fx (by first | (dsimp only; omega) | omega | exact not_false)
                have wk := WK.ot (c := 188) (i := (x1b).toNat) (v := v64) wk (by omega)
                have ww65 : (kU hb 188 ((x1b).toNat) v64) 186 = h1 186 ∧ (∀ k : Nat, (kU hb 188 ((x1b).toNat) v64) 188 k = if 1 ≤ k ∧ (k : Int) < (x1b + 1) then h1 186 k else h1 188 k) := ⟨(kU_c _ _ _ _ (by decide)).trans hV48.2.2.1, fun k => by rw [kU_s]; by_cases q : k = x1b.toNat; (rw [if_pos q, if_pos (by omega), e64, hV48.2.2.1, q]); (rw [if_neg q, hV48.2.2.2 k]; by_cases q2 : 1 ≤ k ∧ (k : Int) < x1b; (rw [if_pos q2, if_pos (by omega)]); (rw [if_neg q2, if_neg (by omega)]))⟩
                refine K_inc (pc := 66) (i := 38) (q := 1) (lo' := [(0, _), (1, _)]) rfl rfl rfl rfl rfl ?_
                refine K_goto 48 (pc := 69) (i := 39) rfl rfl ?_
                exact ih48 (x1b + 1) _ (by omega) hI fx ⟨by omega, wk, ww65⟩
          exact L48 _ 1 _ (Nat.lt_succ_self _) hI fx ⟨by omega, (show x1.toNat = 40 by omega) ▸ hV22.2.1, hV22.2.2.1, fun k => by rw [if_neg (by omega), hV22.2.2.2]⟩
        · skip
          refine K_aload_n (pc := 28) (i := 15) rfl rfl ?_
          refine K_getR (pc := 29) (i := 16) (j := 3) (d := 187) rfl S_184 rfl (by decide) rfl fw_Model_16 ?_
          refine K_iload_n (pc := 32) (i := 17) rfl rfl ?_
          refine K_aload_n (pc := 33) (i := 18) rfl rfl ?_
          refine K_getR (pc := 34) (i := 19) (j := 0) (d := 185) rfl S_184 rfl (by decide) rfl fw_Model_7 ?_
          refine K_iload_n (pc := 37) (i := 20) rfl rfl ?_
          refine K_iald (pc := 38) (i := 21) rfl S_185 (by omega) (by omega) (by decide) ?_
          refine K_nm (fun v38 e38 => ?_)
          have r38 := rd_readKites hI (x1).toNat
          rw [← e38] at r38
          refine K_iast (pc := 39) (i := 22) rfl S_187 (by omega) (by omega) (by decide) ?_
          have hI := st_mkites hI (i := (x1).toNat) (v := v38) (bK_of r38 (by omega)) (fun e _ => False.elim e)
          have fx := Fx.st (c := 187) (i := (x1).toNat) (v := v38) fx (by first | (dsimp only; omega) | omega | exact not_false)
          have wk39 := WK.k hV22.2.1 e38
          rw [show (x1).toNat + 1 = (x1 + 1).toNat by omega] at wk39
          refine K_inc (pc := 40) (i := 23) (q := 1) (lo' := [(0, _), (1, _)]) rfl rfl rfl rfl rfl ?_
          refine K_goto 22 (pc := 43) (i := 24) rfl rfl ?_
          exact ih22 (x1 + 1) _ (by omega) hI fx ⟨by omega, wk39, (kU_c _ _ _ _ (by decide)).trans hV22.2.2.1, (kU_c _ _ _ _ (by decide)).trans hV22.2.2.2⟩
    exact L22 _ 0 _ (Nat.lt_succ_self _) hI fx ⟨by omega, wk, w17⟩
  · skip
    refine K_bipush (pc := 9) (i := 4) rfl rfl ?_
    exact K_retI (pc := 11) (i := 5) rfl rfl ⟨fx, ⟨hI, v1, fa1, Or.inl ⟨by omega, rfl, ⟨fx1.cell 187 (fun i => (by first | (dsimp only; omega) | omega)), fx1.cell 188 (fun i => (by first | (dsimp only; omega) | omega)), fx1.cell 189 (fun i => (by first | (dsimp only; omega) | omega)), fx1.cell 199 (fun i => (by first | (dsimp only; omega) | omega))⟩, fx1 184 4 (by first | (dsimp only; omega) | omega | exact not_false), fx1 184 11 (by first | (dsimp only; omega) | omega | exact not_false)⟩⟩⟩
