section
def mT (h : kH) : Nat := (2 * (8 - h 184 1)).toNat + (if h 184 10 = -9 then 1 else 0)
theorem mT_fault {h : kH} {v : Int} (h0 : h 184 10 = -9) (hv : v ≠ -9) : mT (kU h 184 10 v) < mT h := by
  have e1 : kU h 184 10 v 184 1 = h 184 1 := by rw [kU_at, if_neg (by omega)]
  have e2 : kU h 184 10 v 184 10 = v := by rw [kU_at, if_pos ⟨rfl, rfl⟩]
  unfold mT
  rw [e1, e2, if_pos h0, if_neg hv]
  omega
theorem mT_kite {h h' : kH} (h0 : h 184 10 = -9) (e : h' 184 1 = h 184 1 + 1) (hr : h 184 1 ≤ 7) : mT h' < mT h := by
  unfold mT
  rw [if_pos h0, e]
  split <;> omega
set_option maxHeartbeats 4000000 in
set_option maxRecDepth 100000 in
theorem c_Model_readText (G : kG) {g : kGh} {h : kH}  (hI : Gd g h) : Ctr G y_Model_readText X_Model_readText 4 [.ref (G.2.2.2 184)] h (kQi (fun z h' => Fx (fun c i => c = 185 ∨ c = 186 ∨ (c = 184 ∧ (i = 1 ∨ i = 9 ∨ i = 10))) h h' ∧ (Gd g h' ∧ (-9 ≤ z ∧ z ≤ 74) ∧ (z = -9 → FK (h' 185) (h' 184 1)) ∧ FaultIs (h 190) (h 184 8) z ∧ (z = -9 → Dec h' (h 190) (h' 184 1) ∧ 10 + 8 * h' 184 1 = h 184 8 ∧ ∀ k : Nat, 1 ≤ k → (k : Int) < 10 → h' 186 k = h 190 k - 48 - 3)))) := by
  refine Ctr.ofK (by decide) rfl T_Model_readText (Nat.le_of_ble_eq_true rfl) (lo := [(0, .ref (G.2.2.2 184))]) rfl ?_
  have fx : Fx (fun c i => c = 185 ∨ c = 186 ∨ (c = 184 ∧ (i = 1 ∨ i = 9 ∨ i = 10))) h h := Fx.rf
  refine K_aload_n (pc := 0) (i := 0) rfl rfl ?_
  refine K_iconst (pc := 1) (i := 1) rfl ?_
  refine K_putI (pc := 2) (i := 2) (j := 9) rfl S_184 rfl (by decide) rfl rfl rfl fw_Model_77 ?_
  have hI := st_at hI (v := 0) (by omega)
  have fx := Fx.st (c := 184) (i := 9) (v := 0) fx (by first | (dsimp only; omega) | omega | exact not_false)
  refine K_aload_n (pc := 5) (i := 3) rfl rfl ?_
  refine K_bipush (pc := 6) (i := 4) rfl rfl ?_
  refine K_putI (pc := 8) (i := 5) (j := 10) rfl S_184 rfl (by decide) rfl rfl rfl fw_Model_74 ?_
  have hI := st_faultAt hI (v := -9) (by omega)
  have fx := Fx.st (c := 184) (i := 10) (v := -9) fx (by first | (dsimp only; omega) | omega | exact not_false)
  refine K_aload_n (pc := 11) (i := 6) rfl rfl ?_
  refine K_iconst (pc := 12) (i := 7) rfl ?_
  refine K_putI (pc := 13) (i := 8) (j := 1) rfl S_184 rfl (by decide) rfl rfl rfl fw_Model_82 ?_
  have hI := st_readMany hI (v := 0) (by omega)
  have fx := Fx.st (c := 184) (i := 1) (v := 0) fx (by first | (dsimp only; omega) | omega | exact not_false)
  refine K_aload_n (pc := 16) (i := 9) rfl rfl ?_
  refine K_getI (pc := 17) (i := 10) (j := 8) rfl S_184 rfl (by decide) rfl fw_Model_69 ?_
  refine K_nm (fun v17 e17 => ?_)
  have r17 := rd_mlength hI
  rw [← e17] at r17
  have u17 : v17 = h 184 8 := by rw [e17]; simp [kU]
  first | refine K_if_eq 34 (pc := 20) (i := 11) rfl rfl (by omega) (fun b20 => ?_) (fun b20 => ?_) | refine K_if_eq_an 34 (pc := 20) (i := 11) rfl rfl (fun b20 => ?_) (fun b20 => ?_)
  · skip
    refine K_iconst (pc := 34) (i := 18) rfl ?_
    exact K_retI (pc := 35) (i := 19) rfl rfl ⟨fx, ⟨hI, by omega, fun e => absurd e (by omega), by first | exact Or.inl ⟨⟨by omega, by omega⟩, fun j a b => absurd a (by omega), Or.inr ⟨by omega, by omega⟩⟩ | exact Or.inl ⟨⟨by omega, by omega⟩, fun j a b => absurd a (by omega), Or.inl ⟨by omega, fun q => absurd ((mayS_0 rfl).1 q) (by omega)⟩⟩, fun e => absurd e (by omega)⟩⟩
  · skip
    refine K_aload_n (pc := 23) (i := 12) rfl rfl ?_
    refine K_getR (pc := 24) (i := 13) (j := 7) (d := 190) rfl S_184 rfl (by decide) rfl fw_Model_25 ?_
    refine K_iconst (pc := 27) (i := 14) rfl ?_
    refine K_iald (pc := 28) (i := 15) rfl S_190 (by omega) (by omega) (by decide) ?_
    refine K_nm (fun v28 e28 => ?_)
    have r28 := rd_mtext hI (0 : Int).toNat
    rw [← e28] at r28
    have u28 : h 190 (0 : Int).toNat = v28 := by rw [e28]; simp [kU]
    refine K_bipush (pc := 29) (i := 16) rfl rfl ?_
    first | refine K_icmp_eq 36 (pc := 31) (i := 17) rfl rfl (by omega) (by omega) (fun b31 => ?_) (fun b31 => ?_) | refine K_icmp_eq_an 36 (pc := 31) (i := 17) rfl rfl (fun b31 => ?_) (fun b31 => ?_)
    · skip
      refine K_aload_n (pc := 36) (i := 20) rfl rfl ?_
      refine K_iconst (pc := 37) (i := 21) rfl ?_
      refine K_putI (pc := 38) (i := 22) (j := 9) rfl S_184 rfl (by decide) rfl rfl rfl fw_Model_77 ?_
      have hI := st_at hI (v := 1) (by omega)
      have fx := Fx.st (c := 184) (i := 9) (v := 1) fx (by first | (dsimp only; omega) | omega | exact not_false)
      have rs38 : RS (kU (kU (kU (kU h 184 9 0) 184 10 (-9)) 184 1 0) 184 9 1) (h 190) (h 184 8) 1 := ⟨fun _ => ⟨by rw [kU_at, if_pos ⟨rfl, rfl⟩], by omega, fun j a b => (mayS_0 (by omega)).2 (by rw [show j = 0 by omega]; omega)⟩, fun e => absurd (show (kU (kU (kU (kU h 184 9 0) 184 10 (-9)) 184 1 0) 184 9 1) 184 10 = -9 by simp [kU]) e⟩
      refine K_iconst (pc := 41) (i := 23) rfl ?_
      refine K_ist_n (pc := 42) (i := 24) (lo' := [(0, _), (1, _)]) rfl rfl rfl rfl ?_
      have L43 : ∀ (n : Nat) (x1 : Int) (ha : kH), (10 - x1).toNat < n → (Gd g ha) → (Fx (fun c i => c = 185 ∨ c = 186 ∨ (c = 184 ∧ (i = 1 ∨ i = 9 ∨ i = 10))) h ha) → ((1 ≤ x1 ∧ x1 ≤ 10) ∧ ha 184 1 = 0 ∧ RS ha (h 190) (h 184 8) x1 ∧ (ha 184 10 = -9 → ∀ k : Nat, 1 ≤ k → (k : Int) < x1 → ha 186 k = h 190 k - 48 - 3)) → K X_Model_readText G (kZm G 4 (kQi (fun z h' => Fx (fun c i => c = 185 ∨ c = 186 ∨ (c = 184 ∧ (i = 1 ∨ i = 9 ∨ i = 10))) h h' ∧ (Gd g h' ∧ (-9 ≤ z ∧ z ≤ 74) ∧ (z = -9 → FK (h' 185) (h' 184 1)) ∧ FaultIs (h 190) (h 184 8) z ∧ (z = -9 → Dec h' (h 190) (h' 184 1) ∧ 10 + 8 * h' 184 1 = h 184 8 ∧ ∀ k : Nat, 1 ≤ k → (k : Int) < 10 → h' 186 k = h 190 k - 48 - 3))))) 43 [(0, .ref (G.2.2.2 184)), (1, kI x1)] [] ha := by
        intro n
        induction n with
        | zero => intro x1 ha hm; exact absurd hm (Nat.not_lt_zero _)
        | succ n ih43 =>
          intro x1 ha hm43 hI fx hV43
          refine K_iload_n (pc := 43) (i := 25) rfl rfl ?_
          refine K_bipush (pc := 44) (i := 26) rfl rfl ?_
          first | refine K_icmp_ge 69 (pc := 46) (i := 27) rfl rfl (by omega) (by omega) (fun b46 => ?_) (fun b46 => ?_) | refine K_icmp_ge_an 69 (pc := 46) (i := 27) rfl rfl (fun b46 => ?_) (fun b46 => ?_)
          · skip
            have L69 : ∀ (n : Nat) (ha : kH), mT ha < n → (Gd g ha) → (Fx (fun c i => c = 185 ∨ c = 186 ∨ (c = 184 ∧ (i = 1 ∨ i = 9 ∨ i = 10))) h ha) → ((ha 184 10 = -9 → FK (ha 185) (ha 184 1)) ∧ RS ha (h 190) (h 184 8) (10 + 8 * ha 184 1) ∧ (ha 184 10 = -9 → Dec ha (h 190) (ha 184 1)) ∧ (ha 184 10 = -9 → ∀ k : Nat, 1 ≤ k → (k : Int) < 10 → ha 186 k = h 190 k - 48 - 3)) → K X_Model_readText G (kZm G 4 (kQi (fun z h' => Fx (fun c i => c = 185 ∨ c = 186 ∨ (c = 184 ∧ (i = 1 ∨ i = 9 ∨ i = 10))) h h' ∧ (Gd g h' ∧ (-9 ≤ z ∧ z ≤ 74) ∧ (z = -9 → FK (h' 185) (h' 184 1)) ∧ FaultIs (h 190) (h 184 8) z ∧ (z = -9 → Dec h' (h 190) (h' 184 1) ∧ 10 + 8 * h' 184 1 = h 184 8 ∧ ∀ k : Nat, 1 ≤ k → (k : Int) < 10 → h' 186 k = h 190 k - 48 - 3))))) 69 [(0, .ref (G.2.2.2 184))] [] ha := by
              intro n
              induction n with
              | zero => intro  ha hm; exact absurd hm (Nat.not_lt_zero _)
              | succ n ih69 =>
                intro  ha hm69 hI fx hV69
                refine K_aload_n (pc := 69) (i := 39) rfl rfl ?_
                refine K_getI (pc := 70) (i := 40) (j := 10) rfl S_184 rfl (by decide) rfl fw_Model_74 ?_
                refine K_nm (fun v70 e70 => ?_)
                have r70 := rd_faultAt hI
                rw [← e70] at r70
                refine K_bipush (pc := 73) (i := 41) rfl rfl ?_
                first | refine K_icmp_ne 130 (pc := 75) (i := 42) rfl rfl (by omega) (by omega) (fun b75 => ?_) (fun b75 => ?_) | refine K_icmp_ne_an 130 (pc := 75) (i := 42) rfl rfl (fun b75 => ?_) (fun b75 => ?_)
                · skip
                  have eb130 : (ha) 190 = h 190 := fx.cell 190 (fun i => (by first | (dsimp only; omega) | omega))
                  have el130 : (ha) 184 8 = h 184 8 := fx 184 8 (by first | (dsimp only; omega) | omega)
                  have rmA := rd_readMany hI
                  refine K_aload_n (pc := 130) (i := 67) rfl rfl ?_
                  refine K_getI (pc := 131) (i := 68) (j := 10) rfl S_184 rfl (by decide) rfl fw_Model_74 ?_
                  refine K_nm (fun v131 e131 => ?_)
                  have r131 := rd_faultAt hI
                  rw [← e131] at r131
                  exact K_retI (pc := 134) (i := 69) rfl rfl ⟨fx, ⟨hI, by omega, fun e => hV69.1 (by omega), by first | (rw [e131]; exact hV69.2.1.2 (by omega)) | (have ra := hV69.2.1.1 (by omega); exact Or.inr ⟨by omega, fun j a b => ra.2.2 j a (by omega), by omega, by omega⟩), fun e => by first | exact absurd e (by omega) | (have ra := hV69.2.1.1 (by omega); exact ⟨hV69.2.2.1 (by omega), by omega, hV69.2.2.2 (by omega)⟩)⟩⟩
                · skip
                  refine K_aload_n (pc := 78) (i := 43) rfl rfl ?_
                  refine K_getI (pc := 79) (i := 44) (j := 9) rfl S_184 rfl (by decide) rfl fw_Model_77 ?_
                  refine K_nm (fun v79 e79 => ?_)
                  have r79 := rd_at hI
                  rw [← e79] at r79
                  refine K_aload_n (pc := 82) (i := 45) rfl rfl ?_
                  refine K_getI (pc := 83) (i := 46) (j := 8) rfl S_184 rfl (by decide) rfl fw_Model_69 ?_
                  refine K_nm (fun v83 e83 => ?_)
                  have r83 := rd_mlength hI
                  rw [← e83] at r83
                  first | refine K_icmp_ge 130 (pc := 86) (i := 47) rfl rfl (by omega) (by omega) (fun b86 => ?_) (fun b86 => ?_) | refine K_icmp_ge_an 130 (pc := 86) (i := 47) rfl rfl (fun b86 => ?_) (fun b86 => ?_)
                  · skip
                    have eb130 : (ha) 190 = h 190 := fx.cell 190 (fun i => (by first | (dsimp only; omega) | omega))
                    have el130 : (ha) 184 8 = h 184 8 := fx 184 8 (by first | (dsimp only; omega) | omega)
                    have rmA := rd_readMany hI
                    refine K_aload_n (pc := 130) (i := 67) rfl rfl ?_
                    refine K_getI (pc := 131) (i := 68) (j := 10) rfl S_184 rfl (by decide) rfl fw_Model_74 ?_
                    refine K_nm (fun v131 e131 => ?_)
                    have r131 := rd_faultAt hI
                    rw [← e131] at r131
                    exact K_retI (pc := 134) (i := 69) rfl rfl ⟨fx, ⟨hI, by omega, fun e => hV69.1 (by omega), by first | (rw [e131]; exact hV69.2.1.2 (by omega)) | (have ra := hV69.2.1.1 (by omega); exact Or.inr ⟨by omega, fun j a b => ra.2.2 j a (by omega), by omega, by omega⟩), fun e => by first | exact absurd e (by omega) | (have ra := hV69.2.1.1 (by omega); exact ⟨hV69.2.2.1 (by omega), by omega, hV69.2.2.2 (by omega)⟩)⟩⟩
                  · skip
                    refine K_aload_n (pc := 89) (i := 48) rfl rfl ?_
                    refine K_getR (pc := 90) (i := 49) (j := 7) (d := 190) rfl S_184 rfl (by decide) rfl fw_Model_25 ?_
                    refine K_aload_n (pc := 93) (i := 50) rfl rfl ?_
                    refine K_getI (pc := 94) (i := 51) (j := 9) rfl S_184 rfl (by decide) rfl fw_Model_77 ?_
                    refine K_nm (fun v94 e94 => ?_)
                    have r94 := rd_at hI
                    rw [← e94] at r94
                    have t94 : v94 = v79 := by rw [e94, e79]; try simp [kU]
                    have eb97 : (ha) 190 = h 190 := fx.cell 190 (fun i => (by first | (dsimp only; omega) | omega))
                    refine K_iald (pc := 97) (i := 52) rfl S_190 (by omega) (by omega) (by decide) ?_
                    refine K_nm (fun v97 e97 => ?_)
                    have r97 := rd_mtext hI (v94).toNat
                    rw [← e97] at r97
                    have u97 : h 190 (ha 184 9).toNat = v97 := by rw [← eb97, e97, e94]
                    refine K_bipush (pc := 98) (i := 53) rfl rfl ?_
                    first | refine K_icmp_ne 119 (pc := 100) (i := 54) rfl rfl (by omega) (by omega) (fun b100 => ?_) (fun b100 => ?_) | refine K_icmp_ne_an 119 (pc := 100) (i := 54) rfl rfl (fun b100 => ?_) (fun b100 => ?_)
                    · skip
                      refine K_aload_n (pc := 119) (i := 62) rfl rfl ?_
                      refine K_aload_n (pc := 120) (i := 63) rfl rfl ?_
                      refine K_getI (pc := 121) (i := 64) (j := 9) rfl S_184 rfl (by decide) rfl fw_Model_77 ?_
                      refine K_nm (fun v121 e121 => ?_)
                      have r121 := rd_at hI
                      rw [← e121] at r121
                      have e10 : ha 184 10 = -9 := by omega
                      have ra := hV69.2.1.1 e10
                      have eb124 : (ha) 190 = h 190 := fx.cell 190 (fun i => (by first | (dsimp only; omega) | omega))
                      have el124 : (ha) 184 8 = h 184 8 := fx 184 8 (by first | (dsimp only; omega) | omega)
                      have rmA := rd_readMany hI
                      refine K_putI (pc := 124) (i := 65) (j := 10) rfl S_184 rfl (by decide) rfl rfl rfl fw_Model_74 ?_
                      have hI := st_faultAt hI (v := v121) (by omega)
                      have fx := Fx.st (c := 184) (i := 10) (v := v121) fx (by first | (dsimp only; omega) | omega | exact not_false)
                      have d124 : mT (kU ha 184 10 v121) < mT ha := mT_fault (by omega) (by omega)
                      have rs124 : RS (kU ha 184 10 v121) (h 190) (h 184 8) (10 + 8 * (kU ha 184 10 v121) 184 1) := ⟨fun e => absurd e (by rw [kU_at, if_pos ⟨rfl, rfl⟩]; omega), fun _ => by rw [kU_at, if_pos ⟨rfl, rfl⟩]; exact Or.inl ⟨⟨by omega, by omega⟩, fun j a b => ra.2.2 j a (by omega), Or.inl ⟨by omega, fun q => absurd ((mayS_r0 (by omega) (by omega)).1 q) (by rw [e121, u97]; omega)⟩⟩⟩
                      refine K_goto 69 (pc := 127) (i := 66) rfl rfl ?_
                      exact ih69  _ (by omega) hI fx (by first | exact ⟨fk113, rs113, dc113, wd113⟩ | exact ⟨fun e => absurd e (by rw [kU_at, if_pos ⟨rfl, rfl⟩]; omega), rs124, fun e => absurd e (by rw [kU_at, if_pos ⟨rfl, rfl⟩]; omega), fun e => absurd e (by rw [kU_at, if_pos ⟨rfl, rfl⟩]; omega)⟩)
                    · skip
                      refine K_aload_n (pc := 103) (i := 55) rfl rfl ?_
                      refine K_getI (pc := 104) (i := 56) (j := 1) rfl S_184 rfl (by decide) rfl fw_Model_82 ?_
                      refine K_nm (fun v104 e104 => ?_)
                      have r104 := rd_readMany hI
                      rw [← e104] at r104
                      refine K_bipush (pc := 107) (i := 57) rfl rfl ?_
                      first | refine K_icmp_ge 119 (pc := 109) (i := 58) rfl rfl (by omega) (by omega) (fun b109 => ?_) (fun b109 => ?_) | refine K_icmp_ge_an 119 (pc := 109) (i := 58) rfl rfl (fun b109 => ?_) (fun b109 => ?_)
                      · skip
                        refine K_aload_n (pc := 119) (i := 62) rfl rfl ?_
                        refine K_aload_n (pc := 120) (i := 63) rfl rfl ?_
                        refine K_getI (pc := 121) (i := 64) (j := 9) rfl S_184 rfl (by decide) rfl fw_Model_77 ?_
                        refine K_nm (fun v121 e121 => ?_)
                        have r121 := rd_at hI
                        rw [← e121] at r121
                        have e10 : ha 184 10 = -9 := by omega
                        have ra := hV69.2.1.1 e10
                        have eb124 : (ha) 190 = h 190 := fx.cell 190 (fun i => (by first | (dsimp only; omega) | omega))
                        have el124 : (ha) 184 8 = h 184 8 := fx 184 8 (by first | (dsimp only; omega) | omega)
                        have rmA := rd_readMany hI
                        refine K_putI (pc := 124) (i := 65) (j := 10) rfl S_184 rfl (by decide) rfl rfl rfl fw_Model_74 ?_
                        have hI := st_faultAt hI (v := v121) (by omega)
                        have fx := Fx.st (c := 184) (i := 10) (v := v121) fx (by first | (dsimp only; omega) | omega | exact not_false)
                        have d124 : mT (kU ha 184 10 v121) < mT ha := mT_fault (by omega) (by omega)
                        have rs124 : RS (kU ha 184 10 v121) (h 190) (h 184 8) (10 + 8 * (kU ha 184 10 v121) 184 1) := ⟨fun e => absurd e (by rw [kU_at, if_pos ⟨rfl, rfl⟩]; omega), fun _ => by rw [kU_at, if_pos ⟨rfl, rfl⟩]; exact Or.inl ⟨⟨by omega, by omega⟩, fun j a b => ra.2.2 j a (by omega), Or.inl ⟨by omega, fun q => absurd ((mayS_r0 (by omega) (by omega)).1 q) (by rw [e121, u97]; omega)⟩⟩⟩
                        refine K_goto 69 (pc := 127) (i := 66) rfl rfl ?_
                        exact ih69  _ (by omega) hI fx (by first | exact ⟨fk113, rs113, dc113, wd113⟩ | exact ⟨fun e => absurd e (by rw [kU_at, if_pos ⟨rfl, rfl⟩]; omega), rs124, fun e => absurd e (by rw [kU_at, if_pos ⟨rfl, rfl⟩]; omega), fun e => absurd e (by rw [kU_at, if_pos ⟨rfl, rfl⟩]; omega)⟩)
                      · skip
                        refine K_aload_n (pc := 112) (i := 59) rfl rfl ?_
                        have e10 : ha 184 10 = -9 := by omega
                        have ra := hV69.2.1.1 e10
                        have eb113 : (ha) 190 = h 190 := fx.cell 190 (fun i => (by first | (dsimp only; omega) | omega))
                        have el113 : (ha) 184 8 = h 184 8 := fx 184 8 (by first | (dsimp only; omega) | omega)
                        have hr113 : (ha 184 10 = -9 ∧ ha 184 9 = 10 + 8 * ha 184 1 ∧ ha 184 9 < ha 184 8 ∧ ha 190 (ha 184 9).toNat = 75) ∧ (∀ j, 0 ≤ j → j < ha 184 9 → mayS (ha 190) j) ∧ Dec ha (ha 190) (ha 184 1) := ⟨⟨e10, ra.1, by omega, by rw [eb113, u97]; omega⟩, by rw [eb113, ra.1]; exact ra.2.2, by rw [eb113]; exact hV69.2.2.1 e10⟩
                        refine K_cVV (pc := 113) (i := 60) rfl (c_Model_readKite G (hm := by omega) (ha := by omega) (hk := hV69.1 (by omega)) (hr := hr113) (hI := hI)) S_184 rfl (lv_Model_89 rfl) rfl rfl rfl rfl rfl (fun h113 q113 => ?_)
                        obtain ⟨fx113, q113⟩ := q113
                        obtain ⟨hI, rm113, fk113, rs113, dc113⟩ := q113
                        have fx := fx.tr fx113 (fun c i q => (by first | (dsimp only at q ⊢; omega) | omega))
                        have d113 : mT h113 < mT ha := mT_kite (by omega) rm113 (by omega)
                        rw [eb113, el113] at rs113
                        rw [eb113] at dc113
                        have wd113 : h113 184 10 = -9 → ∀ k : Nat, 1 ≤ k → (k : Int) < 10 → h113 186 k = h 190 k - 48 - 3 := fun _ k a b => by rw [fx113.cell 186 (fun i => (by first | (dsimp only; omega) | omega))]; exact hV69.2.2.2 e10 k a b
                        refine K_goto 69 (pc := 116) (i := 61) rfl rfl ?_
                        exact ih69  _ (by omega) hI fx (by first | exact ⟨fk113, rs113, dc113, wd113⟩ | exact ⟨fun e => absurd e (by rw [kU_at, if_pos ⟨rfl, rfl⟩]; omega), rs124, fun e => absurd e (by rw [kU_at, if_pos ⟨rfl, rfl⟩]; omega), fun e => absurd e (by rw [kU_at, if_pos ⟨rfl, rfl⟩]; omega)⟩)
            refine K_drop (lo' := [(0, .ref (G.2.2.2 184))]) [0] rfl ?_
            exact L69 _  _ (Nat.lt_succ_self _) hI fx ⟨fun _ i hi => absurd hi (by rw [hV43.2.1]; omega), by rw [hV43.2.1, show (10 : Int) + 8 * 0 = x1 by omega]; exact hV43.2.2.1, fun _ k hk => absurd hk (by rw [hV43.2.1]; omega), fun e k a b => hV43.2.2.2 e k a (by omega)⟩
          · skip
            refine K_aload_n (pc := 49) (i := 28) rfl rfl ?_
            refine K_getR (pc := 50) (i := 29) (j := 2) (d := 186) rfl S_184 rfl (by decide) rfl fw_Model_13 ?_
            refine K_iload_n (pc := 53) (i := 30) rfl rfl ?_
            refine K_aload_n (pc := 54) (i := 31) rfl rfl ?_
            refine K_bipush (pc := 55) (i := 32) rfl rfl ?_
            have eb57 : (ha) 190 = h 190 := fx.cell 190 (fun i => (by first | (dsimp only; omega) | omega))
            have el57 : (ha) 184 8 = h 184 8 := fx 184 8 (by first | (dsimp only; omega) | omega)
            refine K_cVI (pc := 57) (i := 33) rfl (c_Model_figure G (x1 := 127) (hI := hI)) S_184 rfl (lv_Model_85 rfl) rfl rfl rfl rfl rfl (fun v57 h57 q57 => ?_)
            obtain ⟨fx57, q57⟩ := q57
            obtain ⟨hI, fm57, r57, w57, fg57⟩ := q57
            have fx := fx.tr fx57 (fun c i q => (by first | (dsimp only at q ⊢; omega) | omega))
            have u57 : v57 ≤ 6 := r57.2.2.elim (fun q => by omega) (fun q => (tb_c ⟨r57.1, r57.2.1⟩).2.2.2.2.2 q)
            obtain ⟨rs57, dv57⟩ := RS.fig (p := x1) (q := x1 + 1) hV43.2.2.1 fg57 eb57 el57 (by omega) rfl (fun _ _ => may_tb (mayS_h (by omega) (by omega)) (by omega) (by omega) (fun v a b => by rw [tbc_127 a (by omega)]; omega)) (by omega)
            refine K_iconst (pc := 60) (i := 34) rfl ?_
            refine K_isub (pc := 61) (i := 35) rfl ?_
            refine K_iast (pc := 62) (i := 36) rfl S_186 (by omega) (by omega) (by decide) ?_
            have hI := st_readWind hI (i := (x1).toNat) (v := v57 - 3) (by omega)
            have fx := Fx.st (c := 186) (i := (x1).toNat) (v := v57 - 3) fx (by first | (dsimp only; omega) | omega | exact not_false)
            have t62 : (kU h57 186 ((x1).toNat) (v57 - 3)) 184 1 = 0 := by rw [kU_c _ _ _ _ (show (184 : Nat) ≠ 186 by decide), fm57.2 1 (by decide) (by decide)]; exact hV43.2.1
            have rs62 := RS.st (c := 186) (i := (x1).toNat) (v := v57 - 3) rs57 (by decide)
            have wd62 : (kU h57 186 ((x1).toNat) (v57 - 3)) 184 10 = -9 → ∀ k : Nat, 1 ≤ k → (k : Int) < x1 + 1 → (kU h57 186 ((x1).toNat) (v57 - 3)) 186 k = h 190 k - 48 - 3 := fun e k k0 k1 => by
              rw [kU_c _ _ _ _ (show (184 : Nat) ≠ 186 by decide)] at e
              rw [kU_at]
              by_cases q : k = (x1).toNat
              · rw [if_pos ⟨rfl, q⟩, (dv57 e).2, q]
              · rw [if_neg (by omega), fm57.1 186 (by decide)]
                exact hV43.2.2.2 (dv57 e).1 k k0 (by omega)
            refine K_inc (pc := 63) (i := 37) (q := 1) (lo' := [(0, _), (1, _)]) rfl rfl rfl rfl rfl ?_
            refine K_goto 43 (pc := 66) (i := 38) rfl rfl ?_
            exact ih43 (x1 + 1) _ (by omega) hI fx ⟨by omega, t62, rs62, wd62⟩
      exact L43 _ 1 _ (Nat.lt_succ_self _) hI fx ⟨by omega, by simp [kU], rs38, fun _ k a b => absurd a (by omega)⟩
    · skip
      refine K_iconst (pc := 34) (i := 18) rfl ?_
      exact K_retI (pc := 35) (i := 19) rfl rfl ⟨fx, ⟨hI, by omega, fun e => absurd e (by omega), by first | exact Or.inl ⟨⟨by omega, by omega⟩, fun j a b => absurd a (by omega), Or.inr ⟨by omega, by omega⟩⟩ | exact Or.inl ⟨⟨by omega, by omega⟩, fun j a b => absurd a (by omega), Or.inl ⟨by omega, fun q => absurd ((mayS_0 rfl).1 q) (by omega)⟩⟩, fun e => absurd e (by omega)⟩⟩
set_option maxHeartbeats 4000000 in
set_option maxRecDepth 100000 in
theorem c_Model_fault (G : kG) {g : kGh} {h : kH}  (hI : Gd g h) : Ctr G y_Model_fault X_Model_fault 13 [.ref (G.2.2.2 184)] h (kQi (fun z h' => Fx (fun c i => c = 185 ∨ c = 186 ∨ (c = 184 ∧ (i = 1 ∨ i = 9 ∨ i = 10))) h h' ∧ (Gd g h' ∧ FaultIs (h 190) (h 184 8) z))) := by
  refine Ctr.ofK (by decide) rfl T_Model_fault (Nat.le_of_ble_eq_true rfl) (lo := [(0, .ref (G.2.2.2 184))]) rfl ?_
  have fx : Fx (fun c i => c = 185 ∨ c = 186 ∨ (c = 184 ∧ (i = 1 ∨ i = 9 ∨ i = 10))) h h := Fx.rf
  refine K_aload_n (pc := 0) (i := 0) rfl rfl ?_
  refine K_cVI (pc := 1) (i := 1) rfl (c_Model_readText G (hI := hI)) S_184 rfl (lv_Model_95 rfl) rfl rfl rfl rfl rfl (fun v1 h1 q1 => ?_)
  obtain ⟨fx1, q1⟩ := q1
  obtain ⟨hI, r1, fk1, fa1, dc1⟩ := q1
  have fx := fx.tr fx1 (fun c i q => (by first | (dsimp only at q ⊢; omega) | omega))
  exact K_retI (pc := 4) (i := 2) rfl rfl ⟨fx, ⟨hI, fa1⟩⟩
def WK (h1 h : kH) (n : Nat) : Prop := (∀ j, j < n → h 187 j = h1 185 j) ∧ h 185 = h1 185 ∧ h 191 = h1 191 ∧ h 200 = h1 200 ∧ h 184 4 = h1 184 1
theorem WK.k {h1 h : kH} {n : Nat} {v : Int} (a : WK h1 h n) (hv : v = h 185 n) : WK h1 (kU h 187 n v) (n + 1) := by
  obtain ⟨a1, a2, a3, a4, a5⟩ := a
  refine ⟨fun j hj => ?_, (kU_c _ _ _ _ (by decide)).trans a2, (kU_c _ _ _ _ (by decide)).trans a3, (kU_c _ _ _ _ (by decide)).trans a4, ?_⟩
  · rw [kU_at]
    by_cases e : j = n
    · rw [if_pos ⟨rfl, e⟩, e, hv, a2]
    · rw [if_neg (by omega)]; exact a1 j (by omega)
  · rw [kU_at, if_neg (by omega)]; exact a5
theorem WK.ot {h1 h : kH} {n c i : Nat} {v : Int} (a : WK h1 h n) (hc : c ≠ 185 ∧ c ≠ 187 ∧ c ≠ 191 ∧ c ≠ 200 ∧ ¬ (c = 184 ∧ i = 4)) : WK h1 (kU h c i v) n := by
  obtain ⟨a1, a2, a3, a4, a5⟩ := a
  refine ⟨fun j hj => ?_, (kU_c _ _ _ _ (by omega)).trans a2, (kU_c _ _ _ _ (by omega)).trans a3, (kU_c _ _ _ _ (by omega)).trans a4, ?_⟩
  · rw [kU_c _ _ _ _ (by omega)]; exact a1 j hj
  · rw [kU_at, if_neg (by omega)]; exact a5
theorem WK.ok {h1 h : kH} (a : WK h1 h 40) (hn : h1 184 1 ≤ 8) (hk : FK (h1 185) (h1 184 1)) (b : MOk h1) : MOk h := by
  obtain ⟨a1, a2, a3, a4, a5⟩ := a
  refine ⟨?_, ?_, ?_⟩
  · rw [a5]; exact FK.congr hn a1 hk
  · rw [a3]; exact b.2.1
  · rw [a4]; exact b.2.2
set_option maxHeartbeats 4000000 in
set_option maxRecDepth 100000 in
theorem c_Model_war (G : kG) {g : kGh} {h : kH}  (hI : Gd g h) : Ctr G y_Model_war X_Model_war 13 [.ref (G.2.2.2 184)] h (kQi (fun z h' => Fx (fun c i => c = 185 ∨ c = 186 ∨ (c = 184 ∧ (i = 1 ∨ i = 9 ∨ i = 10)) ∨ (c = 184 ∧ (i = 4 ∨ i = 11)) ∨ c = 187 ∨ c = 188 ∨ c = 189 ∨ c = 199) h h' ∧ (Gd g h' ∧ CMwar h h' z))) := by
  refine Ctr.ofK (by decide) rfl T_Model_war (Nat.le_of_ble_eq_true rfl) (lo := [(0, .ref (G.2.2.2 184))]) rfl ?_
  have fx : Fx (fun c i => c = 185 ∨ c = 186 ∨ (c = 184 ∧ (i = 1 ∨ i = 9 ∨ i = 10)) ∨ (c = 184 ∧ (i = 4 ∨ i = 11)) ∨ c = 187 ∨ c = 188 ∨ c = 189 ∨ c = 199) h h := Fx.rf
  refine K_aload_n (pc := 0) (i := 0) rfl rfl ?_
  refine K_cVI (pc := 1) (i := 1) rfl (c_Model_readText G (hI := hI)) S_184 rfl (lv_Model_95 rfl) rfl rfl rfl rfl rfl (fun v1 h1 q1 => ?_)
  obtain ⟨fx1, q1⟩ := q1
  obtain ⟨hI, r1, fk1, fa1, dc1⟩ := q1
  have fx := fx.tr fx1 (fun c i q => (by first | (dsimp only at q ⊢; omega) | omega))
  refine K_bipush (pc := 4) (i := 2) rfl rfl ?_
  first | refine K_icmp_eq 12 (pc := 6) (i := 3) rfl rfl (by omega) (by omega) (fun b6 => ?_) (fun b6 => ?_) | refine K_icmp_eq_an 12 (pc := 6) (i := 3) rfl rfl (fun b6 => ?_) (fun b6 => ?_)
  · skip
    have hG := hI
    have hI := hI.nf
    have hm1 := rd_readMany hG
    refine K_aload_n (pc := 12) (i := 6) rfl rfl ?_
    refine K_aload_n (pc := 13) (i := 7) rfl rfl ?_
    refine K_getI (pc := 14) (i := 8) (j := 1) rfl S_184 rfl (by decide) rfl fw_Model_82 ?_
    refine K_nm (fun v14 e14 => ?_)
    have r14 := rd_readMany hI
    rw [← e14] at r14
    refine K_putI (pc := 17) (i := 9) (j := 4) rfl S_184 rfl (by decide) rfl rfl rfl fw_Model_59 ?_
    have hI := st_many hI (v := v14) (by omega) (fun e _ => False.elim e)
    have fx := Fx.st (c := 184) (i := 4) (v := v14) fx (by first | (dsimp only; omega) | omega | exact not_false)
    have wk : WK h1 (kU h1 184 4 v14) 0 := ⟨fun j hj => absurd hj (by omega), kU_c _ _ _ _ (by decide), kU_c _ _ _ _ (by decide), kU_c _ _ _ _ (by decide), by rw [kU_at, if_pos ⟨rfl, rfl⟩, e14]⟩
    have w17 : (kU h1 184 4 v14) 186 = h1 186 ∧ (kU h1 184 4 v14) 188 = h1 188 := ⟨kU_c _ _ _ _ (by decide), kU_c _ _ _ _ (by decide)⟩
    refine K_iconst (pc := 20) (i := 10) rfl ?_
    refine K_ist_n (pc := 21) (i := 11) (lo' := [(0, _), (1, _)]) rfl rfl rfl rfl ?_
    have L22 : ∀ (n : Nat) (x1 : Int) (ha : kH), (40 - x1).toNat < n → (Gd (kNf g) ha) → (Fx (fun c i => c = 185 ∨ c = 186 ∨ (c = 184 ∧ (i = 1 ∨ i = 9 ∨ i = 10)) ∨ (c = 184 ∧ (i = 4 ∨ i = 11)) ∨ c = 187 ∨ c = 188 ∨ c = 189 ∨ c = 199) h ha) → ((0 ≤ x1 ∧ x1 ≤ 40) ∧ WK h1 ha x1.toNat ∧ ha 186 = h1 186 ∧ ha 188 = h1 188) → K X_Model_war G (kZm G 13 (kQi (fun z h' => Fx (fun c i => c = 185 ∨ c = 186 ∨ (c = 184 ∧ (i = 1 ∨ i = 9 ∨ i = 10)) ∨ (c = 184 ∧ (i = 4 ∨ i = 11)) ∨ c = 187 ∨ c = 188 ∨ c = 189 ∨ c = 199) h h' ∧ (Gd g h' ∧ CMwar h h' z)))) 22 [(0, .ref (G.2.2.2 184)), (1, kI x1)] [] ha := by
      intro n
      induction n with
      | zero => intro x1 ha hm; exact absurd hm (Nat.not_lt_zero _)
      | succ n ih22 =>
        intro x1 ha hm22 hI fx hV22
        refine K_iload_n (pc := 22) (i := 12) rfl rfl ?_
        refine K_bipush (pc := 23) (i := 13) rfl rfl ?_
        first | refine K_icmp_ge 46 (pc := 25) (i := 14) rfl rfl (by omega) (by omega) (fun b25 => ?_) (fun b25 => ?_) | refine K_icmp_ge_an 46 (pc := 25) (i := 14) rfl rfl (fun b25 => ?_) (fun b25 => ?_)
        · skip
          refine K_iconst (pc := 46) (i := 25) rfl ?_
          refine K_ist_n (pc := 47) (i := 26) (lo' := [(0, _), (1, _)]) rfl rfl rfl rfl ?_
          have L48 : ∀ (n : Nat) (x1b : Int) (hb : kH), (10 - x1b).toNat < n → (Gd (kNf g) hb) → (Fx (fun c i => c = 185 ∨ c = 186 ∨ (c = 184 ∧ (i = 1 ∨ i = 9 ∨ i = 10)) ∨ (c = 184 ∧ (i = 4 ∨ i = 11)) ∨ c = 187 ∨ c = 188 ∨ c = 189 ∨ c = 199) h hb) → ((1 ≤ x1b ∧ x1b ≤ 10) ∧ WK h1 hb 40 ∧ hb 186 = h1 186 ∧ (∀ k : Nat, hb 188 k = if 1 ≤ k ∧ (k : Int) < x1b then h1 186 k else h1 188 k)) → K X_Model_war G (kZm G 13 (kQi (fun z h' => Fx (fun c i => c = 185 ∨ c = 186 ∨ (c = 184 ∧ (i = 1 ∨ i = 9 ∨ i = 10)) ∨ (c = 184 ∧ (i = 4 ∨ i = 11)) ∨ c = 187 ∨ c = 188 ∨ c = 189 ∨ c = 199) h h' ∧ (Gd g h' ∧ CMwar h h' z)))) 48 [(0, .ref (G.2.2.2 184)), (1, kI x1b)] [] hb := by
            intro n
            induction n with
            | zero => intro x1b hb hm; exact absurd hm (Nat.not_lt_zero _)
            | succ n ih48 =>
              intro x1b hb hm48 hI fx hV48
              have wk := hV48.2.1
              refine K_iload_n (pc := 48) (i := 27) rfl rfl ?_
              refine K_bipush (pc := 49) (i := 28) rfl rfl ?_
              first | refine K_icmp_ge 72 (pc := 51) (i := 29) rfl rfl (by omega) (by omega) (fun b51 => ?_) (fun b51 => ?_) | refine K_icmp_ge_an 72 (pc := 51) (i := 29) rfl rfl (fun b51 => ?_) (fun b51 => ?_)
              · skip
                have ww := hV48.2.2
                refine K_aload_n (pc := 72) (i := 40) rfl rfl ?_
                refine K_getR (pc := 73) (i := 41) (j := 6) (d := 189) rfl S_184 rfl (by decide) rfl fw_Model_22 ?_
                refine K_iconst (pc := 76) (i := 42) rfl ?_
                refine K_iconst (pc := 77) (i := 43) rfl ?_
                refine K_iast (pc := 78) (i := 44) rfl S_189 (by omega) (by omega) (by decide) ?_
                have hI := st_free (c := 189) hI (by decide +kernel) (by decide) (i := (0 : Int).toNat) (v := 0)
                have fx := Fx.st (c := 189) (i := (0 : Int).toNat) (v := 0) fx (by first | (dsimp only; omega) | omega | exact not_false)
                have wk := WK.ot (c := 189) (i := (0 : Int).toNat) (v := 0) wk (by omega)
                refine K_aload_n (pc := 79) (i := 45) rfl rfl ?_
                refine K_getR (pc := 80) (i := 46) (j := 6) (d := 189) rfl S_184 rfl (by decide) rfl fw_Model_22 ?_
                refine K_iconst (pc := 83) (i := 47) rfl ?_
                refine K_iconst (pc := 84) (i := 48) rfl ?_
                refine K_iast (pc := 85) (i := 49) rfl S_189 (by omega) (by omega) (by decide) ?_
                have hI := st_free (c := 189) hI (by decide +kernel) (by decide) (i := (1 : Int).toNat) (v := 0)
                have fx := Fx.st (c := 189) (i := (1 : Int).toNat) (v := 0) fx (by first | (dsimp only; omega) | omega | exact not_false)
                have wk := WK.ot (c := 189) (i := (1 : Int).toNat) (v := 0) wk (by omega)
                refine K_aload_n (pc := 86) (i := 50) rfl rfl ?_
                refine K_iconst (pc := 87) (i := 51) rfl ?_
                refine K_putI (pc := 88) (i := 52) (j := 11) rfl S_184 rfl (by decide) rfl rfl rfl fw_Model_99 ?_
                have hI := st_macts hI (v := 0) (by omega)
                have fx := Fx.st (c := 184) (i := 11) (v := 0) fx (by first | (dsimp only; omega) | omega | exact not_false)
                have wk := WK.ot (c := 184) (i := 11) (v := 0) wk (by omega)
                refine K_aload_n (pc := 91) (i := 53) rfl rfl ?_
                refine K_getR (pc := 92) (i := 54) (j := 24) (d := 199) rfl S_184 rfl (by decide) rfl fw_Model_53 ?_
                refine K_iconst (pc := 95) (i := 55) rfl ?_
                refine K_iconst (pc := 96) (i := 56) rfl ?_
                refine K_bast (pc := 97) (i := 57) rfl S_199 (by omega) (by omega) (by decide) (by omega) ?_
                have hI := st_isKept hI (i := (0 : Int).toNat) (v := 0) (by omega)
                have fx := Fx.st (c := 199) (i := (0 : Int).toNat) (v := 0) fx (by first | (dsimp only; omega) | omega | exact not_false)
                have wk := WK.ot (c := 199) (i := (0 : Int).toNat) (v := 0) wk (by omega)
                refine K_aload_n (pc := 98) (i := 58) rfl rfl ?_
                refine K_getR (pc := 99) (i := 59) (j := 24) (d := 199) rfl S_184 rfl (by decide) rfl fw_Model_53 ?_
                refine K_iconst (pc := 102) (i := 60) rfl ?_
                refine K_iconst (pc := 103) (i := 61) rfl ?_
                refine K_bast (pc := 104) (i := 62) rfl S_199 (by omega) (by omega) (by decide) (by omega) ?_
                have hI := st_isKept hI (i := (1 : Int).toNat) (v := 0) (by omega)
                have fx := Fx.st (c := 199) (i := (1 : Int).toNat) (v := 0) fx (by first | (dsimp only; omega) | omega | exact not_false)
                have wk := WK.ot (c := 199) (i := (1 : Int).toNat) (v := 0) wk (by omega)
                refine K_aload_n (pc := 105) (i := 63) rfl rfl ?_
                refine K_getI (pc := 106) (i := 64) (j := 4) rfl S_184 rfl (by decide) rfl fw_Model_59 ?_
                refine K_nm (fun v106 e106 => ?_)
                have r106 := rd_many hI
                rw [← e106] at r106
                exact K_retI (pc := 109) (i := 65) rfl rfl ⟨fx, ⟨Gd.fn hI (fun e => wk.ok hm1.2 (fk1 b6) (hG.2.2.2.2.2 e)), v1, fa1, Or.inr ⟨by omega, e106, by rw [wk.2.2.2.2]; exact (dc1 b6).2.1, fun k hk9 => by rw [wk.2.2.2.2] at hk9; rw [wk.1 _ (by omega), wk.1 _ (by omega), wk.1 _ (by omega), wk.1 _ (by omega), wk.1 _ (by omega)]; exact (dc1 b6).1 k hk9,
       ⟨fun k a b => by simp only [kU_c _ _ _ _ (show (188 : Nat) ≠ 199 by decide), kU_c _ _ _ _ (show (188 : Nat) ≠ 184 by decide), kU_c _ _ _ _ (show (188 : Nat) ≠ 189 by decide)]; rw [ww.2 k, if_pos (by omega)]; exact (dc1 b6).2.2 k a (by omega), by simp only [kU_c _ _ _ _ (show (188 : Nat) ≠ 199 by decide), kU_c _ _ _ _ (show (188 : Nat) ≠ 184 by decide), kU_c _ _ _ _ (show (188 : Nat) ≠ 189 by decide)]; rw [ww.2 0, if_neg (by omega), fx1.cell 188 (fun i => (by first | (dsimp only; omega) | omega))]⟩,
       ⟨by simp [kU], by simp [kU]⟩, by simp [kU], by simp [kU], by simp [kU]⟩⟩⟩
              · skip
                refine K_aload_n (pc := 54) (i := 30) rfl rfl ?_
                refine K_getR (pc := 55) (i := 31) (j := 5) (d := 188) rfl S_184 rfl (by decide) rfl fw_Model_19 ?_
                refine K_iload_n (pc := 58) (i := 32) rfl rfl ?_
                refine K_aload_n (pc := 59) (i := 33) rfl rfl ?_
                refine K_getR (pc := 60) (i := 34) (j := 2) (d := 186) rfl S_184 rfl (by decide) rfl fw_Model_13 ?_
                refine K_iload_n (pc := 63) (i := 35) rfl rfl ?_
                refine K_iald (pc := 64) (i := 36) rfl S_186 (by omega) (by omega) (by decide) ?_
                refine K_nm (fun v64 e64 => ?_)
                have r64 := rd_readWind hI (x1b).toNat
                rw [← e64] at r64
                refine K_iast (pc := 65) (i := 37) rfl S_188 (by omega) (by omega) (by decide) ?_
                have hI := st_mwinds hI (i := (x1b).toNat) (v := v64) (by omega)
                have fx := Fx.st (c := 188) (i := (x1b).toNat) (v := v64) fx (by first | (dsimp only; omega) | omega | exact not_false)
                have wk := WK.ot (c := 188) (i := (x1b).toNat) (v := v64) wk (by omega)
                have ww65 : (kU hb 188 ((x1b).toNat) v64) 186 = h1 186 ∧ (∀ k : Nat, (kU hb 188 ((x1b).toNat) v64) 188 k = if 1 ≤ k ∧ (k : Int) < (x1b + 1) then h1 186 k else h1 188 k) := ⟨(kU_c _ _ _ _ (by decide)).trans hV48.2.2.1, fun k => by rw [kU_s]; by_cases q : k = x1b.toNat; (rw [if_pos q, if_pos (by omega), e64, hV48.2.2.1, q]); (rw [if_neg q, hV48.2.2.2 k]; by_cases q2 : 1 ≤ k ∧ (k : Int) < x1b; (rw [if_pos q2, if_pos (by omega)]); (rw [if_neg q2, if_neg (by omega)]))⟩
                refine K_inc (pc := 66) (i := 38) (q := 1) (lo' := [(0, _), (1, _)]) rfl rfl rfl rfl rfl ?_
                refine K_goto 48 (pc := 69) (i := 39) rfl rfl ?_
                exact ih48 (x1b + 1) _ (by omega) hI fx ⟨by omega, wk, ww65⟩
          exact L48 _ 1 _ (Nat.lt_succ_self _) hI fx ⟨by omega, (show x1.toNat = 40 by omega) ▸ hV22.2.1, hV22.2.2.1, fun k => by rw [if_neg (by omega), hV22.2.2.2]⟩
        · skip
          refine K_aload_n (pc := 28) (i := 15) rfl rfl ?_
          refine K_getR (pc := 29) (i := 16) (j := 3) (d := 187) rfl S_184 rfl (by decide) rfl fw_Model_16 ?_
          refine K_iload_n (pc := 32) (i := 17) rfl rfl ?_
          refine K_aload_n (pc := 33) (i := 18) rfl rfl ?_
          refine K_getR (pc := 34) (i := 19) (j := 0) (d := 185) rfl S_184 rfl (by decide) rfl fw_Model_7 ?_
          refine K_iload_n (pc := 37) (i := 20) rfl rfl ?_
          refine K_iald (pc := 38) (i := 21) rfl S_185 (by omega) (by omega) (by decide) ?_
          refine K_nm (fun v38 e38 => ?_)
          have r38 := rd_readKites hI (x1).toNat
          rw [← e38] at r38
          refine K_iast (pc := 39) (i := 22) rfl S_187 (by omega) (by omega) (by decide) ?_
          have hI := st_mkites hI (i := (x1).toNat) (v := v38) (bK_of r38 (by omega)) (fun e _ => False.elim e)
          have fx := Fx.st (c := 187) (i := (x1).toNat) (v := v38) fx (by first | (dsimp only; omega) | omega | exact not_false)
          have wk39 := WK.k hV22.2.1 e38
          rw [show (x1).toNat + 1 = (x1 + 1).toNat by omega] at wk39
          refine K_inc (pc := 40) (i := 23) (q := 1) (lo' := [(0, _), (1, _)]) rfl rfl rfl rfl rfl ?_
          refine K_goto 22 (pc := 43) (i := 24) rfl rfl ?_
          exact ih22 (x1 + 1) _ (by omega) hI fx ⟨by omega, wk39, (kU_c _ _ _ _ (by decide)).trans hV22.2.2.1, (kU_c _ _ _ _ (by decide)).trans hV22.2.2.2⟩
    exact L22 _ 0 _ (Nat.lt_succ_self _) hI fx ⟨by omega, wk, w17⟩
  · skip
    refine K_bipush (pc := 9) (i := 4) rfl rfl ?_
    exact K_retI (pc := 11) (i := 5) rfl rfl ⟨fx, ⟨hI, v1, fa1, Or.inl ⟨by omega, rfl, ⟨fx1.cell 187 (fun i => (by first | (dsimp only; omega) | omega)), fx1.cell 188 (fun i => (by first | (dsimp only; omega) | omega)), fx1.cell 189 (fun i => (by first | (dsimp only; omega) | omega)), fx1.cell 199 (fun i => (by first | (dsimp only; omega) | omega))⟩, fx1 184 4 (by first | (dsimp only; omega) | omega | exact not_false), fx1 184 11 (by first | (dsimp only; omega) | omega | exact not_false)⟩⟩⟩
end
section
/-- the row of acts takes the fleet -/
def RW (h ha : kH) (r n : Nat) : Prop := (∀ j, j < n → ha 191 (43 * r + j) = h 187 j) ∧ (∀ i, i < 43 * r ∨ 43 * r + 43 ≤ i → ha 191 i = h 191 i) ∧ ∀ c, c ≠ 191 → ha c = h c
theorem RW.k {h ha : kH} {r n i : Nat} {v : Int} (a : RW h ha r n) (hn : n < 40) (hi : i = 43 * r + n) (hv : v = ha 187 n) : RW h (kU ha 191 i v) r (n + 1) := by
  subst hi
  refine ⟨fun j hj => ?_, fun i hi => ?_, fun c hc => (kU_c _ _ _ _ hc).trans (a.2.2 c hc)⟩
  · rw [kU_at]
    by_cases e : j = n
    · rw [if_pos ⟨rfl, by omega⟩, e, hv, a.2.2 187 (by decide)]
    · rw [if_neg (by omega)]; exact a.1 j (by omega)
  · rw [kU_at, if_neg (by omega)]; exact a.2.1 i hi
theorem RW.ot {h ha : kH} {r i : Nat} {v : Int} (a : RW h ha r 40) (hi : 43 * r + 40 ≤ i ∧ i < 43 * r + 43) : RW h (kU ha 191 i v) r 40 := by
  refine ⟨fun j hj => ?_, fun q hq => ?_, fun c hc => (kU_c _ _ _ _ hc).trans (a.2.2 c hc)⟩
  · rw [kU_at, if_neg (by omega)]; exact a.1 j hj
  · rw [kU_at, if_neg (by omega)]; exact a.2.1 q hq
def KA (h h' : kH) : Prop := (∀ c, c ≠ 191 → c ≠ 184 → h' c = h c) ∧ ∀ i, i ≠ 11 → i ≠ 12 → h' 184 i = h 184 i
theorem RW.ka {h ha : kH} {r : Nat} {x y : Int} (a : RW h ha r 40) : KA h (kU (kU ha 184 12 x) 184 11 y) := by
  refine ⟨fun c h1 h2 => (kU_c _ _ _ _ h2).trans ((kU_c _ _ _ _ h2).trans (a.2.2 c h1)), fun i h1 h2 => ?_⟩
  rw [kU_at, if_neg (by omega), kU_at, if_neg (by omega), a.2.2 184 (by decide)]
theorem RW.ok {g : kGh} {h ha : kH} {r : Nat} {x y : Int} (hI : Gd g h) (a : RW h ha r 40) (hm : ha 191 (43 * r + 40) = h 184 4) (b : MOk h) : MOk (kU (kU ha 184 12 x) 184 11 y) := by
  have e : ∀ c, c ≠ 184 → kU (kU ha 184 12 x) 184 11 y c = ha c := fun c hc => (kU_c _ _ _ _ hc).trans (kU_c _ _ _ _ hc)
  have e4 : kU (kU ha 184 12 x) 184 11 y 184 4 = h 184 4 := by rw [kU_at, if_neg (by omega), kU_at, if_neg (by omega), a.2.2 184 (by decide)]
  unfold MOk
  rw [e 187 (by decide), e 191 (by decide), e 200 (by decide), e4, a.2.2 187 (by decide), a.2.2 200 (by decide)]
  refine ⟨b.1, fun q hq => ?_, b.2.2⟩
  by_cases hqr : q = r
  · subst hqr
    rw [hm]
    exact FK.congr (rd_many hI).2 (fun j hj => a.1 j hj) b.1
  · have e5 : ha 191 (43 * q + 40) = h 191 (43 * q + 40) := a.2.1 _ (by omega)
    rw [e5]
    have hb := (rd_row hI (43 * q + 40)).2 (by omega)
    exact FK.congr hb.2 (fun j hj => a.2.1 _ (by omega)) (b.2.1 q hq)
set_option maxHeartbeats 4000000 in
set_option maxRecDepth 100000 in
theorem c_Model_keepAct (G : kG) {g : kGh} {h : kH}  (hI : Gd g h) : Ctr G y_Model_keepAct X_Model_keepAct 1 [.ref (G.2.2.2 184)] h (kQv (fun h' => Fx (fun c i => c = 191 ∨ (c = 184 ∧ (i = 11 ∨ i = 12))) h h' ∧ (Gd g h' ∧ MR h h'))) := by
  refine Ctr.ofK (by decide) rfl T_Model_keepAct (Nat.le_of_ble_eq_true rfl) (lo := [(0, .ref (G.2.2.2 184))]) rfl ?_
  have fx : Fx (fun c i => c = 191 ∨ (c = 184 ∧ (i = 11 ∨ i = 12))) h h := Fx.rf
  obtain ⟨r, er⟩ : ∃ r : Nat, h 184 12 = r := Int.eq_ofNat_of_zero_le (rd_mnext hI).1
  have hr16 := (rd_mnext hI).2
  have hG := hI
  have hI := hI.nf
  have hac := rd_macts hG
  refine K_iconst (pc := 0) (i := 0) rfl ?_
  refine K_ist_n (pc := 1) (i := 1) (lo' := [(0, _), (1, _)]) rfl rfl rfl rfl ?_
  have L2 : ∀ (n : Nat) (x1 : Int) (ha : kH), (40 - x1).toNat < n → (Gd (kNf g) ha) → (Fx (fun c i => c = 191 ∨ (c = 184 ∧ (i = 11 ∨ i = 12))) h ha) → ((0 ≤ x1 ∧ x1 ≤ 40) ∧ RW h ha r x1.toNat) → K X_Model_keepAct G (kZm G 1 (kQv (fun h' => Fx (fun c i => c = 191 ∨ (c = 184 ∧ (i = 11 ∨ i = 12))) h h' ∧ (Gd g h' ∧ MR h h')))) 2 [(0, .ref (G.2.2.2 184)), (1, kI x1)] [] ha := by
    intro n
    induction n with
    | zero => intro x1 ha hm; exact absurd hm (Nat.not_lt_zero _)
    | succ n ih2 =>
      intro x1 ha hm2 hI fx hV2
      refine K_iload_n (pc := 2) (i := 2) rfl rfl ?_
      refine K_bipush (pc := 3) (i := 3) rfl rfl ?_
      first | refine K_icmp_ge 34 (pc := 5) (i := 4) rfl rfl (by omega) (by omega) (fun b5 => ?_) (fun b5 => ?_) | refine K_icmp_ge_an 34 (pc := 5) (i := 4) rfl rfl (fun b5 => ?_) (fun b5 => ?_)
      · skip
        have ro : RW h ha r 40 := by have := hV2.2; rwa [show x1.toNat = 40 by omega] at this
        refine K_aload_n (pc := 34) (i := 20) rfl rfl ?_
        refine K_getR (pc := 35) (i := 21) (j := 13) (d := 191) rfl S_184 rfl (by decide) rfl fw_Model_28 ?_
        refine K_bipush (pc := 38) (i := 22) rfl rfl ?_
        refine K_aload_n (pc := 40) (i := 23) rfl rfl ?_
        refine K_getI (pc := 41) (i := 24) (j := 12) rfl S_184 rfl (by decide) rfl fw_Model_116 ?_
        refine K_nm (fun v41 e41 => ?_)
        have r41 := rd_mnext hI
        rw [← e41] at r41
        have t41 : v41 = r := by rw [e41, ro.2.2 184 (by decide), er]
        refine K_imul (pc := 44) (i := 25) rfl ?_
        refine K_bipush (pc := 45) (i := 26) rfl rfl ?_
        refine K_iadd (pc := 47) (i := 27) rfl ?_
        refine K_aload_n (pc := 48) (i := 28) rfl rfl ?_
        refine K_getI (pc := 49) (i := 29) (j := 4) rfl S_184 rfl (by decide) rfl fw_Model_59 ?_
        refine K_nm (fun v49 e49 => ?_)
        have r49 := rd_many hI
        rw [← e49] at r49
        refine K_iast (pc := 52) (i := 30) rfl S_191 (by omega) (by omega) (by decide) ?_
        have hI := st_row hI (i := ((43 * v41) + 40).toNat) (v := v49) (by unfold bR; omega) (fun e _ => False.elim e)
        have fx := Fx.st (c := 191) (i := ((43 * v41) + 40).toNat) (v := v49) fx (by first | (dsimp only; omega) | omega | exact not_false)
        have t49 : v49 = h 184 4 := by rw [e49, ro.2.2 184 (by decide)]
        have ro := RW.ot (i := ((43 * v41) + 40).toNat) (v := v49) ro (by omega)
        have m52 : (kU ha 191 (((43 * v41) + 40).toNat) v49) 191 (43 * r + 40) = h 184 4 := by rw [kU_at, if_pos ⟨rfl, by omega⟩, t49]
        refine K_aload_n (pc := 53) (i := 31) rfl rfl ?_
        refine K_getR (pc := 54) (i := 32) (j := 13) (d := 191) rfl S_184 rfl (by decide) rfl fw_Model_28 ?_
        refine K_bipush (pc := 57) (i := 33) rfl rfl ?_
        refine K_aload_n (pc := 59) (i := 34) rfl rfl ?_
        refine K_getI (pc := 60) (i := 35) (j := 12) rfl S_184 rfl (by decide) rfl fw_Model_116 ?_
        refine K_nm (fun v60 e60 => ?_)
        have r60 := rd_mnext hI
        rw [← e60] at r60
        have t60 : v60 = r := by rw [e60, ro.2.2 184 (by decide), er]
        refine K_imul (pc := 63) (i := 36) rfl ?_
        refine K_bipush (pc := 64) (i := 37) rfl rfl ?_
        refine K_iadd (pc := 66) (i := 38) rfl ?_
        refine K_aload_n (pc := 67) (i := 39) rfl rfl ?_
        refine K_getR (pc := 68) (i := 40) (j := 6) (d := 189) rfl S_184 rfl (by decide) rfl fw_Model_22 ?_
        refine K_iconst (pc := 71) (i := 41) rfl ?_
        refine K_iald (pc := 72) (i := 42) rfl S_189 (by omega) (by omega) (by decide) ?_
        refine K_nm (fun v72 e72 => ?_)
        have t72 : v72 = h 189 0 := by rw [e72, ro.2.2 189 (by decide)]; rfl
        refine K_iast (pc := 73) (i := 43) rfl S_191 (by omega) (by omega) (by decide) ?_
        have hI := st_row hI (i := ((43 * v60) + 41).toNat) (v := v72) (by unfold bR; omega) (fun e _ => False.elim e)
        have fx := Fx.st (c := 191) (i := ((43 * v60) + 41).toNat) (v := v72) fx (by first | (dsimp only; omega) | omega | exact not_false)
        have ro := RW.ot (i := ((43 * v60) + 41).toNat) (v := v72) ro (by omega)
        have m73 : (kU (kU ha 191 (((43 * v41) + 40).toNat) v49) 191 (((43 * v60) + 41).toNat) v72) 191 (43 * r + 40) = h 184 4 ∧ (kU (kU ha 191 (((43 * v41) + 40).toNat) v49) 191 (((43 * v60) + 41).toNat) v72) 191 (43 * r + 41) = h 189 0 := ⟨by rw [kU_at, if_neg (by omega)]; exact m52, by rw [kU_at, if_pos ⟨rfl, by omega⟩, t72]⟩
        refine K_aload_n (pc := 74) (i := 44) rfl rfl ?_
        refine K_getR (pc := 75) (i := 45) (j := 13) (d := 191) rfl S_184 rfl (by decide) rfl fw_Model_28 ?_
        refine K_bipush (pc := 78) (i := 46) rfl rfl ?_
        refine K_aload_n (pc := 80) (i := 47) rfl rfl ?_
        refine K_getI (pc := 81) (i := 48) (j := 12) rfl S_184 rfl (by decide) rfl fw_Model_116 ?_
        refine K_nm (fun v81 e81 => ?_)
        have r81 := rd_mnext hI
        rw [← e81] at r81
        have t81 : v81 = r := by rw [e81, ro.2.2 184 (by decide), er]
        refine K_imul (pc := 84) (i := 49) rfl ?_
        refine K_bipush (pc := 85) (i := 50) rfl rfl ?_
        refine K_iadd (pc := 87) (i := 51) rfl ?_
        refine K_aload_n (pc := 88) (i := 52) rfl rfl ?_
        refine K_getR (pc := 89) (i := 53) (j := 6) (d := 189) rfl S_184 rfl (by decide) rfl fw_Model_22 ?_
        refine K_iconst (pc := 92) (i := 54) rfl ?_
        refine K_iald (pc := 93) (i := 55) rfl S_189 (by omega) (by omega) (by decide) ?_
        refine K_nm (fun v93 e93 => ?_)
        have t93 : v93 = h 189 1 := by rw [e93, ro.2.2 189 (by decide)]; rfl
        refine K_iast (pc := 94) (i := 56) rfl S_191 (by omega) (by omega) (by decide) ?_
        have hI := st_row hI (i := ((43 * v81) + 42).toNat) (v := v93) (by unfold bR; omega) (fun e _ => False.elim e)
        have fx := Fx.st (c := 191) (i := ((43 * v81) + 42).toNat) (v := v93) fx (by first | (dsimp only; omega) | omega | exact not_false)
        have ro := RW.ot (i := ((43 * v81) + 42).toNat) (v := v93) ro (by omega)
        have m94 : (kU (kU (kU ha 191 (((43 * v41) + 40).toNat) v49) 191 (((43 * v60) + 41).toNat) v72) 191 (((43 * v81) + 42).toNat) v93) 191 (43 * r + 40) = h 184 4 ∧ (kU (kU (kU ha 191 (((43 * v41) + 40).toNat) v49) 191 (((43 * v60) + 41).toNat) v72) 191 (((43 * v81) + 42).toNat) v93) 191 (43 * r + 41) = h 189 0 ∧ (kU (kU (kU ha 191 (((43 * v41) + 40).toNat) v49) 191 (((43 * v60) + 41).toNat) v72) 191 (((43 * v81) + 42).toNat) v93) 191 (43 * r + 42) = h 189 1 := ⟨by rw [kU_at, if_neg (by omega)]; exact m73.1, by rw [kU_at, if_neg (by omega)]; exact m73.2, by rw [kU_at, if_pos ⟨rfl, by omega⟩, t93]⟩
        refine K_aload_n (pc := 95) (i := 57) rfl rfl ?_
        refine K_aload_n (pc := 96) (i := 58) rfl rfl ?_
        refine K_getI (pc := 97) (i := 59) (j := 12) rfl S_184 rfl (by decide) rfl fw_Model_116 ?_
        refine K_nm (fun v97 e97 => ?_)
        have r97 := rd_mnext hI
        rw [← e97] at r97
        have t97 : v97 = r := by rw [e97, ro.2.2 184 (by decide), er]
        refine K_iconst (pc := 100) (i := 60) rfl ?_
        refine K_iadd (pc := 101) (i := 61) rfl ?_
        refine K_bipush (pc := 102) (i := 62) rfl rfl ?_
        refine K_irem (pc := 104) (i := 63) rfl (by omega) (by omega) ?_
        refine K_eq (kRem_eq (by omega) (by omega) (by omega) (by omega)) ?_
        refine K_putI (pc := 105) (i := 64) (j := 12) rfl S_184 rfl (by decide) rfl rfl rfl fw_Model_116 ?_
        have hI := st_mnext hI (v := (v97 + 1) % 16) (by omega)
        have fx := Fx.st (c := 184) (i := 12) (v := (v97 + 1) % 16) fx (by first | (dsimp only; omega) | omega | exact not_false)
        refine K_aload_n (pc := 108) (i := 65) rfl rfl ?_
        refine K_aload_n (pc := 109) (i := 66) rfl rfl ?_
        refine K_getI (pc := 110) (i := 67) (j := 11) rfl S_184 rfl (by decide) rfl fw_Model_99 ?_
        refine K_nm (fun v110 e110 => ?_)
        have r110 := rd_macts hI
        rw [← e110] at r110
        have t110 : v110 = h 184 11 := by rw [e110, kU_at, if_neg (by omega), ro.2.2 184 (by decide)]
        refine K_bipush (pc := 113) (i := 68) rfl rfl ?_
        first | refine K_icmp_ge 127 (pc := 115) (i := 69) rfl rfl (by omega) (by omega) (fun b115 => ?_) (fun b115 => ?_) | refine K_icmp_ge_an 127 (pc := 115) (i := 69) rfl rfl (fun b115 => ?_) (fun b115 => ?_)
        · skip
          refine K_bipush (pc := 127) (i := 75) rfl rfl ?_
          refine K_putI (pc := 129) (i := 76) (j := 11) rfl S_184 rfl (by decide) rfl rfl rfl fw_Model_99 ?_
          have hI := st_macts hI (v := 16) (by omega)
          have fx := Fx.st (c := 184) (i := 11) (v := 16) fx (by first | (dsimp only; omega) | omega | exact not_false)
          exact K_retV (pc := 132) (i := 77) rfl rfl ⟨fx, ⟨Gd.fn hI (fun e => RW.ok hG ro m94.1 (hG.2.2.2.2.2 e)), by
    unfold MR
    rw [er, show ((r : Int)).toNat = r by omega]
    refine ⟨⟨?_, ?_⟩, ?_, ?_, ?_⟩
    · rw [kU_at, if_neg (by omega), kU_at, if_pos ⟨rfl, rfl⟩, t97]
    · rw [kU_at, if_pos ⟨rfl, rfl⟩]; omega
    · intro j hj
      rw [kU_c _ _ _ _ (by decide), kU_c _ _ _ _ (by decide)]
      exact ro.1 j hj
    · rw [kU_c _ _ _ _ (show (191 : Nat) ≠ 184 by decide), kU_c _ _ _ _ (show (191 : Nat) ≠ 184 by decide)]
      exact m94
    · intro i hi
      rw [kU_c _ _ _ _ (by decide), kU_c _ _ _ _ (by decide)]
      exact ro.2.1 i hi⟩⟩
        · skip
          refine K_aload_n (pc := 118) (i := 70) rfl rfl ?_
          refine K_getI (pc := 119) (i := 71) (j := 11) rfl S_184 rfl (by decide) rfl fw_Model_99 ?_
          refine K_nm (fun v119 e119 => ?_)
          have r119 := rd_macts hI
          rw [← e119] at r119
          have t119 : v119 = h 184 11 := by rw [e119, kU_at, if_neg (by omega), ro.2.2 184 (by decide)]
          refine K_iconst (pc := 122) (i := 72) rfl ?_
          refine K_iadd (pc := 123) (i := 73) rfl ?_
          refine K_goto 129 (pc := 124) (i := 74) rfl rfl ?_
          refine K_putI (pc := 129) (i := 76) (j := 11) rfl S_184 rfl (by decide) rfl rfl rfl fw_Model_99 ?_
          have hI := st_macts hI (v := v119 + 1) (by omega)
          have fx := Fx.st (c := 184) (i := 11) (v := v119 + 1) fx (by first | (dsimp only; omega) | omega | exact not_false)
          exact K_retV (pc := 132) (i := 77) rfl rfl ⟨fx, ⟨Gd.fn hI (fun e => RW.ok hG ro m94.1 (hG.2.2.2.2.2 e)), by
    unfold MR
    rw [er, show ((r : Int)).toNat = r by omega]
    refine ⟨⟨?_, ?_⟩, ?_, ?_, ?_⟩
    · rw [kU_at, if_neg (by omega), kU_at, if_pos ⟨rfl, rfl⟩, t97]
    · rw [kU_at, if_pos ⟨rfl, rfl⟩]; omega
    · intro j hj
      rw [kU_c _ _ _ _ (by decide), kU_c _ _ _ _ (by decide)]
      exact ro.1 j hj
    · rw [kU_c _ _ _ _ (show (191 : Nat) ≠ 184 by decide), kU_c _ _ _ _ (show (191 : Nat) ≠ 184 by decide)]
      exact m94
    · intro i hi
      rw [kU_c _ _ _ _ (by decide), kU_c _ _ _ _ (by decide)]
      exact ro.2.1 i hi⟩⟩
      · skip
        refine K_aload_n (pc := 8) (i := 5) rfl rfl ?_
        refine K_getR (pc := 9) (i := 6) (j := 13) (d := 191) rfl S_184 rfl (by decide) rfl fw_Model_28 ?_
        refine K_bipush (pc := 12) (i := 7) rfl rfl ?_
        refine K_aload_n (pc := 14) (i := 8) rfl rfl ?_
        refine K_getI (pc := 15) (i := 9) (j := 12) rfl S_184 rfl (by decide) rfl fw_Model_116 ?_
        refine K_nm (fun v15 e15 => ?_)
        have r15 := rd_mnext hI
        rw [← e15] at r15
        have t15 : v15 = r := by rw [e15, hV2.2.2.2 184 (by decide), er]
        refine K_imul (pc := 18) (i := 10) rfl ?_
        refine K_iload_n (pc := 19) (i := 11) rfl rfl ?_
        refine K_iadd (pc := 20) (i := 12) rfl ?_
        refine K_aload_n (pc := 21) (i := 13) rfl rfl ?_
        refine K_getR (pc := 22) (i := 14) (j := 3) (d := 187) rfl S_184 rfl (by decide) rfl fw_Model_16 ?_
        refine K_iload_n (pc := 25) (i := 15) rfl rfl ?_
        refine K_iald (pc := 26) (i := 16) rfl S_187 (by omega) (by omega) (by decide) ?_
        refine K_nm (fun v26 e26 => ?_)
        have r26 := rd_mkites hI (x1).toNat
        rw [← e26] at r26
        refine K_iast (pc := 27) (i := 17) rfl S_191 (by omega) (by omega) (by decide) ?_
        have hI := st_row hI (i := ((43 * v15) + x1).toNat) (v := v26) (bR_of (r := (v15).toNat) r26 (by omega) (by omega)) (fun e _ => False.elim e)
        have fx := Fx.st (c := 191) (i := ((43 * v15) + x1).toNat) (v := v26) fx (by first | (dsimp only; omega) | omega | exact not_false)
        have ro27 := RW.k (i := ((43 * v15) + x1).toNat) (v := v26) hV2.2 (by omega) (by omega) e26
        refine K_inc (pc := 28) (i := 18) (q := 1) (lo' := [(0, _), (1, _)]) rfl rfl rfl rfl rfl ?_
        refine K_goto 2 (pc := 31) (i := 19) rfl rfl ?_
        exact ih2 (x1 + 1) _ (by omega) hI fx ⟨by omega, by have := ro27; rwa [show x1.toNat + 1 = (x1 + 1).toNat by omega] at this⟩
  exact L2 _ 0 _ (Nat.lt_succ_self _) hI fx ⟨by omega, fun j hj => absurd hj (by omega), fun _ _ => rfl, fun _ _ => rfl⟩
set_option maxHeartbeats 4000000 in
set_option maxRecDepth 100000 in
theorem c_Model_rise (G : kG) {g : kGh} {h : kH} {x1 : Int} {x2 : Int} (s1 : kR x1) (s2 : kR x2) (hI : Gd g h) : Ctr G y_Model_rise X_Model_rise 13 [.ref (G.2.2.2 184), kI x1, kI x2] h (kQi (fun z h' => Fx (fun c i => c = 187 ∨ c = 191 ∨ (c = 184 ∧ (i = 11 ∨ i = 12))) h h' ∧ (Gd g h' ∧ CMrise h h' x1 x2 z))) := by
  refine Ctr.ofK (by decide) rfl T_Model_rise (Nat.le_of_ble_eq_true rfl) (lo := [(0, .ref (G.2.2.2 184)), (1, kI x1), (2, kI x2)]) rfl ?_
  have fx : Fx (fun c i => c = 187 ∨ c = 191 ∨ (c = 184 ∧ (i = 11 ∨ i = 12))) h h := Fx.rf
  refine K_aload_n (pc := 0) (i := 0) rfl rfl ?_
  refine K_iload_n (pc := 1) (i := 1) rfl rfl ?_
  refine K_cVI (pc := 2) (i := 2) rfl (c_Model_isKite G (x1 := x1) (hI := hI) (s1 := by omega)) S_184 rfl (lv_Model_102 rfl) rfl rfl rfl rfl rfl (fun v2 h2 q2 => ?_)
  obtain ⟨eh, r2⟩ := q2
  rw [eh]; clear eh
  first | refine K_if_ne 10 (pc := 5) (i := 3) rfl rfl (by omega) (fun b5 => ?_) (fun b5 => ?_) | refine K_if_ne_an 10 (pc := 5) (i := 3) rfl rfl (fun b5 => ?_) (fun b5 => ?_)
  · skip
    refine K_iload_n (pc := 10) (i := 6) rfl rfl ?_
    refine K_i2l (pc := 11) (i := 7) rfl ?_
    refine K_eqJ (kI2l_eq (a := x2) (by omega)) ?_
    refine K_ldc2 (-8) (pc := 12) (i := 8) rfl cl_Model_119 (by decide) ?_
    refine K_ldc2 (8) (pc := 15) (i := 9) rfl cl_Model_63 (by decide) ?_
    refine K_cSI (pc := 18) (i := 10) rfl (c_Model_in G (l0 := x2) (l2 := -8) (l4 := 8) (s0 := by omega) (s2 := by omega) (s4 := by omega)) (ls_Model_65 rfl) rfl rfl rfl rfl (fun v18 h18 q18 => ?_)
    obtain ⟨eh, r18⟩ := q18
    rw [eh]; clear eh
    first | refine K_if_eq 47 (pc := 21) (i := 11) rfl rfl (by omega) (fun b21 => ?_) (fun b21 => ?_) | refine K_if_eq_an 47 (pc := 21) (i := 11) rfl rfl (fun b21 => ?_) (fun b21 => ?_)
    · skip
      refine K_bipush (pc := 47) (i := 27) rfl rfl ?_
      exact K_retI (pc := 49) (i := 28) rfl rfl ⟨fx, ⟨hI, Or.inr (Or.inl ⟨by omega, by first | (rw [w33]; omega) | (intro q; omega), rfl, rfl⟩)⟩⟩
    · skip
      refine K_aload_n (pc := 24) (i := 12) rfl rfl ?_
      refine K_getR (pc := 25) (i := 13) (j := 3) (d := 187) rfl S_184 rfl (by decide) rfl fw_Model_16 ?_
      refine K_iconst (pc := 28) (i := 14) rfl ?_
      refine K_iload_n (pc := 29) (i := 15) rfl rfl ?_
      refine K_imul (pc := 30) (i := 16) rfl ?_
      refine K_iconst (pc := 31) (i := 17) rfl ?_
      refine K_iadd (pc := 32) (i := 18) rfl ?_
      refine K_iald (pc := 33) (i := 19) rfl S_187 (by omega) (by omega) (by decide) ?_
      refine K_nm (fun v33 e33 => ?_)
      have r33 := (rd_mkites hI ((5 * x1) + 3).toNat).2.1 (by omega)
      rw [← e33] at r33
      have w33 : h 187 (5 * x1.toNat + 3) = v33 := by rw [e33]; congr 1; omega
      refine K_iload_n (pc := 34) (i := 20) rfl rfl ?_
      refine K_iadd (pc := 35) (i := 21) rfl ?_
      refine K_i2l (pc := 36) (i := 22) rfl ?_
      refine K_eqJ (kI2l_eq (a := v33 + x2) (by omega)) ?_
      refine K_lconst 1 (pc := 37) (i := 23) rfl rfl ?_
      refine K_ldc2 (9) (pc := 38) (i := 24) rfl cl_Model_80 (by decide) ?_
      refine K_cSI (pc := 41) (i := 25) rfl (c_Model_in G (l0 := v33 + x2) (l2 := 1) (l4 := 9) (s0 := by omega) (s2 := by omega) (s4 := by omega)) (ls_Model_65 rfl) rfl rfl rfl rfl (fun v41 h41 q41 => ?_)
      obtain ⟨eh, r41⟩ := q41
      rw [eh]; clear eh
      first | refine K_if_ne 50 (pc := 44) (i := 26) rfl rfl (by omega) (fun b44 => ?_) (fun b44 => ?_) | refine K_if_ne_an 50 (pc := 44) (i := 26) rfl rfl (fun b44 => ?_) (fun b44 => ?_)
      · skip
        refine K_aload_n (pc := 50) (i := 29) rfl rfl ?_
        refine K_cVV (pc := 51) (i := 30) rfl (c_Model_keepAct G (hI := hI)) S_184 rfl (lv_Model_121 rfl) rfl rfl rfl rfl rfl (fun h51 q51 => ?_)
        obtain ⟨fx51, q51⟩ := q51
        obtain ⟨hI, mr51⟩ := q51
        have fx := fx.tr fx51 (fun c i q => (by first | (dsimp only at q ⊢; omega) | omega))
        refine K_aload_n (pc := 54) (i := 31) rfl rfl ?_
        refine K_getR (pc := 55) (i := 32) (j := 3) (d := 187) rfl S_184 rfl (by decide) rfl fw_Model_16 ?_
        refine K_iconst (pc := 58) (i := 33) rfl ?_
        refine K_iload_n (pc := 59) (i := 34) rfl rfl ?_
        refine K_imul (pc := 60) (i := 35) rfl ?_
        refine K_iconst (pc := 61) (i := 36) rfl ?_
        refine K_iadd (pc := 62) (i := 37) rfl ?_
        refine K_dup2 (pc := 63) (i := 38) rfl rfl rfl ?_
        refine K_iald (pc := 64) (i := 39) rfl S_187 (by omega) (by omega) (by decide) ?_
        refine K_nm (fun v64 e64 => ?_)
        have r64 := (rd_mkites hI ((5 * x1) + 3).toNat).2.1 (by omega)
        rw [← e64] at r64
        have t64 : v64 = v33 := by rw [e64, e33, fx51.cell 187 (fun i => (by first | (dsimp only; omega) | omega))]
        refine K_iload_n (pc := 65) (i := 40) rfl rfl ?_
        refine K_iadd (pc := 66) (i := 41) rfl ?_
        refine K_iast (pc := 67) (i := 42) rfl S_187 (by omega) (by omega) (by decide) ?_
        have hI := st_mkites hI (i := ((5 * x1) + 3).toNat) (v := v64 + x2) (by unfold bK; omega) (fun _ a => a.u187 (fun b => b.setH x1.toNat (by omega) (by omega)))
        have fx := Fx.st (c := 187) (i := ((5 * x1) + 3).toNat) (v := v64 + x2) fx (by first | (dsimp only; omega) | omega | exact not_false)
        refine K_aload_n (pc := 68) (i := 43) rfl rfl ?_
        refine K_getR (pc := 69) (i := 44) (j := 3) (d := 187) rfl S_184 rfl (by decide) rfl fw_Model_16 ?_
        refine K_iconst (pc := 72) (i := 45) rfl ?_
        refine K_iload_n (pc := 73) (i := 46) rfl rfl ?_
        refine K_imul (pc := 74) (i := 47) rfl ?_
        refine K_iconst (pc := 75) (i := 48) rfl ?_
        refine K_iadd (pc := 76) (i := 49) rfl ?_
        refine K_iald (pc := 77) (i := 50) rfl S_187 (by omega) (by omega) (by decide) ?_
        refine K_nm (fun v77 e77 => ?_)
        have r77 := (rd_mkites hI ((5 * x1) + 3).toNat).2.1 (by omega)
        rw [← e77] at r77
        have t77 : v77 = v33 + x2 := by rw [e77, kU_s, if_pos rfl, t64]
        exact K_retI (pc := 78) (i := 51) rfl rfl ⟨fx, ⟨hI, Or.inr (Or.inr ⟨by omega, by rw [w33]; omega, by rw [t77, w33], mr51.of (kU_c _ _ _ _ (by decide)) (by rw [kU_c _ _ _ _ (by decide)]) (by rw [kU_c _ _ _ _ (by decide)]), fun j => by rw [kU_s, fx51.cell 187 (fun i => (by first | (dsimp only; omega) | omega)), w33, t64, show ((5 * x1) + 3).toNat = 5 * x1.toNat + 3 by omega]⟩)⟩⟩
      · skip
        refine K_bipush (pc := 47) (i := 27) rfl rfl ?_
        exact K_retI (pc := 49) (i := 28) rfl rfl ⟨fx, ⟨hI, Or.inr (Or.inl ⟨by omega, by first | (rw [w33]; omega) | (intro q; omega), rfl, rfl⟩)⟩⟩
  · skip
    refine K_iconst (pc := 8) (i := 4) rfl ?_
    exact K_retI (pc := 9) (i := 5) rfl rfl ⟨fx, ⟨hI, Or.inl ⟨by omega, rfl, rfl⟩⟩⟩
def hsN (h : kH) (x n : Int) : Prop := ∃ i : Nat, (i : Int) < n ∧ h 187 (5 * i + 1) = x
theorem hsN.z {h : kH} {x : Int} : ¬ hsN h x 0 := fun ⟨i, a, _⟩ => by omega
theorem hsN.up {h : kH} {x n : Int} (a : hsN h x n) : hsN h x (n + 1) := by
  obtain ⟨i, h1, h2⟩ := a
  exact ⟨i, by omega, h2⟩
theorem hsN.new {h : kH} {x n : Int} (h0 : 0 ≤ n) (e : h 187 (5 * n.toNat + 1) = x) : hsN h x (n + 1) := ⟨n.toNat, by omega, e⟩
theorem hsN.no {h : kH} {x n : Int} (h0 : 0 ≤ n) (a : ¬ hsN h x n) (e : h 187 (5 * n.toNat + 1) ≠ x) : ¬ hsN h x (n + 1) := fun ⟨i, h1, h2⟩ => by
  by_cases q : i = n.toNat
  · rw [q] at h2; exact e h2
  · exact a ⟨i, by omega, h2⟩
set_option maxHeartbeats 4000000 in
set_option maxRecDepth 100000 in
theorem c_Model_isStake (G : kG) {g : kGh} {h : kH} {x1 : Int} (s1 : kR x1) (hk : FK (h 187) (h 184 4)) (hI : Gd g h) : Ctr G y_Model_isStake X_Model_isStake 1 [.ref (G.2.2.2 184), kI x1] h (kQi (fun z h' => h' = h ∧ ((z = 1 ∧ hsM h x1) ∨ (z = 0 ∧ ¬ hsM h x1)))) := by
  refine Ctr.ofK (by decide) rfl T_Model_isStake (Nat.le_of_ble_eq_true rfl) (lo := [(0, .ref (G.2.2.2 184)), (1, kI x1)]) rfl ?_
  have hm8 := rd_many hI
  refine K_iconst (pc := 0) (i := 0) rfl ?_
  refine K_ist_n (pc := 1) (i := 1) (lo' := [(0, _), (1, _), (2, _)]) rfl rfl rfl rfl ?_
  refine K_iconst (pc := 2) (i := 2) rfl ?_
  refine K_ist_n (pc := 3) (i := 3) (lo' := [(0, _), (1, _), (2, _), (3, _)]) rfl rfl rfl rfl ?_
  have L4 : ∀ (n : Nat) (x2 : Int) (x3 : Int), (8 - x3).toNat < n → ((0 ≤ x3 ∧ x3 ≤ h 184 4) ∧ ((x2 = 1 ∧ hsN h x1 x3) ∨ (x2 = 0 ∧ ¬ hsN h x1 x3))) → K X_Model_isStake G (kZm G 1 (kQi (fun z h' => h' = h ∧ ((z = 1 ∧ hsM h x1) ∨ (z = 0 ∧ ¬ hsM h x1))))) 4 [(0, .ref (G.2.2.2 184)), (1, kI x1), (2, kI x2), (3, kI x3)] [] h := by
    intro n
    induction n with
    | zero => intro x2 x3 hm; exact absurd hm (Nat.not_lt_zero _)
    | succ n ih4 =>
      intro x2 x3 hm4 hV4
      have k4 : x2 = 0 ∨ x2 = 1 := hV4.2.elim (fun q => Or.inr q.1) (fun q => Or.inl q.1)
      refine K_iload_n (pc := 4) (i := 4) rfl rfl ?_
      refine K_aload_n (pc := 5) (i := 5) rfl rfl ?_
      refine K_getI (pc := 6) (i := 6) (j := 4) rfl S_184 rfl (by decide) rfl fw_Model_59 ?_
      refine K_nm (fun v6 e6 => ?_)
      have r6 := rd_many hI
      rw [← e6] at r6
      first | refine K_icmp_ge 42 (pc := 9) (i := 7) rfl rfl (by omega) (by omega) (fun b9 => ?_) (fun b9 => ?_) | refine K_icmp_ge_an 42 (pc := 9) (i := 7) rfl rfl (fun b9 => ?_) (fun b9 => ?_)
      · skip
        refine K_iload_n (pc := 42) (i := 26) rfl rfl ?_
        exact K_retZ (pc := 43) (i := 27) rfl rfl (by omega) ⟨rfl, by rw [show x3 = h 184 4 by omega] at hV4; exact hV4.2⟩
      · skip
        refine K_iload_n (pc := 12) (i := 8) rfl rfl ?_
        first | refine K_if_ne 30 (pc := 13) (i := 9) rfl rfl (by omega) (fun b13 => ?_) (fun b13 => ?_) | refine K_if_ne_an 30 (pc := 13) (i := 9) rfl rfl (fun b13 => ?_) (fun b13 => ?_)
        · skip
          refine K_iconst (pc := 30) (i := 20) rfl ?_
          refine K_goto 35 (pc := 31) (i := 21) rfl rfl ?_
          refine K_ist_n (pc := 35) (i := 23) (lo' := [(0, _), (1, _), (2, _), (3, _)]) rfl rfl rfl rfl ?_
          refine K_inc (pc := 36) (i := 24) (q := 3) (lo' := [(0, _), (1, _), (2, _), (3, _)]) rfl rfl rfl rfl rfl ?_
          refine K_goto 4 (pc := 39) (i := 25) rfl rfl ?_
          exact ih4 1 (x3 + 1) (by omega) (by first | exact ⟨by omega, Or.inl ⟨rfl, hsN.new hV4.1.1 (by rw [w25]; omega)⟩⟩ | exact ⟨by omega, Or.inr ⟨rfl, hsN.no hV4.1.1 (hV4.2.elim (fun q => absurd q.1 (by omega)) (fun q => q.2)) (by rw [w25]; omega)⟩⟩ | exact ⟨by omega, Or.inl ⟨rfl, (hV4.2.elim (fun q => q.2) (fun q => absurd q.1 (by omega))).up⟩⟩)
        · skip
          refine K_aload_n (pc := 16) (i := 10) rfl rfl ?_
          refine K_getR (pc := 17) (i := 11) (j := 3) (d := 187) rfl S_184 rfl (by decide) rfl fw_Model_16 ?_
          refine K_iconst (pc := 20) (i := 12) rfl ?_
          refine K_iload_n (pc := 21) (i := 13) rfl rfl ?_
          refine K_imul (pc := 22) (i := 14) rfl ?_
          refine K_iconst (pc := 23) (i := 15) rfl ?_
          refine K_iadd (pc := 24) (i := 16) rfl ?_
          refine K_iald (pc := 25) (i := 17) rfl S_187 (by omega) (by omega) (by decide) ?_
          refine K_nm (fun v25 e25 => ?_)
          have r25 := rd_mkites hI ((5 * x3) + 1).toNat
          rw [← e25] at r25
          have u25 := (hk x3.toNat (by omega)).1
          have w25 : h 187 (5 * x3.toNat + 1) = v25 := by rw [e25, show 5 * x3.toNat + 1 = ((5 * x3) + 1).toNat by omega]
          rw [w25] at u25
          refine K_iload_n (pc := 26) (i := 18) rfl rfl ?_
          first | refine K_icmp_ne 34 (pc := 27) (i := 19) rfl rfl (by omega) (by omega) (fun b27 => ?_) (fun b27 => ?_) | refine K_icmp_ne_an 34 (pc := 27) (i := 19) rfl rfl (fun b27 => ?_) (fun b27 => ?_)
          · skip
            refine K_iconst (pc := 34) (i := 22) rfl ?_
            refine K_ist_n (pc := 35) (i := 23) (lo' := [(0, _), (1, _), (2, _), (3, _)]) rfl rfl rfl rfl ?_
            refine K_inc (pc := 36) (i := 24) (q := 3) (lo' := [(0, _), (1, _), (2, _), (3, _)]) rfl rfl rfl rfl rfl ?_
            refine K_goto 4 (pc := 39) (i := 25) rfl rfl ?_
            exact ih4 0 (x3 + 1) (by omega) (by first | exact ⟨by omega, Or.inl ⟨rfl, hsN.new hV4.1.1 (by rw [w25]; omega)⟩⟩ | exact ⟨by omega, Or.inr ⟨rfl, hsN.no hV4.1.1 (hV4.2.elim (fun q => absurd q.1 (by omega)) (fun q => q.2)) (by rw [w25]; omega)⟩⟩ | exact ⟨by omega, Or.inl ⟨rfl, (hV4.2.elim (fun q => q.2) (fun q => absurd q.1 (by omega))).up⟩⟩)
          · skip
            refine K_iconst (pc := 30) (i := 20) rfl ?_
            refine K_goto 35 (pc := 31) (i := 21) rfl rfl ?_
            refine K_ist_n (pc := 35) (i := 23) (lo' := [(0, _), (1, _), (2, _), (3, _)]) rfl rfl rfl rfl ?_
            refine K_inc (pc := 36) (i := 24) (q := 3) (lo' := [(0, _), (1, _), (2, _), (3, _)]) rfl rfl rfl rfl rfl ?_
            refine K_goto 4 (pc := 39) (i := 25) rfl rfl ?_
            exact ih4 1 (x3 + 1) (by omega) (by first | exact ⟨by omega, Or.inl ⟨rfl, hsN.new hV4.1.1 (by rw [w25]; omega)⟩⟩ | exact ⟨by omega, Or.inr ⟨rfl, hsN.no hV4.1.1 (hV4.2.elim (fun q => absurd q.1 (by omega)) (fun q => q.2)) (by rw [w25]; omega)⟩⟩ | exact ⟨by omega, Or.inl ⟨rfl, (hV4.2.elim (fun q => q.2) (fun q => absurd q.1 (by omega))).up⟩⟩)
  exact L4 _ 0 0 (Nat.lt_succ_self _) ⟨by omega, Or.inr ⟨rfl, hsN.z⟩⟩
set_option maxHeartbeats 4000000 in
set_option maxRecDepth 100000 in
theorem c_Model_run (G : kG) {g : kGh} {h : kH}  (hT : g.2.2.2.2){x1 : Int} {x2 : Int} (s1 : kR x1) (s2 : kR x2) (hI : Gd g h) : Ctr G y_Model_run X_Model_run 13 [.ref (G.2.2.2 184), kI x1, kI x2] h (kQi (fun z h' => Fx (fun c i => c = 187 ∨ c = 191 ∨ (c = 184 ∧ (i = 11 ∨ i = 12))) h h' ∧ (Gd g h' ∧ CMrun h h' x1 x2 z))) := by
  refine Ctr.ofK (by decide) rfl T_Model_run (Nat.le_of_ble_eq_true rfl) (lo := [(0, .ref (G.2.2.2 184)), (1, kI x1), (2, kI x2)]) rfl ?_
  have fx : Fx (fun c i => c = 187 ∨ c = 191 ∨ (c = 184 ∧ (i = 11 ∨ i = 12))) h h := Fx.rf
  have hk := (hI.2.2.2.2.2 hT).1
  have hm8 := rd_many hI
  refine K_aload_n (pc := 0) (i := 0) rfl rfl ?_
  refine K_iload_n (pc := 1) (i := 1) rfl rfl ?_
  refine K_cVI (pc := 2) (i := 2) rfl (c_Model_isKite G (x1 := x1) (hI := hI) (s1 := by omega)) S_184 rfl (lv_Model_102 rfl) rfl rfl rfl rfl rfl (fun v2 h2 q2 => ?_)
  obtain ⟨eh, r2⟩ := q2
  rw [eh]; clear eh
  first | refine K_if_ne 10 (pc := 5) (i := 3) rfl rfl (by omega) (fun b5 => ?_) (fun b5 => ?_) | refine K_if_ne_an 10 (pc := 5) (i := 3) rfl rfl (fun b5 => ?_) (fun b5 => ?_)
  · skip
    refine K_iload_n (pc := 10) (i := 6) rfl rfl ?_
    refine K_i2l (pc := 11) (i := 7) rfl ?_
    refine K_eqJ (kI2l_eq (a := x2) (by omega)) ?_
    refine K_lconst 0 (pc := 12) (i := 8) rfl rfl ?_
    refine K_ldc2 (40) (pc := 13) (i := 9) rfl cl_Model_124 (by decide) ?_
    refine K_cSI (pc := 16) (i := 10) rfl (c_Model_in G (l0 := x2) (l2 := 0) (l4 := 40) (s0 := by omega) (s2 := by omega) (s4 := by omega)) (ls_Model_65 rfl) rfl rfl rfl rfl (fun v16 h16 q16 => ?_)
    obtain ⟨eh, r16⟩ := q16
    rw [eh]; clear eh
    first | refine K_if_ne 25 (pc := 19) (i := 11) rfl rfl (by omega) (fun b19 => ?_) (fun b19 => ?_) | refine K_if_ne_an 25 (pc := 19) (i := 11) rfl rfl (fun b19 => ?_) (fun b19 => ?_)
    · skip
      refine K_aload_n (pc := 25) (i := 14) rfl rfl ?_
      refine K_iload_n (pc := 26) (i := 15) rfl rfl ?_
      refine K_cVI (pc := 27) (i := 16) rfl (c_Model_isStake G (x1 := x2) (hk := hk) (hI := hI) (s1 := by omega)) S_184 rfl (lv_Model_126 rfl) rfl rfl rfl rfl rfl (fun v27 h27 q27 => ?_)
      obtain ⟨eh, r27⟩ := q27
      rw [eh]; clear eh
      have k27 : v27 = 0 ∨ v27 = 1 := r27.elim (fun q => Or.inr q.1) (fun q => Or.inl q.1)
      first | refine K_if_eq 36 (pc := 30) (i := 17) rfl rfl (by omega) (fun b30 => ?_) (fun b30 => ?_) | refine K_if_eq_an 36 (pc := 30) (i := 17) rfl rfl (fun b30 => ?_) (fun b30 => ?_)
      · skip
        refine K_aload_n (pc := 36) (i := 20) rfl rfl ?_
        refine K_cVV (pc := 37) (i := 21) rfl (c_Model_keepAct G (hI := hI)) S_184 rfl (lv_Model_121 rfl) rfl rfl rfl rfl rfl (fun h37 q37 => ?_)
        obtain ⟨fx37, q37⟩ := q37
        obtain ⟨hI, mr37⟩ := q37
        have fx := fx.tr fx37 (fun c i q => (by first | (dsimp only at q ⊢; omega) | omega))
        refine K_aload_n (pc := 40) (i := 22) rfl rfl ?_
        refine K_getR (pc := 41) (i := 23) (j := 3) (d := 187) rfl S_184 rfl (by decide) rfl fw_Model_16 ?_
        refine K_iconst (pc := 44) (i := 24) rfl ?_
        refine K_iload_n (pc := 45) (i := 25) rfl rfl ?_
        refine K_imul (pc := 46) (i := 26) rfl ?_
        refine K_iconst (pc := 47) (i := 27) rfl ?_
        refine K_iadd (pc := 48) (i := 28) rfl ?_
        refine K_iald (pc := 49) (i := 29) rfl S_187 (by omega) (by omega) (by decide) ?_
        refine K_nm (fun v49 e49 => ?_)
        have w49 : h 187 (5 * x1.toNat + 1) = v49 := by rw [e49, fx37.cell 187 (fun i => (by first | (dsimp only; omega) | omega))]; congr 1; omega
        have u49 := (hk x1.toNat (by omega)).1
        rw [w49] at u49
        refine K_iload_n (pc := 50) (i := 30) rfl rfl ?_
        refine K_isub (pc := 51) (i := 31) rfl ?_
        refine K_ist_n (pc := 52) (i := 32) (lo' := [(0, _), (1, _), (2, _), (3, _)]) rfl rfl rfl rfl ?_
        refine K_aload_n (pc := 53) (i := 33) rfl rfl ?_
        refine K_getR (pc := 54) (i := 34) (j := 3) (d := 187) rfl S_184 rfl (by decide) rfl fw_Model_16 ?_
        refine K_iconst (pc := 57) (i := 35) rfl ?_
        refine K_iload_n (pc := 58) (i := 36) rfl rfl ?_
        refine K_imul (pc := 59) (i := 37) rfl ?_
        refine K_iconst (pc := 60) (i := 38) rfl ?_
        refine K_iadd (pc := 61) (i := 39) rfl ?_
        refine K_iload_n (pc := 62) (i := 40) rfl rfl ?_
        refine K_iast (pc := 63) (i := 41) rfl S_187 (by omega) (by omega) (by decide) ?_
        have hI := st_mkites hI (i := ((5 * x1) + 1).toNat) (v := x2) (by unfold bK; omega) (fun _ a => a.u187 (fun b => b.setS x1.toNat (by omega) (by omega) (fun j hj e => (r27.elim (fun q => absurd q.1 (by omega)) (fun q => q.2)) ⟨j, by rw [← fx37 184 4 (by first | (dsimp only; omega) | omega | exact not_false)]; exact hj, by rw [← fx37.cell 187 (fun i => (by first | (dsimp only; omega) | omega))]; exact e⟩)))
        have fx := Fx.st (c := 187) (i := ((5 * x1) + 1).toNat) (v := x2) fx (by first | (dsimp only; omega) | omega | exact not_false)
        refine K_iload_n (pc := 64) (i := 42) rfl rfl ?_
        first | refine K_if_ge 73 (pc := 65) (i := 43) rfl rfl (by omega) (fun b65 => ?_) (fun b65 => ?_) | refine K_if_ge_an 73 (pc := 65) (i := 43) rfl rfl (fun b65 => ?_) (fun b65 => ?_)
        · skip
          refine K_iload_n (pc := 73) (i := 47) rfl rfl ?_
          exact K_retI (pc := 74) (i := 48) rfl rfl ⟨fx, ⟨hI, Or.inr (Or.inr (Or.inr ⟨by omega, by omega, r27.elim (fun q => absurd q.1 (by omega)) (fun q => q.2), by rw [w49]; unfold kAbs; split <;> omega, mr37.of (kU_c _ _ _ _ (by decide)) (by rw [kU_c _ _ _ _ (by decide)]) (by rw [kU_c _ _ _ _ (by decide)]), fun j => by rw [kU_s, fx37.cell 187 (fun i => (by first | (dsimp only; omega) | omega)), show ((5 * x1) + 1).toNat = 5 * x1.toNat + 1 by omega]⟩))⟩⟩
        · skip
          refine K_iload_n (pc := 68) (i := 44) rfl rfl ?_
          refine K_ineg (pc := 69) (i := 45) rfl ?_
          refine K_goto 74 (pc := 70) (i := 46) rfl rfl ?_
          exact K_retI (pc := 74) (i := 48) rfl rfl ⟨fx, ⟨hI, Or.inr (Or.inr (Or.inr ⟨by omega, by omega, r27.elim (fun q => absurd q.1 (by omega)) (fun q => q.2), by rw [w49]; unfold kAbs; split <;> omega, mr37.of (kU_c _ _ _ _ (by decide)) (by rw [kU_c _ _ _ _ (by decide)]) (by rw [kU_c _ _ _ _ (by decide)]), fun j => by rw [kU_s, fx37.cell 187 (fun i => (by first | (dsimp only; omega) | omega)), show ((5 * x1) + 1).toNat = 5 * x1.toNat + 1 by omega]⟩))⟩⟩
      · skip
        refine K_bipush (pc := 33) (i := 18) rfl rfl ?_
        exact K_retI (pc := 35) (i := 19) rfl rfl ⟨fx, ⟨hI, Or.inr (Or.inr (Or.inl ⟨by omega, by omega, r27.elim (fun q => q.2) (fun q => absurd q.1 (by omega)), rfl, rfl⟩))⟩⟩
    · skip
      refine K_bipush (pc := 22) (i := 12) rfl rfl ?_
      exact K_retI (pc := 24) (i := 13) rfl rfl ⟨fx, ⟨hI, Or.inr (Or.inl ⟨by omega, by omega, rfl, rfl⟩)⟩⟩
  · skip
    refine K_iconst (pc := 8) (i := 4) rfl ?_
    exact K_retI (pc := 9) (i := 5) rfl rfl ⟨fx, ⟨hI, Or.inl ⟨by omega, rfl, rfl⟩⟩⟩
end
section
set_option maxHeartbeats 4000000 in
set_option maxRecDepth 100000 in
theorem c_Model_add (G : kG) {g : kGh} {h : kH} {x1 : Int} {x2 : Int} {x3 : Int} {x4 : Int} (s1 : 0 ≤ x1 ∧ x1 ≤ 1) (s2 : 0 ≤ x2 ∧ x2 ≤ 40) (s3 : 1 ≤ x3 ∧ x3 ≤ 9) (s4 : 0 ≤ x4 ∧ x4 ≤ 9) (hm : h 184 4 ≤ 7) (hf : ¬ hsM h x2) (hI : Gd g h) : Ctr G y_Model_add X_Model_add 1 [.ref (G.2.2.2 184), kI x1, kI x2, kI x3, kI x4] h (kQv (fun h' => Fx (fun c i => c = 187 ∨ (c = 184 ∧ i = 4)) h h' ∧ (Gd g h' ∧ h' 184 4 = h 184 4 + 1 ∧ AK (h 187) (h' 187) (h 184 4).toNat x1 x2 x3 x4))) := by
  refine Ctr.ofK (by decide) rfl T_Model_add (Nat.le_of_ble_eq_true rfl) (lo := [(0, .ref (G.2.2.2 184)), (1, kI x1), (2, kI x2), (3, kI x3), (4, kI x4)]) rfl ?_
  have fx : Fx (fun c i => c = 187 ∨ (c = 184 ∧ i = 4)) h h := Fx.rf
  obtain ⟨m, em⟩ : ∃ m : Nat, h 184 4 = m := Int.eq_ofNat_of_zero_le (rd_many hI).1
  have hG := hI
  have hI := hI.nf
  refine K_iconst (pc := 0) (i := 0) rfl ?_
  refine K_aload_n (pc := 1) (i := 1) rfl rfl ?_
  refine K_getI (pc := 2) (i := 2) (j := 4) rfl S_184 rfl (by decide) rfl fw_Model_59 ?_
  refine K_nm (fun v2 e2 => ?_)
  have r2 := rd_many hI
  rw [← e2] at r2
  have t2 : v2 = m := by rw [e2, em]
  refine K_imul (pc := 5) (i := 3) rfl ?_
  refine K_ist (pc := 6) (i := 4) (lo' := [(0, _), (1, _), (2, _), (3, _), (4, _), (5, _)]) rfl rfl rfl rfl ?_
  refine K_aload_n (pc := 8) (i := 5) rfl rfl ?_
  refine K_getR (pc := 9) (i := 6) (j := 3) (d := 187) rfl S_184 rfl (by decide) rfl fw_Model_16 ?_
  refine K_iload (pc := 12) (i := 7) rfl rfl ?_
  refine K_iload_n (pc := 14) (i := 8) rfl rfl ?_
  refine K_iast (pc := 15) (i := 9) rfl S_187 (by omega) (by omega) (by decide) ?_
  have hI := st_mkites hI (i := (5 * v2).toNat) (v := x1) (by unfold bK; omega) (fun e _ => False.elim e)
  have fx := Fx.st (c := 187) (i := (5 * v2).toNat) (v := x1) fx (by first | (dsimp only; omega) | omega | exact not_false)
  refine K_aload_n (pc := 16) (i := 10) rfl rfl ?_
  refine K_getR (pc := 17) (i := 11) (j := 3) (d := 187) rfl S_184 rfl (by decide) rfl fw_Model_16 ?_
  refine K_iload (pc := 20) (i := 12) rfl rfl ?_
  refine K_iconst (pc := 22) (i := 13) rfl ?_
  refine K_iadd (pc := 23) (i := 14) rfl ?_
  refine K_iload_n (pc := 24) (i := 15) rfl rfl ?_
  refine K_iast (pc := 25) (i := 16) rfl S_187 (by omega) (by omega) (by decide) ?_
  have hI := st_mkites hI (i := ((5 * v2) + 1).toNat) (v := x2) (by unfold bK; omega) (fun e _ => False.elim e)
  have fx := Fx.st (c := 187) (i := ((5 * v2) + 1).toNat) (v := x2) fx (by first | (dsimp only; omega) | omega | exact not_false)
  refine K_aload_n (pc := 26) (i := 17) rfl rfl ?_
  refine K_getR (pc := 27) (i := 18) (j := 3) (d := 187) rfl S_184 rfl (by decide) rfl fw_Model_16 ?_
  refine K_iload (pc := 30) (i := 19) rfl rfl ?_
  refine K_iconst (pc := 32) (i := 20) rfl ?_
  refine K_iadd (pc := 33) (i := 21) rfl ?_
  refine K_iload_n (pc := 34) (i := 22) rfl rfl ?_
  refine K_iast (pc := 35) (i := 23) rfl S_187 (by omega) (by omega) (by decide) ?_
  have hI := st_mkites hI (i := ((5 * v2) + 2).toNat) (v := x2) (by unfold bK; omega) (fun e _ => False.elim e)
  have fx := Fx.st (c := 187) (i := ((5 * v2) + 2).toNat) (v := x2) fx (by first | (dsimp only; omega) | omega | exact not_false)
  refine K_aload_n (pc := 36) (i := 24) rfl rfl ?_
  refine K_getR (pc := 37) (i := 25) (j := 3) (d := 187) rfl S_184 rfl (by decide) rfl fw_Model_16 ?_
  refine K_iload (pc := 40) (i := 26) rfl rfl ?_
  refine K_iconst (pc := 42) (i := 27) rfl ?_
  refine K_iadd (pc := 43) (i := 28) rfl ?_
  refine K_iload_n (pc := 44) (i := 29) rfl rfl ?_
  refine K_iast (pc := 45) (i := 30) rfl S_187 (by omega) (by omega) (by decide) ?_
  have hI := st_mkites hI (i := ((5 * v2) + 3).toNat) (v := x3) (by unfold bK; omega) (fun e _ => False.elim e)
  have fx := Fx.st (c := 187) (i := ((5 * v2) + 3).toNat) (v := x3) fx (by first | (dsimp only; omega) | omega | exact not_false)
  refine K_aload_n (pc := 46) (i := 31) rfl rfl ?_
  refine K_getR (pc := 47) (i := 32) (j := 3) (d := 187) rfl S_184 rfl (by decide) rfl fw_Model_16 ?_
  refine K_iload (pc := 50) (i := 33) rfl rfl ?_
  refine K_iconst (pc := 52) (i := 34) rfl ?_
  refine K_iadd (pc := 53) (i := 35) rfl ?_
  refine K_iload (pc := 54) (i := 36) rfl rfl ?_
  refine K_iast (pc := 56) (i := 37) rfl S_187 (by omega) (by omega) (by decide) ?_
  have hI := st_mkites hI (i := ((5 * v2) + 4).toNat) (v := x4) (by unfold bK; omega) (fun e _ => False.elim e)
  have fx := Fx.st (c := 187) (i := ((5 * v2) + 4).toNat) (v := x4) fx (by first | (dsimp only; omega) | omega | exact not_false)
  refine K_aload_n (pc := 57) (i := 38) rfl rfl ?_
  refine K_dup (pc := 58) (i := 39) rfl rfl ?_
  refine K_getI (pc := 59) (i := 40) (j := 4) rfl S_184 rfl (by decide) rfl fw_Model_59 ?_
  refine K_nm (fun v59 e59 => ?_)
  have r59 := rd_many hI
  rw [← e59] at r59
  have t59 : v59 = m := by rw [e59]; simp only [kU_c _ _ _ _ (show (184 : Nat) ≠ 187 by decide)]; exact em
  refine K_iconst (pc := 62) (i := 41) rfl ?_
  refine K_iadd (pc := 63) (i := 42) rfl ?_
  refine K_putI (pc := 64) (i := 43) (j := 4) rfl S_184 rfl (by decide) rfl rfl rfl fw_Model_59 ?_
  have hI := st_many hI (v := v59 + 1) (by omega) (fun e _ => False.elim e)
  have fx := Fx.st (c := 184) (i := 4) (v := v59 + 1) fx (by first | (dsimp only; omega) | omega | exact not_false)
  exact K_retV (pc := 67) (i := 44) rfl rfl ⟨fx, (by
    have i0 : (5 * v2).toNat = 5 * m := by omega
    have i1 : ((5 * v2) + 1).toNat = 5 * m + 1 := by omega
    have i2 : ((5 * v2) + 2).toNat = 5 * m + 2 := by omega
    have i3 : ((5 * v2) + 3).toNat = 5 * m + 3 := by omega
    have i4 : ((5 * v2) + 4).toNat = 5 * m + 4 := by omega
    have VM : (kU (kU (kU (kU (kU (kU h 187 ((5 * v2).toNat) x1) 187 (((5 * v2) + 1).toNat) x2) 187 (((5 * v2) + 2).toNat) x2) 187 (((5 * v2) + 3).toNat) x3) 187 (((5 * v2) + 4).toNat) x4) 184 4 (v59 + 1)) 184 4 = h 184 4 + 1 := by rw [kU_at, if_pos ⟨rfl, rfl⟩]; omega
    have VC : ∀ c, c ≠ 184 → c ≠ 187 → (kU (kU (kU (kU (kU (kU h 187 ((5 * v2).toNat) x1) 187 (((5 * v2) + 1).toNat) x2) 187 (((5 * v2) + 2).toNat) x2) 187 (((5 * v2) + 3).toNat) x3) 187 (((5 * v2) + 4).toNat) x4) 184 4 (v59 + 1)) c = h c := fun c h1 h2 => by simp only [kU_c _ _ _ _ h1, kU_c _ _ _ _ h2]
    have VK : AK (h 187) ((kU (kU (kU (kU (kU (kU h 187 ((5 * v2).toNat) x1) 187 (((5 * v2) + 1).toNat) x2) 187 (((5 * v2) + 2).toNat) x2) 187 (((5 * v2) + 3).toNat) x3) 187 (((5 * v2) + 4).toNat) x4) 184 4 (v59 + 1)) 187) m x1 x2 x3 x4 := by
      rw [i0, i1, i2, i3, i4]
      refine ⟨fun j hj => ?_, ?_, ?_, ?_, ?_, ?_⟩
      · rw [kU_at, if_neg (by omega), kU_at, if_neg (by omega), kU_at, if_neg (by omega), kU_at, if_neg (by omega), kU_at, if_neg (by omega), kU_at, if_neg (by omega)]
      · rw [kU_at, if_neg (by omega), kU_at, if_neg (by omega), kU_at, if_neg (by omega), kU_at, if_neg (by omega), kU_at, if_neg (by omega), kU_at, if_pos ⟨rfl, rfl⟩]
      · rw [kU_at, if_neg (by omega), kU_at, if_neg (by omega), kU_at, if_neg (by omega), kU_at, if_neg (by omega), kU_at, if_pos ⟨rfl, rfl⟩]
      · rw [kU_at, if_neg (by omega), kU_at, if_neg (by omega), kU_at, if_neg (by omega), kU_at, if_pos ⟨rfl, rfl⟩]
      · rw [kU_at, if_neg (by omega), kU_at, if_neg (by omega), kU_at, if_pos ⟨rfl, rfl⟩]
      · rw [kU_at, if_neg (by omega), kU_at, if_pos ⟨rfl, rfl⟩]
    refine ⟨Gd.fn hI (fun e => ?_), VM, by rw [em]; exact VK⟩
    have b := hG.2.2.2.2.2 e
    obtain ⟨k0, k1, k2, k3, k4, k5⟩ := VK
    unfold MOk
    rw [VM, VC 191 (by decide) (by decide), VC 200 (by decide) (by decide)]
    exact ⟨FK.add (m := m) b.1 em k0 (by rw [k2]; omega) (by rw [k3]; omega) (by rw [k4]; omega) (fun i hi e => hf ⟨i, by omega, by rw [← k2]; exact e⟩), b.2.1, b.2.2⟩)⟩
set_option maxHeartbeats 4000000 in
set_option maxRecDepth 100000 in
theorem c_Model_launch (G : kG) {g : kGh} {h : kH}  (hT : g.2.2.2.2){x1 : Int} {x2 : Int} {x3 : Int} {x4 : Int} (s1 : kR x1) (s2 : kR x2) (s3 : kR x3) (s4 : kR x4) (hI : Gd g h) : Ctr G y_Model_launch X_Model_launch 13 [.ref (G.2.2.2 184), kI x1, kI x2, kI x3, kI x4] h (kQi (fun z h' => Fx (fun c i => c = 187 ∨ c = 191 ∨ (c = 184 ∧ (i = 4 ∨ i = 11 ∨ i = 12))) h h' ∧ (Gd g h' ∧ CMlaunch h h' x1 x2 x3 x4 z))) := by
  refine Ctr.ofK (by decide) rfl T_Model_launch (Nat.le_of_ble_eq_true rfl) (lo := [(0, .ref (G.2.2.2 184)), (1, kI x1), (2, kI x2), (3, kI x3), (4, kI x4)]) rfl ?_
  have fx : Fx (fun c i => c = 187 ∨ c = 191 ∨ (c = 184 ∧ (i = 4 ∨ i = 11 ∨ i = 12))) h h := Fx.rf
  have hk := (hI.2.2.2.2.2 hT).1
  have hm8 := rd_many hI
  refine K_iload_n (pc := 0) (i := 0) rfl rfl ?_
  refine K_i2l (pc := 1) (i := 1) rfl ?_
  refine K_eqJ (kI2l_eq (a := x1) (by omega)) ?_
  refine K_lconst 0 (pc := 2) (i := 2) rfl rfl ?_
  refine K_lconst 1 (pc := 3) (i := 3) rfl rfl ?_
  refine K_cSI (pc := 4) (i := 4) rfl (c_Model_in G (l0 := x1) (l2 := 0) (l4 := 1) (s0 := by omega) (s2 := by omega) (s4 := by omega)) (ls_Model_65 rfl) rfl rfl rfl rfl (fun v4 h4 q4 => ?_)
  obtain ⟨eh, r4⟩ := q4
  rw [eh]; clear eh
  first | refine K_if_eq 47 (pc := 7) (i := 5) rfl rfl (by omega) (fun b7 => ?_) (fun b7 => ?_) | refine K_if_eq_an 47 (pc := 7) (i := 5) rfl rfl (fun b7 => ?_) (fun b7 => ?_)
  · skip
    refine K_bipush (pc := 47) (i := 24) rfl rfl ?_
    exact K_retI (pc := 49) (i := 25) rfl rfl ⟨fx, ⟨hI, Or.inl ⟨by omega, rfl, rfl⟩⟩⟩
  · skip
    refine K_iload_n (pc := 10) (i := 6) rfl rfl ?_
    refine K_i2l (pc := 11) (i := 7) rfl ?_
    refine K_eqJ (kI2l_eq (a := x2) (by omega)) ?_
    refine K_lconst 0 (pc := 12) (i := 8) rfl rfl ?_
    refine K_ldc2 (40) (pc := 13) (i := 9) rfl cl_Model_124 (by decide) ?_
    refine K_cSI (pc := 16) (i := 10) rfl (c_Model_in G (l0 := x2) (l2 := 0) (l4 := 40) (s0 := by omega) (s2 := by omega) (s4 := by omega)) (ls_Model_65 rfl) rfl rfl rfl rfl (fun v16 h16 q16 => ?_)
    obtain ⟨eh, r16⟩ := q16
    rw [eh]; clear eh
    first | refine K_if_eq 47 (pc := 19) (i := 11) rfl rfl (by omega) (fun b19 => ?_) (fun b19 => ?_) | refine K_if_eq_an 47 (pc := 19) (i := 11) rfl rfl (fun b19 => ?_) (fun b19 => ?_)
    · skip
      refine K_bipush (pc := 47) (i := 24) rfl rfl ?_
      exact K_retI (pc := 49) (i := 25) rfl rfl ⟨fx, ⟨hI, Or.inl ⟨by omega, rfl, rfl⟩⟩⟩
    · skip
      refine K_iload_n (pc := 22) (i := 12) rfl rfl ?_
      refine K_i2l (pc := 23) (i := 13) rfl ?_
      refine K_eqJ (kI2l_eq (a := x3) (by omega)) ?_
      refine K_lconst 1 (pc := 24) (i := 14) rfl rfl ?_
      refine K_ldc2 (9) (pc := 25) (i := 15) rfl cl_Model_80 (by decide) ?_
      refine K_cSI (pc := 28) (i := 16) rfl (c_Model_in G (l0 := x3) (l2 := 1) (l4 := 9) (s0 := by omega) (s2 := by omega) (s4 := by omega)) (ls_Model_65 rfl) rfl rfl rfl rfl (fun v28 h28 q28 => ?_)
      obtain ⟨eh, r28⟩ := q28
      rw [eh]; clear eh
      first | refine K_if_eq 47 (pc := 31) (i := 17) rfl rfl (by omega) (fun b31 => ?_) (fun b31 => ?_) | refine K_if_eq_an 47 (pc := 31) (i := 17) rfl rfl (fun b31 => ?_) (fun b31 => ?_)
      · skip
        refine K_bipush (pc := 47) (i := 24) rfl rfl ?_
        exact K_retI (pc := 49) (i := 25) rfl rfl ⟨fx, ⟨hI, Or.inl ⟨by omega, rfl, rfl⟩⟩⟩
      · skip
        refine K_iload (pc := 34) (i := 18) rfl rfl ?_
        refine K_i2l (pc := 36) (i := 19) rfl ?_
        refine K_eqJ (kI2l_eq (a := x4) (by omega)) ?_
        refine K_lconst 0 (pc := 37) (i := 20) rfl rfl ?_
        refine K_ldc2 (9) (pc := 38) (i := 21) rfl cl_Model_80 (by decide) ?_
        refine K_cSI (pc := 41) (i := 22) rfl (c_Model_in G (l0 := x4) (l2 := 0) (l4 := 9) (s0 := by omega) (s2 := by omega) (s4 := by omega)) (ls_Model_65 rfl) rfl rfl rfl rfl (fun v41 h41 q41 => ?_)
        obtain ⟨eh, r41⟩ := q41
        rw [eh]; clear eh
        first | refine K_if_ne 50 (pc := 44) (i := 23) rfl rfl (by omega) (fun b44 => ?_) (fun b44 => ?_) | refine K_if_ne_an 50 (pc := 44) (i := 23) rfl rfl (fun b44 => ?_) (fun b44 => ?_)
        · skip
          refine K_aload_n (pc := 50) (i := 26) rfl rfl ?_
          refine K_iload_n (pc := 51) (i := 27) rfl rfl ?_
          refine K_cVI (pc := 52) (i := 28) rfl (c_Model_isStake G (x1 := x2) (hk := hk) (hI := hI) (s1 := by omega)) S_184 rfl (lv_Model_126 rfl) rfl rfl rfl rfl rfl (fun v52 h52 q52 => ?_)
          obtain ⟨eh, r52⟩ := q52
          rw [eh]; clear eh
          have k52 : v52 = 0 ∨ v52 = 1 := r52.elim (fun q => Or.inr q.1) (fun q => Or.inl q.1)
          first | refine K_if_eq 61 (pc := 55) (i := 29) rfl rfl (by omega) (fun b55 => ?_) (fun b55 => ?_) | refine K_if_eq_an 61 (pc := 55) (i := 29) rfl rfl (fun b55 => ?_) (fun b55 => ?_)
          · skip
            refine K_aload_n (pc := 61) (i := 32) rfl rfl ?_
            refine K_getI (pc := 62) (i := 33) (j := 4) rfl S_184 rfl (by decide) rfl fw_Model_59 ?_
            refine K_nm (fun v62 e62 => ?_)
            have r62 := rd_many hI
            rw [← e62] at r62
            refine K_bipush (pc := 65) (i := 34) rfl rfl ?_
            first | refine K_icmp_ne 73 (pc := 67) (i := 35) rfl rfl (by omega) (by omega) (fun b67 => ?_) (fun b67 => ?_) | refine K_icmp_ne_an 73 (pc := 67) (i := 35) rfl rfl (fun b67 => ?_) (fun b67 => ?_)
            · skip
              refine K_aload_n (pc := 73) (i := 38) rfl rfl ?_
              refine K_cVV (pc := 74) (i := 39) rfl (c_Model_keepAct G (hI := hI)) S_184 rfl (lv_Model_121 rfl) rfl rfl rfl rfl rfl (fun h74 q74 => ?_)
              obtain ⟨fx74, q74⟩ := q74
              obtain ⟨hI, mr74⟩ := q74
              have fx := fx.tr fx74 (fun c i q => (by first | (dsimp only at q ⊢; omega) | omega))
              have n74 : h74 184 4 = h 184 4 := fx74 184 4 (by first | (dsimp only; omega) | omega | exact not_false)
              have k74 : h74 187 = h 187 := fx74.cell 187 (fun i => (by first | (dsimp only; omega) | omega))
              refine K_aload_n (pc := 77) (i := 40) rfl rfl ?_
              refine K_iload_n (pc := 78) (i := 41) rfl rfl ?_
              refine K_iload_n (pc := 79) (i := 42) rfl rfl ?_
              refine K_iload_n (pc := 80) (i := 43) rfl rfl ?_
              refine K_iload (pc := 81) (i := 44) rfl rfl ?_
              refine K_cVV (pc := 83) (i := 45) rfl (c_Model_add G (x1 := x1) (x2 := x2) (x3 := x3) (x4 := x4) (hm := by rw [n74]; omega) (hf := fun ⟨i, a, b⟩ => (r52.elim (fun q => absurd q.1 (by omega)) (fun q => q.2)) ⟨i, by rw [← n74]; exact a, by rw [← k74]; exact b⟩) (hI := hI) (s1 := by omega) (s2 := by omega) (s3 := by omega) (s4 := by omega)) S_184 rfl (lv_Model_129 rfl) rfl rfl rfl rfl rfl (fun h83 q83 => ?_)
              obtain ⟨fx83, q83⟩ := q83
              obtain ⟨hI, ad83, ak83⟩ := q83
              have fx := fx.tr fx83 (fun c i q => (by first | (dsimp only at q ⊢; omega) | omega))
              rw [n74] at ad83
              rw [n74, k74] at ak83
              refine K_aload_n (pc := 86) (i := 46) rfl rfl ?_
              refine K_getI (pc := 87) (i := 47) (j := 4) rfl S_184 rfl (by decide) rfl fw_Model_59 ?_
              refine K_nm (fun v87 e87 => ?_)
              have r87 := rd_many hI
              rw [← e87] at r87
              refine K_iconst (pc := 90) (i := 48) rfl ?_
              refine K_isub (pc := 91) (i := 49) rfl ?_
              exact K_retI (pc := 92) (i := 50) rfl rfl ⟨fx, ⟨hI, Or.inr (Or.inr (Or.inr ⟨by omega, r52.elim (fun q => absurd q.1 (by omega)) (fun q => q.2), by omega, by omega, mr74.of (fx83.cell 191 (fun i => (by first | (dsimp only; omega) | omega))) (fx83 184 11 (by first | (dsimp only; omega) | omega | exact not_false)) (fx83 184 12 (by first | (dsimp only; omega) | omega | exact not_false)), ad83, ak83⟩))⟩⟩
            · skip
              refine K_bipush (pc := 70) (i := 36) rfl rfl ?_
              exact K_retI (pc := 72) (i := 37) rfl rfl ⟨fx, ⟨hI, Or.inr (Or.inr (Or.inl ⟨by omega, r52.elim (fun q => absurd q.1 (by omega)) (fun q => q.2), by omega, rfl, rfl⟩))⟩⟩
          · skip
            refine K_bipush (pc := 58) (i := 30) rfl rfl ?_
            exact K_retI (pc := 60) (i := 31) rfl rfl ⟨fx, ⟨hI, Or.inr (Or.inl ⟨by omega, r52.elim (fun q => q.2) (fun q => absurd q.1 (by omega)), rfl, rfl⟩)⟩⟩
        · skip
          refine K_bipush (pc := 47) (i := 24) rfl rfl ?_
          exact K_retI (pc := 49) (i := 25) rfl rfl ⟨fx, ⟨hI, Or.inl ⟨by omega, rfl, rfl⟩⟩⟩
end
section
def PM (h : kH) (t gl n : Int) (c : Nat) (v : Int) : Prop := ∃ (k0 k' : Nat → Int) (n' : Int) (d : Nat → Int), AK (h 187) k0 (h 184 4).toNat t ((c / 9 : Nat) : Int) (((c % 9 : Nat) : Int) + 1) gl ∧ MTK (h 188) n.toNat k0 (h 184 4 + 1) k' n' d ∧ v = d t.toNat - d (1 - t).toNat
theorem PM.mk {h hb h1 h2 h3 : kH} {t gl n s e l : Int} {c : Nat} (ec : ((c / 9 : Nat) : Int) = s) (ee : ((c % 9 : Nat) : Int) + 1 = e) (h0 : 0 ≤ h 184 4) (h7 : h 184 4 ≤ 7) (e4 : hb 184 4 = h 184 4) (ks : ∀ j : Nat, (j : Int) < 5 * h 184 4 → hb 187 j = h 187 j) (ak : AK (hb 187) (h1 187) (hb 184 4).toNat t s e gl) (cp : ∀ j : Nat, j < 40 → h2 187 (40 + j) = h1 187 j) (ew : h2 188 = h 188) (hl : l = h 184 4 + 1) (mt : ∃ (k' : Nat → Int) (n' : Int), MTK (h2 188) n.toNat (kap h2 40) l k' n' (h3 192)) : PM h t gl n c (h3 192 t.toNat - h3 192 (1 - t).toNat) := by
  subst ec; subst ee; subst hl
  obtain ⟨k', n', mt⟩ := mt
  rw [ew] at mt
  rw [e4] at ak
  obtain ⟨a0, a1, a2, a3, a4, a5⟩ := ak
  have kp : ∀ j, j < 40 → kap h2 40 j = h1 187 j := fun j hj => cp j hj
  refine ⟨kap h2 40, k', n', h3 192, ⟨fun j hj => ?_, ?_, ?_, ?_, ?_, ?_⟩, mt, rfl⟩
  · rw [kp j (by omega), a0 j hj]; exact ks j (by omega)
  · rw [kp _ (by omega)]; exact a1
  · rw [kp _ (by omega)]; exact a2
  · rw [kp _ (by omega)]; exact a3
  · rw [kp _ (by omega)]; exact a4
  · rw [kp _ (by omega)]; exact a5
def CMtoLaunch (h : kH) (t gl n z : Int) : Prop := (¬ ((0 ≤ t ∧ t ≤ 1) ∧ (0 ≤ gl ∧ gl ≤ 9) ∧ 1 ≤ n ∧ n ≤ 5) ∧ z = -2) ∨ (((0 ≤ t ∧ t ≤ 1) ∧ (0 ≤ gl ∧ gl ≤ 9) ∧ 1 ≤ n ∧ n ≤ 5) ∧ h 184 4 = 8 ∧ z = -4) ∨ (((0 ≤ t ∧ t ≤ 1) ∧ (0 ≤ gl ∧ gl ≤ 9) ∧ 1 ≤ n ∧ n ≤ 5) ∧ h 184 4 ≤ 7 ∧ ∃ m : Int, TLR (PM h t gl n) (fun s => ¬ hsM h s) (-99) (-9) 369 m z)
theorem hsM.of {h hb : kH} {x : Int} (e4 : hb 184 4 = h 184 4) (ks : ∀ j : Nat, (j : Int) < 5 * h 184 4 → hb 187 j = h 187 j) : hsM hb x ↔ hsM h x := by
  unfold hsM
  rw [e4]
  constructor
  · rintro ⟨i, a, b⟩
    exact ⟨i, a, by rw [← ks _ (by omega)]; exact b⟩
  · rintro ⟨i, a, b⟩
    exact ⟨i, a, by rw [ks _ (by omega)]; exact b⟩
set_option maxHeartbeats 4000000 in
set_option maxRecDepth 100000 in
theorem c_Model_toLaunch (G : kG) {g : kGh} {h : kH}  (hT : g.2.2.2.2){x1 : Int} {x2 : Int} {x3 : Int} (s1 : kR x1) (s2 : kR x2) (s3 : kR x3) (hI : Gd g h) : Ctr G y_Model_toLaunch X_Model_toLaunch 13 [.ref (G.2.2.2 184), kI x1, kI x2, kI x3] h (kQi (fun z h' => Fx (fun c i => c = 187 ∨ c = 192 ∨ (c = 184 ∧ i = 4)) h h' ∧ (Gd g h' ∧ (h' 184 4 = h 184 4 ∧ (∀ j : Nat, (j : Int) < 5 * h 184 4 → h' 187 j = h 187 j)) ∧ CMtoLaunch h x1 x2 x3 z))) := by
  refine Ctr.ofK (by decide) rfl T_Model_toLaunch (Nat.le_of_ble_eq_true rfl) (lo := [(0, .ref (G.2.2.2 184)), (1, kI x1), (2, kI x2), (3, kI x3)]) rfl ?_
  have fx : Fx (fun c i => c = 187 ∨ c = 192 ∨ (c = 184 ∧ i = 4)) h h := Fx.rf
  have hm8 := rd_many hI
  refine K_iload_n (pc := 0) (i := 0) rfl rfl ?_
  refine K_i2l (pc := 1) (i := 1) rfl ?_
  refine K_eqJ (kI2l_eq (a := x1) (by omega)) ?_
  refine K_lconst 0 (pc := 2) (i := 2) rfl rfl ?_
  refine K_lconst 1 (pc := 3) (i := 3) rfl rfl ?_
  refine K_cSI (pc := 4) (i := 4) rfl (c_Model_in G (l0 := x1) (l2 := 0) (l4 := 1) (s0 := by omega) (s2 := by omega) (s4 := by omega)) (ls_Model_65 rfl) rfl rfl rfl rfl (fun v4 h4 q4 => ?_)
  obtain ⟨eh, r4⟩ := q4
  rw [eh]; clear eh
  first | refine K_if_eq 34 (pc := 7) (i := 5) rfl rfl (by omega) (fun b7 => ?_) (fun b7 => ?_) | refine K_if_eq_an 34 (pc := 7) (i := 5) rfl rfl (fun b7 => ?_) (fun b7 => ?_)
  · skip
    refine K_bipush (pc := 34) (i := 18) rfl rfl ?_
    exact K_retI (pc := 36) (i := 19) rfl rfl ⟨fx, ⟨hI, ⟨rfl, fun _ _ => rfl⟩, Or.inl ⟨by omega, rfl⟩⟩⟩
  · skip
    refine K_iload_n (pc := 10) (i := 6) rfl rfl ?_
    refine K_i2l (pc := 11) (i := 7) rfl ?_
    refine K_eqJ (kI2l_eq (a := x2) (by omega)) ?_
    refine K_lconst 0 (pc := 12) (i := 8) rfl rfl ?_
    refine K_ldc2 (9) (pc := 13) (i := 9) rfl cl_Model_80 (by decide) ?_
    refine K_cSI (pc := 16) (i := 10) rfl (c_Model_in G (l0 := x2) (l2 := 0) (l4 := 9) (s0 := by omega) (s2 := by omega) (s4 := by omega)) (ls_Model_65 rfl) rfl rfl rfl rfl (fun v16 h16 q16 => ?_)
    obtain ⟨eh, r16⟩ := q16
    rw [eh]; clear eh
    first | refine K_if_eq 34 (pc := 19) (i := 11) rfl rfl (by omega) (fun b19 => ?_) (fun b19 => ?_) | refine K_if_eq_an 34 (pc := 19) (i := 11) rfl rfl (fun b19 => ?_) (fun b19 => ?_)
    · skip
      refine K_bipush (pc := 34) (i := 18) rfl rfl ?_
      exact K_retI (pc := 36) (i := 19) rfl rfl ⟨fx, ⟨hI, ⟨rfl, fun _ _ => rfl⟩, Or.inl ⟨by omega, rfl⟩⟩⟩
    · skip
      refine K_iload_n (pc := 22) (i := 12) rfl rfl ?_
      refine K_i2l (pc := 23) (i := 13) rfl ?_
      refine K_eqJ (kI2l_eq (a := x3) (by omega)) ?_
      refine K_lconst 1 (pc := 24) (i := 14) rfl rfl ?_
      refine K_ldc2 (5) (pc := 25) (i := 15) rfl cl_Model_190 (by decide) ?_
      refine K_cSI (pc := 28) (i := 16) rfl (c_Model_in G (l0 := x3) (l2 := 1) (l4 := 5) (s0 := by omega) (s2 := by omega) (s4 := by omega)) (ls_Model_65 rfl) rfl rfl rfl rfl (fun v28 h28 q28 => ?_)
      obtain ⟨eh, r28⟩ := q28
      rw [eh]; clear eh
      first | refine K_if_ne 37 (pc := 31) (i := 17) rfl rfl (by omega) (fun b31 => ?_) (fun b31 => ?_) | refine K_if_ne_an 37 (pc := 31) (i := 17) rfl rfl (fun b31 => ?_) (fun b31 => ?_)
      · skip
        refine K_aload_n (pc := 37) (i := 20) rfl rfl ?_
        refine K_getI (pc := 38) (i := 21) (j := 4) rfl S_184 rfl (by decide) rfl fw_Model_59 ?_
        refine K_nm (fun v38 e38 => ?_)
        have r38 := rd_many hI
        rw [← e38] at r38
        refine K_bipush (pc := 41) (i := 22) rfl rfl ?_
        first | refine K_icmp_ne 49 (pc := 43) (i := 23) rfl rfl (by omega) (by omega) (fun b43 => ?_) (fun b43 => ?_) | refine K_icmp_ne_an 49 (pc := 43) (i := 23) rfl rfl (fun b43 => ?_) (fun b43 => ?_)
        · skip
          refine K_bipush (pc := 49) (i := 26) rfl rfl ?_
          refine K_ist (pc := 51) (i := 27) (lo' := [(0, _), (1, _), (2, _), (3, _), (4, _)]) rfl rfl rfl rfl ?_
          refine K_bipush (pc := 53) (i := 28) rfl rfl ?_
          refine K_ist (pc := 55) (i := 29) (lo' := [(0, _), (1, _), (2, _), (3, _), (4, _), (5, _)]) rfl rfl rfl rfl ?_
          refine K_iconst (pc := 57) (i := 30) rfl ?_
          refine K_ist (pc := 58) (i := 31) (lo' := [(0, _), (1, _), (2, _), (3, _), (4, _), (5, _), (6, _)]) rfl rfl rfl rfl ?_
          have L60 : ∀ (n : Nat) (x4 : Int) (x5 : Int) (x6 : Int) (ha : kH), (41 - x6).toNat < n → (Gd g ha) → (Fx (fun c i => c = 187 ∨ c = 192 ∨ (c = 184 ∧ i = 4)) h ha) → ((0 ≤ x6 ∧ x6 ≤ 41) ∧ (-100 ≤ x5 ∧ x5 ≤ 100) ∧ (ha 184 4 = h 184 4 ∧ (∀ j : Nat, (j : Int) < 5 * h 184 4 → ha 187 j = h 187 j)) ∧ TLR (PM h x1 x2 x3) (fun s => ¬ hsM h s) (-99) (-9) (9 * x6.toNat) x5 x4) → K X_Model_toLaunch G (kZm G 13 (kQi (fun z h' => Fx (fun c i => c = 187 ∨ c = 192 ∨ (c = 184 ∧ i = 4)) h h' ∧ (Gd g h' ∧ (h' 184 4 = h 184 4 ∧ (∀ j : Nat, (j : Int) < 5 * h 184 4 → h' 187 j = h 187 j)) ∧ CMtoLaunch h x1 x2 x3 z)))) 60 [(0, .ref (G.2.2.2 184)), (1, kI x1), (2, kI x2), (3, kI x3), (4, kI x4), (5, kI x5), (6, kI x6)] [] ha := by
            intro n
            induction n with
            | zero => intro x4 x5 x6 ha hm; exact absurd hm (Nat.not_lt_zero _)
            | succ n ih60 =>
              intro x4 x5 x6 ha hm60 hI fx hV60
              refine K_iload (pc := 60) (i := 32) rfl rfl ?_
              refine K_bipush (pc := 62) (i := 33) rfl rfl ?_
              first | refine K_icmp_ge 186 (pc := 64) (i := 34) rfl rfl (by omega) (by omega) (fun b64 => ?_) (fun b64 => ?_) | refine K_icmp_ge_an 186 (pc := 64) (i := 34) rfl rfl (fun b64 => ?_) (fun b64 => ?_)
              · skip
                refine K_iload (pc := 186) (i := 97) rfl rfl ?_
                exact K_retI (pc := 188) (i := 98) rfl rfl ⟨fx, ⟨hI, hV60.2.2.1, Or.inr (Or.inr ⟨by omega, by omega, x5, by have q := hV60.2.2.2; rwa [show x6.toNat = 41 by omega] at q⟩)⟩⟩
              · skip
                refine K_iconst (pc := 67) (i := 35) rfl ?_
                refine K_ist (pc := 68) (i := 36) (lo' := [(0, _), (1, _), (2, _), (3, _), (4, _), (5, _), (6, _), (7, _)]) rfl rfl rfl rfl ?_
                have L70 : ∀ (n : Nat) (x4b : Int) (x5b : Int) (x7b : Int) (hb : kH), (10 - x7b).toNat < n → (Gd g hb) → (Fx (fun c i => c = 187 ∨ c = 192 ∨ (c = 184 ∧ i = 4)) h hb) → ((1 ≤ x7b ∧ x7b ≤ 10) ∧ (-100 ≤ x5b ∧ x5b ≤ 100) ∧ (hb 184 4 = h 184 4 ∧ (∀ j : Nat, (j : Int) < 5 * h 184 4 → hb 187 j = h 187 j)) ∧ TLR (PM h x1 x2 x3) (fun s => ¬ hsM h s) (-99) (-9) (9 * x6.toNat + (x7b - 1).toNat) x5b x4b) → K X_Model_toLaunch G (kZm G 13 (kQi (fun z h' => Fx (fun c i => c = 187 ∨ c = 192 ∨ (c = 184 ∧ i = 4)) h h' ∧ (Gd g h' ∧ (h' 184 4 = h 184 4 ∧ (∀ j : Nat, (j : Int) < 5 * h 184 4 → h' 187 j = h 187 j)) ∧ CMtoLaunch h x1 x2 x3 z)))) 70 [(0, .ref (G.2.2.2 184)), (1, kI x1), (2, kI x2), (3, kI x3), (4, kI x4b), (5, kI x5b), (6, kI x6), (7, kI x7b)] [] hb := by
                  intro n
                  induction n with
                  | zero => intro x4b x5b x7b hb hm; exact absurd hm (Nat.not_lt_zero _)
                  | succ n ih70 =>
                    intro x4b x5b x7b hb hm70 hI fx hV70
                    refine K_iload (pc := 70) (i := 37) rfl rfl ?_
                    refine K_bipush (pc := 72) (i := 38) rfl rfl ?_
                    first | refine K_icmp_ge 180 (pc := 74) (i := 39) rfl rfl (by omega) (by omega) (fun b74 => ?_) (fun b74 => ?_) | refine K_icmp_ge_an 180 (pc := 74) (i := 39) rfl rfl (fun b74 => ?_) (fun b74 => ?_)
                    · skip
                      refine K_inc (pc := 180) (i := 95) (q := 6) (lo' := [(0, _), (1, _), (2, _), (3, _), (4, _), (5, _), (6, _), (7, _)]) rfl rfl rfl rfl rfl ?_
                      refine K_goto 60 (pc := 183) (i := 96) rfl rfl ?_
                      refine K_drop (lo' := [(0, .ref (G.2.2.2 184)), (1, kI x1), (2, kI x2), (3, kI x3), (4, kI x4b), (5, kI x5b), (6, kI (x6 + 1))]) [0, 1, 2, 3, 4, 5, 6] rfl ?_
                      exact ih60 x4b x5b (x6 + 1) _ (by omega) hI fx (by first | exact ⟨by omega, by omega, hV70.2.2.1, by rw [show 9 * (x6 + 1).toNat = 9 * x6.toNat + (x7b - 1).toNat by omega]; exact hV70.2.2.2⟩ | exact ⟨by omega, by omega, hV70.2.2.1, by rw [show 9 * (x6 + 1).toNat = 9 * x6.toNat + 9 by omega]; exact TLR.skip2 (fun q => q (by rw [show ((x6.toNat : Nat) : Int) = x6 by omega]; exact r80.elim (fun e => e.2) (fun e => absurd e.1 (by omega)))) (by omega) hV70.2.2.2⟩)
                    · skip
                      refine K_aload_n (pc := 77) (i := 40) rfl rfl ?_
                      refine K_iload (pc := 78) (i := 41) rfl rfl ?_
                      refine K_cVI (pc := 80) (i := 42) rfl (c_Model_isStake G (x1 := x6) (hk := (hI.2.2.2.2.2 hT).1) (hI := hI) (s1 := by omega)) S_184 rfl (lv_Model_126 rfl) rfl rfl rfl rfl rfl (fun v80 h80 q80 => ?_)
                      obtain ⟨eh, r80⟩ := q80
                      rw [eh]; clear eh
                      rw [hsM.of hV70.2.2.1.1 hV70.2.2.1.2] at r80
                      have k80 : v80 = 0 ∨ v80 = 1 := r80.elim (fun q => Or.inr q.1) (fun q => Or.inl q.1)
                      first | refine K_if_ne 180 (pc := 83) (i := 43) rfl rfl (by omega) (fun b83 => ?_) (fun b83 => ?_) | refine K_if_ne_an 180 (pc := 83) (i := 43) rfl rfl (fun b83 => ?_) (fun b83 => ?_)
                      · skip
                        refine K_inc (pc := 180) (i := 95) (q := 6) (lo' := [(0, _), (1, _), (2, _), (3, _), (4, _), (5, _), (6, _), (7, _)]) rfl rfl rfl rfl rfl ?_
                        refine K_goto 60 (pc := 183) (i := 96) rfl rfl ?_
                        refine K_drop (lo' := [(0, .ref (G.2.2.2 184)), (1, kI x1), (2, kI x2), (3, kI x3), (4, kI x4b), (5, kI x5b), (6, kI (x6 + 1))]) [0, 1, 2, 3, 4, 5, 6] rfl ?_
                        exact ih60 x4b x5b (x6 + 1) _ (by omega) hI fx (by first | exact ⟨by omega, by omega, hV70.2.2.1, by rw [show 9 * (x6 + 1).toNat = 9 * x6.toNat + (x7b - 1).toNat by omega]; exact hV70.2.2.2⟩ | exact ⟨by omega, by omega, hV70.2.2.1, by rw [show 9 * (x6 + 1).toNat = 9 * x6.toNat + 9 by omega]; exact TLR.skip2 (fun q => q (by rw [show ((x6.toNat : Nat) : Int) = x6 by omega]; exact r80.elim (fun e => e.2) (fun e => absurd e.1 (by omega)))) (by omega) hV70.2.2.2⟩)
                      · skip
                        have fr86 : ¬ hsM h (((9 * x6.toNat + (x7b - 1).toNat) / 9 : Nat) : Int) := by rw [show (((9 * x6.toNat + (x7b - 1).toNat) / 9 : Nat) : Int) = x6 by omega]; exact r80.elim (fun q => absurd q.1 (by omega)) (fun q => q.2)
                        have nf86 : ¬ hsM hb x6 := fun q => fr86 (by rw [show (((9 * x6.toNat + (x7b - 1).toNat) / 9 : Nat) : Int) = x6 by omega]; exact (hsM.of hV70.2.2.1.1 hV70.2.2.1.2).1 q)
                        refine K_aload_n (pc := 86) (i := 44) rfl rfl ?_
                        refine K_iload_n (pc := 87) (i := 45) rfl rfl ?_
                        refine K_iload (pc := 88) (i := 46) rfl rfl ?_
                        refine K_iload (pc := 90) (i := 47) rfl rfl ?_
                        refine K_iload_n (pc := 92) (i := 48) rfl rfl ?_
                        refine K_cVV (pc := 93) (i := 49) rfl (c_Model_add G (x1 := x1) (x2 := x6) (x3 := x7b) (x4 := x2) (hm := by rw [hV70.2.2.1.1]; omega) (hf := nf86) (hI := hI) (s1 := by omega) (s2 := by omega) (s3 := by omega) (s4 := by omega)) S_184 rfl (lv_Model_129 rfl) rfl rfl rfl rfl rfl (fun h93 q93 => ?_)
                        obtain ⟨fx93, q93⟩ := q93
                        obtain ⟨hI, ad93, ak93⟩ := q93
                        have fx := fx.tr fx93 (fun c i q => (by first | (dsimp only at q ⊢; omega) | omega))
                        have hJ := hI
                        refine K_aload_n (pc := 96) (i := 50) rfl rfl ?_
                        refine K_cVV (pc := 97) (i := 51) rfl (c_Model_copy G (hI := hI)) S_184 rfl (lv_Model_165 rfl) rfl rfl rfl rfl rfl (fun h97 q97 => ?_)
                        obtain ⟨fx97, q97⟩ := q97
                        obtain ⟨hI, cp97⟩ := q97
                        have fx := fx.tr fx97 (fun c i q => (by first | (dsimp only at q ⊢; omega) | omega))
                        have fk97 : FK (kap h97 40) (h97 184 4) := by rw [fx97 184 4 (by first | (dsimp only; omega) | omega | exact not_false)]; exact FK.copy (hJ.2.2.2.2.2 hT).1 (rd_many hJ).2 cp97
                        have t97 : h97 184 4 = h 184 4 + 1 := by rw [fx97 184 4 (by first | (dsimp only; omega) | omega | exact not_false), ad93, hV70.2.2.1.1]
                        have w97 : h97 188 = h 188 := fx.cell 188 (fun i => (by first | (dsimp only; omega) | omega))
                        refine K_aload_n (pc := 100) (i := 52) rfl rfl ?_
                        refine K_aload_n (pc := 101) (i := 53) rfl rfl ?_
                        refine K_getI (pc := 102) (i := 54) (j := 4) rfl S_184 rfl (by decide) rfl fw_Model_59 ?_
                        refine K_nm (fun v102 e102 => ?_)
                        have r102 := rd_many hI
                        rw [← e102] at r102
                        refine K_iload_n (pc := 105) (i := 55) rfl rfl ?_
                        refine K_cVV (pc := 106) (i := 56) rfl (c_Model_blowAll G (x1 := v102) (x2 := x3) (hk := by rw [e102]; exact fk97) (hI := hI) (s1 := by omega) (s2 := by omega)) S_184 rfl (lv_Model_168 rfl) rfl rfl rfl rfl rfl (fun h106 q106 => ?_)
                        obtain ⟨fx106, q106⟩ := q106
                        obtain ⟨hI, ga106, mt106⟩ := q106
                        have fx := fx.tr fx106 (fun c i q => (by first | (dsimp only at q ⊢; omega) | omega))
                        refine K_aload_n (pc := 109) (i := 57) rfl rfl ?_
                        refine K_dup (pc := 110) (i := 58) rfl rfl ?_
                        refine K_getI (pc := 111) (i := 59) (j := 4) rfl S_184 rfl (by decide) rfl fw_Model_59 ?_
                        refine K_nm (fun v111 e111 => ?_)
                        have r111 := rd_many hI
                        rw [← e111] at r111
                        have t111 : v111 = h 184 4 + 1 := by rw [e111, fx106 184 4 (by first | (dsimp only; omega) | omega | exact not_false), t97]
                        refine K_iconst (pc := 114) (i := 60) rfl ?_
                        refine K_isub (pc := 115) (i := 61) rfl ?_
                        refine K_putI (pc := 116) (i := 62) (j := 4) rfl S_184 rfl (by decide) rfl rfl rfl fw_Model_59 ?_
                        have hI := st_many hI (v := v111 - 1) (by omega) (fun _ a => a.many (by omega))
                        have fx := Fx.st (c := 184) (i := 4) (v := v111 - 1) fx (by first | (dsimp only; omega) | omega | exact not_false)
                        have t116 : (kU h106 184 4 (v111 - 1)) 184 4 = h 184 4 := by rw [kU_at, if_pos ⟨rfl, rfl⟩]; omega
                        have s116 : ∀ j : Nat, (j : Int) < 5 * h 184 4 → (kU h106 184 4 (v111 - 1)) 187 j = h 187 j := fun j hj => by rw [kU_c _ _ _ _ (by decide), fx106 187 j (by first | (dsimp only; omega) | omega | exact not_false), fx97 187 j (by first | (dsimp only; omega) | omega | exact not_false), ak93.1 j (by rw [hV70.2.2.1.1]; omega)]; exact hV70.2.2.1.2 j hj
                        refine K_aload_n (pc := 119) (i := 63) rfl rfl ?_
                        refine K_getR (pc := 120) (i := 64) (j := 14) (d := 192) rfl S_184 rfl (by decide) rfl fw_Model_31 ?_
                        refine K_iload_n (pc := 123) (i := 65) rfl rfl ?_
                        refine K_iald (pc := 124) (i := 66) rfl S_192 (by omega) (by omega) (by decide) ?_
                        refine K_nm (fun v124 e124 => ?_)
                        have y124 : v124 = h106 192 x1.toNat := by rw [e124, kU_c _ _ _ _ (by decide)]
                        have u124 := ga106 x1.toNat (by omega)
                        rw [← y124] at u124
                        refine K_aload_n (pc := 125) (i := 67) rfl rfl ?_
                        refine K_getR (pc := 126) (i := 68) (j := 14) (d := 192) rfl S_184 rfl (by decide) rfl fw_Model_31 ?_
                        refine K_iconst (pc := 129) (i := 69) rfl ?_
                        refine K_iload_n (pc := 130) (i := 70) rfl rfl ?_
                        refine K_isub (pc := 131) (i := 71) rfl ?_
                        refine K_iald (pc := 132) (i := 72) rfl S_192 (by omega) (by omega) (by decide) ?_
                        refine K_nm (fun v132 e132 => ?_)
                        have y132 : v132 = h106 192 (1 - x1).toNat := by rw [e132, kU_c _ _ _ _ (by decide)]
                        have u132 := ga106 (1 - x1).toNat (by omega)
                        rw [← y132] at u132
                        have pm132 := PM.mk (c := 9 * x6.toNat + (x7b - 1).toNat) (n := x3) (h3 := h106) (by omega) (by omega) hm8.1 (by omega) hV70.2.2.1.1 hV70.2.2.1.2 ak93 cp97 w97 (by rw [e102, t97]) mt106
                        rw [← y124, ← y132] at pm132
                        refine K_isub (pc := 133) (i := 73) rfl ?_
                        refine K_ist (pc := 134) (i := 74) (lo' := [(0, _), (1, _), (2, _), (3, _), (4, _), (5, _), (6, _), (7, _), (8, _)]) rfl rfl rfl rfl ?_
                        refine K_iload (pc := 136) (i := 75) rfl rfl ?_
                        refine K_iload (pc := 138) (i := 76) rfl rfl ?_
                        first | refine K_icmp_le 154 (pc := 140) (i := 77) rfl rfl (by omega) (by omega) (fun b140 => ?_) (fun b140 => ?_) | refine K_icmp_le_an 154 (pc := 140) (i := 77) rfl rfl (fun b140 => ?_) (fun b140 => ?_)
                        · skip
                          refine K_iload (pc := 154) (i := 84) rfl rfl ?_
                          refine K_ist (pc := 156) (i := 85) (lo' := [(0, _), (1, _), (2, _), (3, _), (4, _), (5, _), (6, _), (7, _), (8, _)]) rfl rfl rfl rfl ?_
                          refine K_iload (pc := 158) (i := 86) rfl rfl ?_
                          refine K_iload (pc := 160) (i := 87) rfl rfl ?_
                          first | refine K_icmp_le 170 (pc := 162) (i := 88) rfl rfl (by omega) (by omega) (fun b162 => ?_) (fun b162 => ?_) | refine K_icmp_le_an 170 (pc := 162) (i := 88) rfl rfl (fun b162 => ?_) (fun b162 => ?_)
                          · skip
                            refine K_iload (pc := 170) (i := 91) rfl rfl ?_
                            refine K_ist (pc := 172) (i := 92) (lo' := [(0, _), (1, _), (2, _), (3, _), (4, _), (5, _), (6, _), (7, _), (8, _)]) rfl rfl rfl rfl ?_
                            refine K_inc (pc := 174) (i := 93) (q := 7) (lo' := [(0, _), (1, _), (2, _), (3, _), (4, _), (5, _), (6, _), (7, _), (8, _)]) rfl rfl rfl rfl rfl ?_
                            refine K_goto 70 (pc := 177) (i := 94) rfl rfl ?_
                            refine K_drop (lo' := [(0, .ref (G.2.2.2 184)), (1, kI x1), (2, kI x2), (3, kI x3), (4, kI x4b), (5, kI x5b), (6, kI x6), (7, kI (x7b + 1))]) [0, 1, 2, 3, 4, 5, 6, 7] rfl ?_
                            exact ih70 x4b x5b (x7b + 1) _ (by omega) hI fx (by first | exact ⟨by omega, by omega, ⟨t116, s116⟩, by rw [show 9 * x6.toNat + (x7b + 1 - 1).toNat = (9 * x6.toNat + (x7b - 1).toNat) + 1 by omega]; exact hV70.2.2.2.gt fr86 pm132 (by omega) (by omega)⟩ | exact ⟨by omega, by omega, ⟨t116, s116⟩, by rw [show 9 * x6.toNat + (x7b + 1 - 1).toNat = (9 * x6.toNat + (x7b - 1).toNat) + 1 by omega]; exact hV70.2.2.2.le fr86 pm132 (by omega)⟩ | exact False.elim (by omega))
                          · skip
                            refine K_iload (pc := 165) (i := 89) rfl rfl ?_
                            refine K_goto 172 (pc := 167) (i := 90) rfl rfl ?_
                            refine K_ist (pc := 172) (i := 92) (lo' := [(0, _), (1, _), (2, _), (3, _), (4, _), (5, _), (6, _), (7, _), (8, _)]) rfl rfl rfl rfl ?_
                            refine K_inc (pc := 174) (i := 93) (q := 7) (lo' := [(0, _), (1, _), (2, _), (3, _), (4, _), (5, _), (6, _), (7, _), (8, _)]) rfl rfl rfl rfl rfl ?_
                            refine K_goto 70 (pc := 177) (i := 94) rfl rfl ?_
                            refine K_drop (lo' := [(0, .ref (G.2.2.2 184)), (1, kI x1), (2, kI x2), (3, kI x3), (4, kI x4b), (5, kI (v124 - v132)), (6, kI x6), (7, kI (x7b + 1))]) [0, 1, 2, 3, 4, 5, 6, 7] rfl ?_
                            exact ih70 x4b (v124 - v132) (x7b + 1) _ (by omega) hI fx (by first | exact ⟨by omega, by omega, ⟨t116, s116⟩, by rw [show 9 * x6.toNat + (x7b + 1 - 1).toNat = (9 * x6.toNat + (x7b - 1).toNat) + 1 by omega]; exact hV70.2.2.2.gt fr86 pm132 (by omega) (by omega)⟩ | exact ⟨by omega, by omega, ⟨t116, s116⟩, by rw [show 9 * x6.toNat + (x7b + 1 - 1).toNat = (9 * x6.toNat + (x7b - 1).toNat) + 1 by omega]; exact hV70.2.2.2.le fr86 pm132 (by omega)⟩ | exact False.elim (by omega))
                        · skip
                          refine K_bipush (pc := 143) (i := 78) rfl rfl ?_
                          refine K_iload (pc := 145) (i := 79) rfl rfl ?_
                          refine K_imul (pc := 147) (i := 80) rfl ?_
                          refine K_iload (pc := 148) (i := 81) rfl rfl ?_
                          refine K_iadd (pc := 150) (i := 82) rfl ?_
                          refine K_goto 156 (pc := 151) (i := 83) rfl rfl ?_
                          refine K_ist (pc := 156) (i := 85) (lo' := [(0, _), (1, _), (2, _), (3, _), (4, _), (5, _), (6, _), (7, _), (8, _)]) rfl rfl rfl rfl ?_
                          refine K_iload (pc := 158) (i := 86) rfl rfl ?_
                          refine K_iload (pc := 160) (i := 87) rfl rfl ?_
                          first | refine K_icmp_le 170 (pc := 162) (i := 88) rfl rfl (by omega) (by omega) (fun b162 => ?_) (fun b162 => ?_) | refine K_icmp_le_an 170 (pc := 162) (i := 88) rfl rfl (fun b162 => ?_) (fun b162 => ?_)
                          · skip
                            refine K_iload (pc := 170) (i := 91) rfl rfl ?_
                            refine K_ist (pc := 172) (i := 92) (lo' := [(0, _), (1, _), (2, _), (3, _), (4, _), (5, _), (6, _), (7, _), (8, _)]) rfl rfl rfl rfl ?_
                            refine K_inc (pc := 174) (i := 93) (q := 7) (lo' := [(0, _), (1, _), (2, _), (3, _), (4, _), (5, _), (6, _), (7, _), (8, _)]) rfl rfl rfl rfl rfl ?_
                            refine K_goto 70 (pc := 177) (i := 94) rfl rfl ?_
                            refine K_drop (lo' := [(0, .ref (G.2.2.2 184)), (1, kI x1), (2, kI x2), (3, kI x3), (4, kI ((10 * x6) + x7b)), (5, kI x5b), (6, kI x6), (7, kI (x7b + 1))]) [0, 1, 2, 3, 4, 5, 6, 7] rfl ?_
                            exact ih70 ((10 * x6) + x7b) x5b (x7b + 1) _ (by omega) hI fx (by first | exact ⟨by omega, by omega, ⟨t116, s116⟩, by rw [show 9 * x6.toNat + (x7b + 1 - 1).toNat = (9 * x6.toNat + (x7b - 1).toNat) + 1 by omega]; exact hV70.2.2.2.gt fr86 pm132 (by omega) (by omega)⟩ | exact ⟨by omega, by omega, ⟨t116, s116⟩, by rw [show 9 * x6.toNat + (x7b + 1 - 1).toNat = (9 * x6.toNat + (x7b - 1).toNat) + 1 by omega]; exact hV70.2.2.2.le fr86 pm132 (by omega)⟩ | exact False.elim (by omega))
                          · skip
                            refine K_iload (pc := 165) (i := 89) rfl rfl ?_
                            refine K_goto 172 (pc := 167) (i := 90) rfl rfl ?_
                            refine K_ist (pc := 172) (i := 92) (lo' := [(0, _), (1, _), (2, _), (3, _), (4, _), (5, _), (6, _), (7, _), (8, _)]) rfl rfl rfl rfl ?_
                            refine K_inc (pc := 174) (i := 93) (q := 7) (lo' := [(0, _), (1, _), (2, _), (3, _), (4, _), (5, _), (6, _), (7, _), (8, _)]) rfl rfl rfl rfl rfl ?_
                            refine K_goto 70 (pc := 177) (i := 94) rfl rfl ?_
                            refine K_drop (lo' := [(0, .ref (G.2.2.2 184)), (1, kI x1), (2, kI x2), (3, kI x3), (4, kI ((10 * x6) + x7b)), (5, kI (v124 - v132)), (6, kI x6), (7, kI (x7b + 1))]) [0, 1, 2, 3, 4, 5, 6, 7] rfl ?_
                            exact ih70 ((10 * x6) + x7b) (v124 - v132) (x7b + 1) _ (by omega) hI fx (by first | exact ⟨by omega, by omega, ⟨t116, s116⟩, by rw [show 9 * x6.toNat + (x7b + 1 - 1).toNat = (9 * x6.toNat + (x7b - 1).toNat) + 1 by omega]; exact hV70.2.2.2.gt fr86 pm132 (by omega) (by omega)⟩ | exact ⟨by omega, by omega, ⟨t116, s116⟩, by rw [show 9 * x6.toNat + (x7b + 1 - 1).toNat = (9 * x6.toNat + (x7b - 1).toNat) + 1 by omega]; exact hV70.2.2.2.le fr86 pm132 (by omega)⟩ | exact False.elim (by omega))
                exact L70 _ x4 x5 1 _ (Nat.lt_succ_self _) hI fx ⟨by omega, by omega, hV60.2.2.1, hV60.2.2.2⟩
          exact L60 _ (-9) (-99) 0 _ (Nat.lt_succ_self _) hI fx ⟨by omega, by omega, ⟨rfl, fun _ _ => rfl⟩, rfl, rfl⟩
        · skip
          refine K_bipush (pc := 46) (i := 24) rfl rfl ?_
          exact K_retI (pc := 48) (i := 25) rfl rfl ⟨fx, ⟨hI, ⟨rfl, fun _ _ => rfl⟩, Or.inr (Or.inl ⟨by omega, by omega, rfl⟩)⟩⟩
      · skip
        refine K_bipush (pc := 34) (i := 18) rfl rfl ?_
        exact K_retI (pc := 36) (i := 19) rfl rfl ⟨fx, ⟨hI, ⟨rfl, fun _ _ => rfl⟩, Or.inl ⟨by omega, rfl⟩⟩⟩
end
section
/-- a kite is taken in: those behind it move up, as far as n -/
def TK (h1 h : kH) (k n : Nat) : Prop := (∀ j, 5 * k ≤ j → j < n → h 187 j = h1 187 (j + 5)) ∧ (∀ j, j < 5 * k ∨ n ≤ j → h 187 j = h1 187 j) ∧ (∀ c, c ≠ 187 → c ≠ 184 → h c = h1 c) ∧ h 184 4 = h1 184 4 - 1
theorem TK.k {h1 h : kH} {k n : Nat} {v : Int} (a : TK h1 h k n) (hn : 5 * k ≤ n) (hv : v = h 187 (n + 5)) : TK h1 (kU h 187 n v) k (n + 1) := by
  obtain ⟨a1, a2, a3, a4⟩ := a
  refine ⟨fun j h1 h2 => ?_, fun j hj => ?_, fun c hc hd => (kU_c _ _ _ _ hc).trans (a3 c hc hd), ?_⟩
  · rw [kU_at]
    by_cases e : j = n
    · rw [if_pos ⟨rfl, e⟩, hv, e, a2 (n + 5) (by omega)]
    · rw [if_neg (by omega)]; exact a1 j h1 (by omega)
  · rw [kU_at, if_neg (by omega)]; exact a2 j (by omega)
  · rw [kU_at, if_neg (by omega)]; exact a4
theorem TK.ok {h1 h : kH} {k n : Nat} (a : TK h1 h k n) (hn : h 184 4 * 5 ≤ n) (hk : (k : Int) < h1 184 4) (b : MOk h1) : MOk h := by
  obtain ⟨a1, a2, a3, a4⟩ := a
  unfold MOk
  rw [a3 191 (by decide) (by decide), a3 200 (by decide) (by decide)]
  refine ⟨FK.sub (fun i => if i < k then i else i + 1) b.1 (fun i hi => ?_) (fun i j hi hj hne => ?_), b.2.1, b.2.2⟩
  · by_cases e : i < k
    · simp only [if_pos e]
      exact ⟨by omega, a2 _ (by omega), a2 _ (by omega), a2 _ (by omega)⟩
    · simp only [if_neg e]
      exact ⟨by omega, (a1 _ (by omega) (by omega)).trans (by congr 1), (a1 _ (by omega) (by omega)).trans (by congr 1), (a1 _ (by omega) (by omega)).trans (by congr 1)⟩
  · split <;> split <;> omega
set_option maxHeartbeats 4000000 in
set_option maxRecDepth 100000 in
theorem c_Model_takeIn (G : kG) {g : kGh} {h : kH} {x1 : Int} (s1 : kR x1) (hI : Gd g h) : Ctr G y_Model_takeIn X_Model_takeIn 13 [.ref (G.2.2.2 184), kI x1] h (kQi (fun z h' => Fx (fun c i => c = 187 ∨ c = 191 ∨ (c = 184 ∧ (i = 4 ∨ i = 11 ∨ i = 12))) h h' ∧ (Gd g h' ∧ CMtakeIn h h' x1 z))) := by
  refine Ctr.ofK (by decide) rfl T_Model_takeIn (Nat.le_of_ble_eq_true rfl) (lo := [(0, .ref (G.2.2.2 184)), (1, kI x1)]) rfl ?_
  have fx : Fx (fun c i => c = 187 ∨ c = 191 ∨ (c = 184 ∧ (i = 4 ∨ i = 11 ∨ i = 12))) h h := Fx.rf
  refine K_aload_n (pc := 0) (i := 0) rfl rfl ?_
  refine K_iload_n (pc := 1) (i := 1) rfl rfl ?_
  refine K_cVI (pc := 2) (i := 2) rfl (c_Model_isKite G (x1 := x1) (hI := hI) (s1 := by omega)) S_184 rfl (lv_Model_102 rfl) rfl rfl rfl rfl rfl (fun v2 h2 q2 => ?_)
  obtain ⟨eh, r2⟩ := q2
  rw [eh]; clear eh
  first | refine K_if_ne 10 (pc := 5) (i := 3) rfl rfl (by omega) (fun b5 => ?_) (fun b5 => ?_) | refine K_if_ne_an 10 (pc := 5) (i := 3) rfl rfl (fun b5 => ?_) (fun b5 => ?_)
  · skip
    refine K_aload_n (pc := 10) (i := 6) rfl rfl ?_
    refine K_cVV (pc := 11) (i := 7) rfl (c_Model_keepAct G (hI := hI)) S_184 rfl (lv_Model_121 rfl) rfl rfl rfl rfl rfl (fun h11 q11 => ?_)
    obtain ⟨fx11, q11⟩ := q11
    obtain ⟨hI, mr11⟩ := q11
    have fx := fx.tr fx11 (fun c i q => (by first | (dsimp only at q ⊢; omega) | omega))
    have hG := hI
    have hI := hI.nf
    have u2 : h11 184 4 = h 184 4 := fx11 184 4 (by first | (dsimp only; omega) | omega | exact not_false)
    have k2 : h11 187 = h 187 := fx11.cell 187 (fun i => (by first | (dsimp only; omega) | omega))
    refine K_aload_n (pc := 14) (i := 8) rfl rfl ?_
    refine K_dup (pc := 15) (i := 9) rfl rfl ?_
    refine K_getI (pc := 16) (i := 10) (j := 4) rfl S_184 rfl (by decide) rfl fw_Model_59 ?_
    refine K_nm (fun v16 e16 => ?_)
    have r16 := rd_many hI
    rw [← e16] at r16
    refine K_iconst (pc := 19) (i := 11) rfl ?_
    refine K_isub (pc := 20) (i := 12) rfl ?_
    refine K_putI (pc := 21) (i := 13) (j := 4) rfl S_184 rfl (by decide) rfl rfl rfl fw_Model_59 ?_
    have hI := st_many hI (v := v16 - 1) (by omega) (fun e _ => False.elim e)
    have fx := Fx.st (c := 184) (i := 4) (v := v16 - 1) fx (by first | (dsimp only; omega) | omega | exact not_false)
    have tk : TK h11 (kU h11 184 4 (v16 - 1)) (x1).toNat (5 * x1.toNat) := ⟨fun j q w => absurd w (by omega), fun j _ => by rw [kU_c _ _ _ _ (show (187 : Nat) ≠ 184 by decide)], fun c _ q => kU_c _ _ _ _ q, by rw [kU_at, if_pos ⟨rfl, rfl⟩, e16]⟩
    have a21 : (kU h11 184 4 (v16 - 1)) 184 11 = h11 184 11 ∧ (kU h11 184 4 (v16 - 1)) 184 12 = h11 184 12 := ⟨by rw [kU_at, if_neg (by omega)], by rw [kU_at, if_neg (by omega)]⟩
    refine K_iconst (pc := 24) (i := 14) rfl ?_
    refine K_iload_n (pc := 25) (i := 15) rfl rfl ?_
    refine K_imul (pc := 26) (i := 16) rfl ?_
    refine K_ist_n (pc := 27) (i := 17) (lo' := [(0, _), (1, _), (2, _)]) rfl rfl rfl rfl ?_
    have L28 : ∀ (n : Nat) (x2 : Int) (ha : kH), (40 - x2).toNat < n → (Gd (kNf g) ha) → (Fx (fun c i => c = 187 ∨ c = 191 ∨ (c = 184 ∧ (i = 4 ∨ i = 11 ∨ i = 12))) h ha) → ((5 * x1 ≤ x2 ∧ x2 ≤ 40) ∧ TK h11 ha (x1).toNat x2.toNat ∧ (ha 184 11 = h11 184 11 ∧ ha 184 12 = h11 184 12)) → K X_Model_takeIn G (kZm G 13 (kQi (fun z h' => Fx (fun c i => c = 187 ∨ c = 191 ∨ (c = 184 ∧ (i = 4 ∨ i = 11 ∨ i = 12))) h h' ∧ (Gd g h' ∧ CMtakeIn h h' x1 z)))) 28 [(0, .ref (G.2.2.2 184)), (1, kI x1), (2, kI x2)] [] ha := by
      intro n
      induction n with
      | zero => intro x2 ha hm; exact absurd hm (Nat.not_lt_zero _)
      | succ n ih28 =>
        intro x2 ha hm28 hI fx hV28
        refine K_iload_n (pc := 28) (i := 18) rfl rfl ?_
        refine K_iconst (pc := 29) (i := 19) rfl ?_
        refine K_aload_n (pc := 30) (i := 20) rfl rfl ?_
        refine K_getI (pc := 31) (i := 21) (j := 4) rfl S_184 rfl (by decide) rfl fw_Model_59 ?_
        refine K_nm (fun v31 e31 => ?_)
        have r31 := rd_many hI
        rw [← e31] at r31
        refine K_imul (pc := 34) (i := 22) rfl ?_
        first | refine K_icmp_ge 58 (pc := 35) (i := 23) rfl rfl (by omega) (by omega) (fun b35 => ?_) (fun b35 => ?_) | refine K_icmp_ge_an 58 (pc := 35) (i := 23) rfl rfl (fun b35 => ?_) (fun b35 => ?_)
        · skip
          refine K_aload_n (pc := 58) (i := 36) rfl rfl ?_
          refine K_getI (pc := 59) (i := 37) (j := 4) rfl S_184 rfl (by decide) rfl fw_Model_59 ?_
          refine K_nm (fun v59 e59 => ?_)
          have r59 := rd_many hI
          rw [← e59] at r59
          exact K_retI (pc := 62) (i := 38) rfl rfl ⟨fx, ⟨Gd.fn hI (fun e => TK.ok hV28.2.1 (by omega) (by omega) (hG.2.2.2.2.2 e)), Or.inr ⟨by omega, e59, by rw [hV28.2.1.2.2.2, u2], mr11.of (hV28.2.1.2.2.1 191 (by decide) (by decide)) hV28.2.2.1 hV28.2.2.2, fun j hj => by rw [← k2]; exact hV28.2.1.2.1 j (Or.inl hj), fun j a b => by rw [← k2]; exact hV28.2.1.1 j a (by have := hV28.2.1.2.2.2; omega)⟩⟩⟩
        · skip
          refine K_aload_n (pc := 38) (i := 24) rfl rfl ?_
          refine K_getR (pc := 39) (i := 25) (j := 3) (d := 187) rfl S_184 rfl (by decide) rfl fw_Model_16 ?_
          refine K_iload_n (pc := 42) (i := 26) rfl rfl ?_
          refine K_aload_n (pc := 43) (i := 27) rfl rfl ?_
          refine K_getR (pc := 44) (i := 28) (j := 3) (d := 187) rfl S_184 rfl (by decide) rfl fw_Model_16 ?_
          refine K_iload_n (pc := 47) (i := 29) rfl rfl ?_
          refine K_iconst (pc := 48) (i := 30) rfl ?_
          refine K_iadd (pc := 49) (i := 31) rfl ?_
          refine K_iald (pc := 50) (i := 32) rfl S_187 (by omega) (by omega) (by decide) ?_
          refine K_nm (fun v50 e50 => ?_)
          have r50 := rd_mkites hI (x2 + 5).toNat
          rw [← e50] at r50
          refine K_iast (pc := 51) (i := 33) rfl S_187 (by omega) (by omega) (by decide) ?_
          have hI := st_mkites hI (i := (x2).toNat) (v := v50) (bK_of r50 (by omega)) (fun e _ => False.elim e)
          have fx := Fx.st (c := 187) (i := (x2).toNat) (v := v50) fx (by first | (dsimp only; omega) | omega | exact not_false)
          have tk51 := TK.k (n := (x2).toNat) (v := v50) hV28.2.1 (by omega) (by rw [e50, show (x2 + 5).toNat = x2.toNat + 5 by omega])
          refine K_inc (pc := 52) (i := 34) (q := 2) (lo' := [(0, _), (1, _), (2, _)]) rfl rfl rfl rfl rfl ?_
          refine K_goto 28 (pc := 55) (i := 35) rfl rfl ?_
          exact ih28 (x2 + 1) _ (by omega) hI fx ⟨by omega, by have := tk51; rwa [show x2.toNat + 1 = (x2 + 1).toNat by omega] at this, by rw [kU_c _ _ _ _ (show (184 : Nat) ≠ 187 by decide)]; exact hV28.2.2⟩
    exact L28 _ (5 * x1) _ (Nat.lt_succ_self _) hI fx ⟨by omega, by rwa [show (5 * x1).toNat = 5 * x1.toNat by omega], a21⟩
  · skip
    refine K_iconst (pc := 8) (i := 4) rfl ?_
    exact K_retI (pc := 9) (i := 5) rfl rfl ⟨fx, ⟨hI, Or.inl ⟨by omega, rfl, rfl⟩⟩⟩
end
section
set_option maxHeartbeats 4000000 in
set_option maxRecDepth 100000 in
theorem c_Model_blow0 (G : kG) {g : kGh} {h : kH} {x1 : Int} {x2 : Int} (s1 : x1 = 0) (s2 : 0 ≤ x2 ∧ x2 ≤ 8) (hk : FK (kap h x1.toNat) x2) (hI : Gd g h) : Ctr G y_Model_blow X_Model_blow 3 [.ref (G.2.2.2 184), kI x1, kI x2] h (kQi (fun z h' => Fx (fun c i => c = 187) h h' ∧ (Gd g h' ∧ kR z ∧ BXK (kap h x1.toNat) (kap h' x1.toNat) (h 188) x2 ∧ CtK (kap h' x1.toNat) (h 188) x2 z ∧ FK (kap h' x1.toNat) x2))) := by
  refine Ctr.ofK (by decide) rfl T_Model_blow (Nat.le_of_ble_eq_true rfl) (lo := [(0, .ref (G.2.2.2 184)), (1, kI x1), (2, kI x2)]) rfl ?_
  have fx : Fx (fun c i => c = 187) h h := Fx.rf
  refine K_iconst (pc := 0) (i := 0) rfl ?_
  refine K_ist_n (pc := 1) (i := 1) (lo' := [(0, _), (1, _), (2, _), (3, _)]) rfl rfl rfl rfl ?_
  have L2 : ∀ (n : Nat) (x3 : Int) (ha : kH), (8 - x3).toNat < n → (Gd g ha) → (Fx (fun c i => c = 187) h ha) → ((0 ≤ x3 ∧ x3 ≤ x2) ∧ BXK (kap h x1.toNat) (kap ha x1.toNat) (h 188) x3) → K X_Model_blow G (kZm G 3 (kQi (fun z h' => Fx (fun c i => c = 187) h h' ∧ (Gd g h' ∧ kR z ∧ BXK (kap h x1.toNat) (kap h' x1.toNat) (h 188) x2 ∧ CtK (kap h' x1.toNat) (h 188) x2 z ∧ FK (kap h' x1.toNat) x2)))) 2 [(0, .ref (G.2.2.2 184)), (1, kI x1), (2, kI x2), (3, kI x3)] [] ha := by
    intro n
    induction n with
    | zero => intro x3 ha hm; exact absurd hm (Nat.not_lt_zero _)
    | succ n ih2 =>
      intro x3 ha hm2 hI fx hV2
      refine K_iload_n (pc := 2) (i := 2) rfl rfl ?_
      refine K_iload_n (pc := 3) (i := 3) rfl rfl ?_
      first | refine K_icmp_ge 80 (pc := 4) (i := 4) rfl rfl (by omega) (by omega) (fun b4 => ?_) (fun b4 => ?_) | refine K_icmp_ge_an 80 (pc := 4) (i := 4) rfl rfl (fun b4 => ?_) (fun b4 => ?_)
      · skip
        have bx80 : BXK (kap h x1.toNat) (kap ha x1.toNat) (h 188) x2 := by have q := hV2.2; rwa [show x3 = x2 by omega] at q
        have fk80 : FK (kap ha x1.toNat) x2 := hk.blow bx80
        have w80 : ha 188 = h 188 := fx.cell 188 (fun i => (by first | (dsimp only; omega) | omega | exact not_false))
        refine K_iconst (pc := 80) (i := 52) rfl ?_
        refine K_ist_n (pc := 81) (i := 53) (lo' := [(0, _), (1, _), (2, _), (3, _)]) rfl rfl rfl rfl ?_
        refine K_iconst (pc := 82) (i := 54) rfl ?_
        refine K_ist (pc := 83) (i := 55) (lo' := [(0, _), (1, _), (2, _), (3, _), (4, _)]) rfl rfl rfl rfl ?_
        have L85 : ∀ (n : Nat) (x3 : Int) (x4 : Int), (8 - x4).toNat < n → ((0 ≤ x4 ∧ x4 ≤ x2) ∧ kR x3 ∧ CKI (kap ha x1.toNat) (ha 188) x2 x3 x4 0) → K X_Model_blow G (kZm G 3 (kQi (fun z h' => Fx (fun c i => c = 187) h h' ∧ (Gd g h' ∧ kR z ∧ BXK (kap h x1.toNat) (kap h' x1.toNat) (h 188) x2 ∧ CtK (kap h' x1.toNat) (h 188) x2 z ∧ FK (kap h' x1.toNat) x2)))) 85 [(0, .ref (G.2.2.2 184)), (1, kI x1), (2, kI x2), (3, kI x3), (4, kI x4)] [] ha := by
          intro n
          induction n with
          | zero => intro x3 x4 hm; exact absurd hm (Nat.not_lt_zero _)
          | succ n ih85 =>
            intro x3 x4 hm85 hV85
            refine K_iload (pc := 85) (i := 56) rfl rfl ?_
            refine K_iload_n (pc := 87) (i := 57) rfl rfl ?_
            first | refine K_icmp_ge 189 (pc := 88) (i := 58) rfl rfl (by omega) (by omega) (fun b88 => ?_) (fun b88 => ?_) | refine K_icmp_ge_an 189 (pc := 88) (i := 58) rfl rfl (fun b88 => ?_) (fun b88 => ?_)
            · skip
              refine K_iload_n (pc := 189) (i := 114) rfl rfl ?_
              exact K_retI (pc := 190) (i := 115) rfl rfl ⟨fx, ⟨hI, by omega, bx80, by rw [← w80]; exact hV85.2.2.end (by omega), fk80⟩⟩
            · skip
              refine K_iconst (pc := 91) (i := 59) rfl ?_
              refine K_ist (pc := 92) (i := 60) (lo' := [(0, _), (1, _), (2, _), (3, _), (4, _), (5, _)]) rfl rfl rfl rfl ?_
              have L94 : ∀ (n : Nat) (x3 : Int) (x5 : Int), (8 - x5).toNat < n → ((0 ≤ x5 ∧ x5 ≤ x2) ∧ kR x3 ∧ CKI (kap ha x1.toNat) (ha 188) x2 x3 x4 x5) → K X_Model_blow G (kZm G 3 (kQi (fun z h' => Fx (fun c i => c = 187) h h' ∧ (Gd g h' ∧ kR z ∧ BXK (kap h x1.toNat) (kap h' x1.toNat) (h 188) x2 ∧ CtK (kap h' x1.toNat) (h 188) x2 z ∧ FK (kap h' x1.toNat) x2)))) 94 [(0, .ref (G.2.2.2 184)), (1, kI x1), (2, kI x2), (3, kI x3), (4, kI x4), (5, kI x5)] [] ha := by
                intro n
                induction n with
                | zero => intro x3 x5 hm; exact absurd hm (Nat.not_lt_zero _)
                | succ n ih94 =>
                  intro x3 x5 hm94 hV94
                  refine K_iload (pc := 94) (i := 61) rfl rfl ?_
                  refine K_iload_n (pc := 96) (i := 62) rfl rfl ?_
                  first | refine K_icmp_ge 183 (pc := 97) (i := 63) rfl rfl (by omega) (by omega) (fun b97 => ?_) (fun b97 => ?_) | refine K_icmp_ge_an 183 (pc := 97) (i := 63) rfl rfl (fun b97 => ?_) (fun b97 => ?_)
                  · skip
                    refine K_inc (pc := 183) (i := 112) (q := 4) (lo' := [(0, _), (1, _), (2, _), (3, _), (4, _), (5, _)]) rfl rfl rfl rfl rfl ?_
                    refine K_goto 85 (pc := 186) (i := 113) rfl rfl ?_
                    refine K_drop (lo' := [(0, .ref (G.2.2.2 184)), (1, kI x1), (2, kI x2), (3, kI x3), (4, kI (x4 + 1))]) [0, 1, 2, 3, 4] rfl ?_
                    exact ih85 x3 (x4 + 1) (by omega) ⟨by omega, by omega, hV94.2.2.next (by omega)⟩
                  · skip
                    refine K_aload_n (pc := 100) (i := 64) rfl rfl ?_
                    refine K_getR (pc := 101) (i := 65) (j := 3) (d := 187) rfl S_184 rfl (by decide) rfl fw_Model_16 ?_
                    refine K_iload_n (pc := 104) (i := 66) rfl rfl ?_
                    refine K_iconst (pc := 105) (i := 67) rfl ?_
                    refine K_iload (pc := 106) (i := 68) rfl rfl ?_
                    refine K_imul (pc := 108) (i := 69) rfl ?_
                    refine K_iadd (pc := 109) (i := 70) rfl ?_
                    refine K_iald (pc := 110) (i := 71) rfl S_187 (by omega) (by omega) (by decide) ?_
                    refine K_nm (fun v110 e110 => ?_)
                    have r110 := (rd_mkites hI (x1 + (5 * x4)).toNat).1 (by omega)
                    rw [← e110] at r110
                    have w110 : kap ha x1.toNat (5 * x4.toNat) = v110 := by rw [e110]; unfold kap; congr 1; omega
                    refine K_aload_n (pc := 111) (i := 72) rfl rfl ?_
                    refine K_getR (pc := 112) (i := 73) (j := 3) (d := 187) rfl S_184 rfl (by decide) rfl fw_Model_16 ?_
                    refine K_iload_n (pc := 115) (i := 74) rfl rfl ?_
                    refine K_iconst (pc := 116) (i := 75) rfl ?_
                    refine K_iload (pc := 117) (i := 76) rfl rfl ?_
                    refine K_imul (pc := 119) (i := 77) rfl ?_
                    refine K_iadd (pc := 120) (i := 78) rfl ?_
                    refine K_iald (pc := 121) (i := 79) rfl S_187 (by omega) (by omega) (by decide) ?_
                    refine K_nm (fun v121 e121 => ?_)
                    have r121 := (rd_mkites hI (x1 + (5 * x5)).toNat).1 (by omega)
                    rw [← e121] at r121
                    have w121 : kap ha x1.toNat (5 * x5.toNat) = v121 := by rw [e121]; unfold kap; congr 1; omega
                    first | refine K_icmp_eq 158 (pc := 122) (i := 80) rfl rfl (by omega) (by omega) (fun b122 => ?_) (fun b122 => ?_) | refine K_icmp_eq_an 158 (pc := 122) (i := 80) rfl rfl (fun b122 => ?_) (fun b122 => ?_)
                    · skip
                      refine K_iconst (pc := 158) (i := 98) rfl ?_
                      refine K_ist (pc := 159) (i := 99) (lo' := [(0, _), (1, _), (2, _), (3, _), (4, _), (5, _), (6, _)]) rfl rfl rfl rfl ?_
                      refine K_iload_n (pc := 161) (i := 100) rfl rfl ?_
                      refine K_iload (pc := 162) (i := 101) rfl rfl ?_
                      refine K_if_eq 174 (pc := 164) (i := 102) rfl rfl (by omega) (fun _ => ?_) (fun b164 => False.elim (by omega))
                      refine K_iconst (pc := 174) (i := 107) rfl ?_
                      refine K_ior (pc := 175) (i := 108) rfl ?_
                      refine K_nm (fun v175 e175 => ?_)
                      have r175 := kOr_R x3 0
                      rw [← e175] at r175
                      refine K_ist_n (pc := 176) (i := 109) (lo' := [(0, _), (1, _), (2, _), (3, _), (4, _), (5, _), (6, _)]) rfl rfl rfl rfl ?_
                      refine K_inc (pc := 177) (i := 110) (q := 5) (lo' := [(0, _), (1, _), (2, _), (3, _), (4, _), (5, _), (6, _)]) rfl rfl rfl rfl rfl ?_
                      refine K_goto 94 (pc := 180) (i := 111) rfl rfl ?_
                      refine K_drop (lo' := [(0, .ref (G.2.2.2 184)), (1, kI x1), (2, kI x2), (3, kI v175), (4, kI x4), (5, kI (x5 + 1))]) [0, 1, 2, 3, 4, 5] rfl ?_
                      exact ih94 v175 (x5 + 1) (by omega) ⟨by omega, by omega, by rw [e175]; first | exact hV94.2.2.skip hV85.1.1 hV94.1.1 (fun q => q.1 (by rw [w110, w121]; exact b122)) | exact hV94.2.2.skip hV85.1.1 hV94.1.1 (fun q => absurd q.2.1 (by rw [← r129.2, ← r136.2]; omega)) | exact hV94.2.2.skip hV85.1.1 hV94.1.1 (fun q => r148.elim (fun e => absurd e.1 (by omega)) (fun e => e.2 q.2.2)) | (rw [e170]; exact hV94.2.2.hit (by omega) (by omega) (by omega) ⟨by rw [w110, w121]; exact b122, by rw [← r129.2, ← r136.2]; omega, r148.elim (fun q => q.2) (fun q => absurd q.1 (by omega))⟩)⟩
                    · skip
                      refine K_aload_n (pc := 125) (i := 81) rfl rfl ?_
                      refine K_iload_n (pc := 126) (i := 82) rfl rfl ?_
                      refine K_iload (pc := 127) (i := 83) rfl rfl ?_
                      refine K_cVI (pc := 129) (i := 84) rfl (c_Model_edgeOf G (x1 := x1) (x2 := x4) (hI := hI) (s1 := by omega) (s2 := by omega)) S_184 rfl (lv_Model_108 rfl) rfl rfl rfl rfl rfl (fun v129 h129 q129 => ?_)
                      obtain ⟨eh, r129⟩ := q129
                      rw [eh]; clear eh
                      refine K_aload_n (pc := 132) (i := 85) rfl rfl ?_
                      refine K_iload_n (pc := 133) (i := 86) rfl rfl ?_
                      refine K_iload (pc := 134) (i := 87) rfl rfl ?_
                      refine K_cVI (pc := 136) (i := 88) rfl (c_Model_edgeOf G (x1 := x1) (x2 := x5) (hI := hI) (s1 := by omega) (s2 := by omega)) S_184 rfl (lv_Model_108 rfl) rfl rfl rfl rfl rfl (fun v136 h136 q136 => ?_)
                      obtain ⟨eh, r136⟩ := q136
                      rw [eh]; clear eh
                      first | refine K_icmp_le 158 (pc := 139) (i := 89) rfl rfl (by omega) (by omega) (fun b139 => ?_) (fun b139 => ?_) | refine K_icmp_le_an 158 (pc := 139) (i := 89) rfl rfl (fun b139 => ?_) (fun b139 => ?_)
                      · skip
                        refine K_iconst (pc := 158) (i := 98) rfl ?_
                        refine K_ist (pc := 159) (i := 99) (lo' := [(0, _), (1, _), (2, _), (3, _), (4, _), (5, _), (6, _)]) rfl rfl rfl rfl ?_
                        refine K_iload_n (pc := 161) (i := 100) rfl rfl ?_
                        refine K_iload (pc := 162) (i := 101) rfl rfl ?_
                        refine K_if_eq 174 (pc := 164) (i := 102) rfl rfl (by omega) (fun _ => ?_) (fun b164 => False.elim (by omega))
                        refine K_iconst (pc := 174) (i := 107) rfl ?_
                        refine K_ior (pc := 175) (i := 108) rfl ?_
                        refine K_nm (fun v175 e175 => ?_)
                        have r175 := kOr_R x3 0
                        rw [← e175] at r175
                        refine K_ist_n (pc := 176) (i := 109) (lo' := [(0, _), (1, _), (2, _), (3, _), (4, _), (5, _), (6, _)]) rfl rfl rfl rfl ?_
                        refine K_inc (pc := 177) (i := 110) (q := 5) (lo' := [(0, _), (1, _), (2, _), (3, _), (4, _), (5, _), (6, _)]) rfl rfl rfl rfl rfl ?_
                        refine K_goto 94 (pc := 180) (i := 111) rfl rfl ?_
                        refine K_drop (lo' := [(0, .ref (G.2.2.2 184)), (1, kI x1), (2, kI x2), (3, kI v175), (4, kI x4), (5, kI (x5 + 1))]) [0, 1, 2, 3, 4, 5] rfl ?_
                        exact ih94 v175 (x5 + 1) (by omega) ⟨by omega, by omega, by rw [e175]; first | exact hV94.2.2.skip hV85.1.1 hV94.1.1 (fun q => q.1 (by rw [w110, w121]; exact b122)) | exact hV94.2.2.skip hV85.1.1 hV94.1.1 (fun q => absurd q.2.1 (by rw [← r129.2, ← r136.2]; omega)) | exact hV94.2.2.skip hV85.1.1 hV94.1.1 (fun q => r148.elim (fun e => absurd e.1 (by omega)) (fun e => e.2 q.2.2)) | (rw [e170]; exact hV94.2.2.hit (by omega) (by omega) (by omega) ⟨by rw [w110, w121]; exact b122, by rw [← r129.2, ← r136.2]; omega, r148.elim (fun q => q.2) (fun q => absurd q.1 (by omega))⟩)⟩
                      · skip
                        refine K_aload_n (pc := 142) (i := 90) rfl rfl ?_
                        refine K_iload_n (pc := 143) (i := 91) rfl rfl ?_
                        refine K_iload (pc := 144) (i := 92) rfl rfl ?_
                        refine K_iload (pc := 146) (i := 93) rfl rfl ?_
                        refine K_cVI (pc := 148) (i := 94) rfl (c_Model_doCross G (x1 := x1) (x2 := x4) (x3 := x5) (hk := fk80) (hI := hI) (hn := by omega) (s1 := by omega) (s2 := by omega) (s3 := by omega)) S_184 rfl (lv_Model_137 rfl) rfl rfl rfl rfl rfl (fun v148 h148 q148 => ?_)
                        obtain ⟨eh, r148⟩ := q148
                        rw [eh]; clear eh
                        first | refine K_if_eq 158 (pc := 151) (i := 95) rfl rfl (by omega) (fun b151 => ?_) (fun b151 => ?_) | refine K_if_eq_an 158 (pc := 151) (i := 95) rfl rfl (fun b151 => ?_) (fun b151 => ?_)
                        · skip
                          refine K_iconst (pc := 158) (i := 98) rfl ?_
                          refine K_ist (pc := 159) (i := 99) (lo' := [(0, _), (1, _), (2, _), (3, _), (4, _), (5, _), (6, _)]) rfl rfl rfl rfl ?_
                          refine K_iload_n (pc := 161) (i := 100) rfl rfl ?_
                          refine K_iload (pc := 162) (i := 101) rfl rfl ?_
                          refine K_if_eq 174 (pc := 164) (i := 102) rfl rfl (by omega) (fun _ => ?_) (fun b164 => False.elim (by omega))
                          refine K_iconst (pc := 174) (i := 107) rfl ?_
                          refine K_ior (pc := 175) (i := 108) rfl ?_
                          refine K_nm (fun v175 e175 => ?_)
                          have r175 := kOr_R x3 0
                          rw [← e175] at r175
                          refine K_ist_n (pc := 176) (i := 109) (lo' := [(0, _), (1, _), (2, _), (3, _), (4, _), (5, _), (6, _)]) rfl rfl rfl rfl ?_
                          refine K_inc (pc := 177) (i := 110) (q := 5) (lo' := [(0, _), (1, _), (2, _), (3, _), (4, _), (5, _), (6, _)]) rfl rfl rfl rfl rfl ?_
                          refine K_goto 94 (pc := 180) (i := 111) rfl rfl ?_
                          refine K_drop (lo' := [(0, .ref (G.2.2.2 184)), (1, kI x1), (2, kI x2), (3, kI v175), (4, kI x4), (5, kI (x5 + 1))]) [0, 1, 2, 3, 4, 5] rfl ?_
                          exact ih94 v175 (x5 + 1) (by omega) ⟨by omega, by omega, by rw [e175]; first | exact hV94.2.2.skip hV85.1.1 hV94.1.1 (fun q => q.1 (by rw [w110, w121]; exact b122)) | exact hV94.2.2.skip hV85.1.1 hV94.1.1 (fun q => absurd q.2.1 (by rw [← r129.2, ← r136.2]; omega)) | exact hV94.2.2.skip hV85.1.1 hV94.1.1 (fun q => r148.elim (fun e => absurd e.1 (by omega)) (fun e => e.2 q.2.2)) | (rw [e170]; exact hV94.2.2.hit (by omega) (by omega) (by omega) ⟨by rw [w110, w121]; exact b122, by rw [← r129.2, ← r136.2]; omega, r148.elim (fun q => q.2) (fun q => absurd q.1 (by omega))⟩)⟩
                        · skip
                          refine K_iconst (pc := 154) (i := 96) rfl ?_
                          refine K_goto 159 (pc := 155) (i := 97) rfl rfl ?_
                          refine K_ist (pc := 159) (i := 99) (lo' := [(0, _), (1, _), (2, _), (3, _), (4, _), (5, _), (6, _)]) rfl rfl rfl rfl ?_
                          refine K_iload_n (pc := 161) (i := 100) rfl rfl ?_
                          refine K_iload (pc := 162) (i := 101) rfl rfl ?_
                          refine K_if_eq 174 (pc := 164) (i := 102) rfl rfl (by omega) (fun b164 => False.elim (by omega)) (fun _ => ?_)
                          refine K_iconst (pc := 167) (i := 103) rfl ?_
                          refine K_iload (pc := 168) (i := 104) rfl rfl ?_
                          refine K_ishl (pc := 170) (i := 105) rfl ?_
                          refine K_nm (fun v170 e170 => ?_)
                          have r170 := kShl_R 1 x5
                          rw [← e170] at r170
                          refine K_goto 175 (pc := 171) (i := 106) rfl rfl ?_
                          refine K_ior (pc := 175) (i := 108) rfl ?_
                          refine K_nm (fun v175 e175 => ?_)
                          have r175 := kOr_R x3 v170
                          rw [← e175] at r175
                          refine K_ist_n (pc := 176) (i := 109) (lo' := [(0, _), (1, _), (2, _), (3, _), (4, _), (5, _), (6, _)]) rfl rfl rfl rfl ?_
                          refine K_inc (pc := 177) (i := 110) (q := 5) (lo' := [(0, _), (1, _), (2, _), (3, _), (4, _), (5, _), (6, _)]) rfl rfl rfl rfl rfl ?_
                          refine K_goto 94 (pc := 180) (i := 111) rfl rfl ?_
                          refine K_drop (lo' := [(0, .ref (G.2.2.2 184)), (1, kI x1), (2, kI x2), (3, kI v175), (4, kI x4), (5, kI (x5 + 1))]) [0, 1, 2, 3, 4, 5] rfl ?_
                          exact ih94 v175 (x5 + 1) (by omega) ⟨by omega, by omega, by rw [e175]; first | exact hV94.2.2.skip hV85.1.1 hV94.1.1 (fun q => q.1 (by rw [w110, w121]; exact b122)) | exact hV94.2.2.skip hV85.1.1 hV94.1.1 (fun q => absurd q.2.1 (by rw [← r129.2, ← r136.2]; omega)) | exact hV94.2.2.skip hV85.1.1 hV94.1.1 (fun q => r148.elim (fun e => absurd e.1 (by omega)) (fun e => e.2 q.2.2)) | (rw [e170]; exact hV94.2.2.hit (by omega) (by omega) (by omega) ⟨by rw [w110, w121]; exact b122, by rw [← r129.2, ← r136.2]; omega, r148.elim (fun q => q.2) (fun q => absurd q.1 (by omega))⟩)⟩
              exact L94 _ x3 0 (Nat.lt_succ_self _) ⟨by omega, by omega, hV85.2.2⟩
        exact L85 _ 0 0 (Nat.lt_succ_self _) ⟨by omega, by omega, CKI.zero⟩
      · skip
        refine K_aload_n (pc := 7) (i := 5) rfl rfl ?_
        refine K_getR (pc := 8) (i := 6) (j := 3) (d := 187) rfl S_184 rfl (by decide) rfl fw_Model_16 ?_
        refine K_iload_n (pc := 11) (i := 7) rfl rfl ?_
        refine K_iconst (pc := 12) (i := 8) rfl ?_
        refine K_iload_n (pc := 13) (i := 9) rfl rfl ?_
        refine K_imul (pc := 14) (i := 10) rfl ?_
        refine K_iadd (pc := 15) (i := 11) rfl ?_
        refine K_iconst (pc := 16) (i := 12) rfl ?_
        refine K_iadd (pc := 17) (i := 13) rfl ?_
        refine K_iald (pc := 18) (i := 14) rfl S_187 (by omega) (by omega) (by decide) ?_
        refine K_nm (fun v18 e18 => ?_)
        have w18 : kap ha x1.toNat (5 * x3.toNat + 2) = v18 := by rw [e18]; unfold kap; congr 1; omega
        have y18 : kap h x1.toNat (5 * x3.toNat + 2) = v18 := by rw [← w18]; exact (hV2.2.ge (by omega)).symm
        have u18 := (hk x3.toNat (by omega)).2.1
        rw [y18] at u18
        refine K_aload_n (pc := 19) (i := 15) rfl rfl ?_
        refine K_getR (pc := 20) (i := 16) (j := 5) (d := 188) rfl S_184 rfl (by decide) rfl fw_Model_19 ?_
        refine K_aload_n (pc := 23) (i := 17) rfl rfl ?_
        refine K_getR (pc := 24) (i := 18) (j := 3) (d := 187) rfl S_184 rfl (by decide) rfl fw_Model_16 ?_
        refine K_iload_n (pc := 27) (i := 19) rfl rfl ?_
        refine K_iconst (pc := 28) (i := 20) rfl ?_
        refine K_iload_n (pc := 29) (i := 21) rfl rfl ?_
        refine K_imul (pc := 30) (i := 22) rfl ?_
        refine K_iadd (pc := 31) (i := 23) rfl ?_
        refine K_iconst (pc := 32) (i := 24) rfl ?_
        refine K_iadd (pc := 33) (i := 25) rfl ?_
        refine K_iald (pc := 34) (i := 26) rfl S_187 (by omega) (by omega) (by decide) ?_
        refine K_nm (fun v34 e34 => ?_)
        have r34 := (rd_mkites hI ((x1 + (5 * x3)) + 3).toNat).2.1 (by omega)
        rw [← e34] at r34
        have w34 : kap ha x1.toNat (5 * x3.toNat + 3) = v34 := by rw [e34]; unfold kap; congr 1; omega
        have y34 : kap h x1.toNat (5 * x3.toNat + 3) = v34 := by rw [← w34]; exact (hV2.2.ot (by omega)).symm
        refine K_iald (pc := 35) (i := 27) rfl S_188 (by omega) (by omega) (by decide) ?_
        refine K_nm (fun v35 e35 => ?_)
        have r35 := rd_mwinds hI (v34).toNat
        rw [← e35] at r35
        have y35 : v35 = h 188 v34.toNat := by rw [e35, fx.cell 188 (fun i => (by first | (dsimp only; omega) | omega | exact not_false))]
        refine K_iadd (pc := 36) (i := 28) rfl ?_
        refine K_ist (pc := 37) (i := 29) (lo' := [(0, _), (1, _), (2, _), (3, _), (4, _)]) rfl rfl rfl rfl ?_
        refine K_aload_n (pc := 39) (i := 30) rfl rfl ?_
        refine K_getR (pc := 40) (i := 31) (j := 3) (d := 187) rfl S_184 rfl (by decide) rfl fw_Model_16 ?_
        refine K_iload_n (pc := 43) (i := 32) rfl rfl ?_
        refine K_iconst (pc := 44) (i := 33) rfl ?_
        refine K_iload_n (pc := 45) (i := 34) rfl rfl ?_
        refine K_imul (pc := 46) (i := 35) rfl ?_
        refine K_iadd (pc := 47) (i := 36) rfl ?_
        refine K_iconst (pc := 48) (i := 37) rfl ?_
        refine K_iadd (pc := 49) (i := 38) rfl ?_
        refine K_iload (pc := 50) (i := 39) rfl rfl ?_
        first | refine K_if_ge 59 (pc := 52) (i := 40) rfl rfl (by omega) (fun b52 => ?_) (fun b52 => ?_) | refine K_if_ge_an 59 (pc := 52) (i := 40) rfl rfl (fun b52 => ?_) (fun b52 => ?_)
        · skip
          refine K_iload (pc := 59) (i := 43) rfl rfl ?_
          refine K_bipush (pc := 61) (i := 44) rfl rfl ?_
          first | refine K_icmp_le 71 (pc := 63) (i := 45) rfl rfl (by omega) (by omega) (fun b63 => ?_) (fun b63 => ?_) | refine K_icmp_le_an 71 (pc := 63) (i := 45) rfl rfl (fun b63 => ?_) (fun b63 => ?_)
          · skip
            refine K_iload (pc := 71) (i := 48) rfl rfl ?_
            refine K_iast (pc := 73) (i := 49) rfl S_187 (by omega) (by omega) (by decide) ?_
            have hI := st_mkites hI (i := ((x1 + (5 * x3)) + 2).toNat) (v := v18 + v35) (by unfold bK; omega) (fun _ a => a.u187 (fun b => b.setX x3.toNat (by omega) (by omega)))
            have fx := Fx.st (c := 187) (i := ((x1 + (5 * x3)) + 2).toNat) (v := v18 + v35) fx (by first | (dsimp only; omega) | omega | exact not_false)
            have bx73 := BXK.st (i := ((x1 + (5 * x3)) + 2).toNat) (v := v18 + v35) hV2.2 (by omega) (by omega) (by rw [y18, y34, ← y35]; omega)
            refine K_inc (pc := 74) (i := 50) (q := 3) (lo' := [(0, _), (1, _), (2, _), (3, _), (4, _)]) rfl rfl rfl rfl rfl ?_
            refine K_goto 2 (pc := 77) (i := 51) rfl rfl ?_
            refine K_drop (lo' := [(0, .ref (G.2.2.2 184)), (1, kI x1), (2, kI x2), (3, kI (x3 + 1))]) [0, 1, 2, 3] rfl ?_
            exact ih2 (x3 + 1) _ (by omega) hI fx ⟨by omega, bx73⟩
          · skip
            refine K_bipush (pc := 66) (i := 46) rfl rfl ?_
            refine K_goto 73 (pc := 68) (i := 47) rfl rfl ?_
            refine K_iast (pc := 73) (i := 49) rfl S_187 (by omega) (by omega) (by decide) ?_
            have hI := st_mkites hI (i := ((x1 + (5 * x3)) + 2).toNat) (v := 40) (by unfold bK; omega) (fun _ a => a.u187 (fun b => b.setX x3.toNat (by omega) (by omega)))
            have fx := Fx.st (c := 187) (i := ((x1 + (5 * x3)) + 2).toNat) (v := 40) fx (by first | (dsimp only; omega) | omega | exact not_false)
            have bx73 := BXK.st (i := ((x1 + (5 * x3)) + 2).toNat) (v := 40) hV2.2 (by omega) (by omega) (by rw [y18, y34, ← y35]; omega)
            refine K_inc (pc := 74) (i := 50) (q := 3) (lo' := [(0, _), (1, _), (2, _), (3, _), (4, _)]) rfl rfl rfl rfl rfl ?_
            refine K_goto 2 (pc := 77) (i := 51) rfl rfl ?_
            refine K_drop (lo' := [(0, .ref (G.2.2.2 184)), (1, kI x1), (2, kI x2), (3, kI (x3 + 1))]) [0, 1, 2, 3] rfl ?_
            exact ih2 (x3 + 1) _ (by omega) hI fx ⟨by omega, bx73⟩
        · skip
          refine K_iconst (pc := 55) (i := 41) rfl ?_
          refine K_goto 73 (pc := 56) (i := 42) rfl rfl ?_
          refine K_iast (pc := 73) (i := 49) rfl S_187 (by omega) (by omega) (by decide) ?_
          have hI := st_mkites hI (i := ((x1 + (5 * x3)) + 2).toNat) (v := 0) (by unfold bK; omega) (fun _ a => a.u187 (fun b => b.setX x3.toNat (by omega) (by omega)))
          have fx := Fx.st (c := 187) (i := ((x1 + (5 * x3)) + 2).toNat) (v := 0) fx (by first | (dsimp only; omega) | omega | exact not_false)
          have bx73 := BXK.st (i := ((x1 + (5 * x3)) + 2).toNat) (v := 0) hV2.2 (by omega) (by omega) (by rw [y18, y34, ← y35]; omega)
          refine K_inc (pc := 74) (i := 50) (q := 3) (lo' := [(0, _), (1, _), (2, _), (3, _), (4, _)]) rfl rfl rfl rfl rfl ?_
          refine K_goto 2 (pc := 77) (i := 51) rfl rfl ?_
          refine K_drop (lo' := [(0, .ref (G.2.2.2 184)), (1, kI x1), (2, kI x2), (3, kI (x3 + 1))]) [0, 1, 2, 3] rfl ?_
          exact ih2 (x3 + 1) _ (by omega) hI fx ⟨by omega, bx73⟩
  exact L2 _ 0 _ (Nat.lt_succ_self _) hI fx ⟨by omega, BXK.z⟩
set_option maxHeartbeats 4000000 in
set_option maxRecDepth 100000 in
theorem c_Model_leave0 (G : kG) {g : kGh} {h : kH} {x1 : Int} {x2 : Int} {x3 : Int} (s1 : x1 = 0) (s2 : 0 ≤ x2 ∧ x2 ≤ 8) (hI : Gd g h) : Ctr G y_Model_leave X_Model_leave 1 [.ref (G.2.2.2 184), kI x1, kI x2, kI x3] h (kQi (fun z h' => Fx (fun c i => c = 187 ∨ c = 192) h h' ∧ (Gd (kNf g) h' ∧ (0 ≤ z ∧ z ≤ x2) ∧ z = kc (pB x3) x2.toNat ∧ THK (kap h x1.toNat) (kap h' x1.toNat) (pB x3) x2 ∧ GN (h 192) (h' 192) x3 (fun i => kap h x1.toNat (5 * i)) x2))) := by
  refine Ctr.ofK (by decide) rfl T_Model_leave (Nat.le_of_ble_eq_true rfl) (lo := [(0, .ref (G.2.2.2 184)), (1, kI x1), (2, kI x2), (3, kI x3)]) rfl ?_
  have fx : Fx (fun c i => c = 187 ∨ c = 192) h h := Fx.rf
  have hI := hI.nf
  refine K_iconst (pc := 0) (i := 0) rfl ?_
  refine K_ist (pc := 1) (i := 1) (lo' := [(0, _), (1, _), (2, _), (3, _), (4, _)]) rfl rfl rfl rfl ?_
  refine K_iconst (pc := 3) (i := 2) rfl ?_
  refine K_ist (pc := 4) (i := 3) (lo' := [(0, _), (1, _), (2, _), (3, _), (4, _), (5, _)]) rfl rfl rfl rfl ?_
  have L6 : ∀ (n : Nat) (x4 : Int) (x5 : Int) (ha : kH), (8 - x5).toNat < n → (Gd (kNf g) ha) → (Fx (fun c i => c = 187 ∨ c = 192) h ha) → ((0 ≤ x4 ∧ x4 ≤ x5 ∧ x5 ≤ x2) ∧ x4 = kc (pB x3) x5.toNat ∧ LVK (kap h x1.toNat) (kap ha x1.toNat) (pB x3) x5.toNat ∧ GN (h 192) (ha 192) x3 (fun i => kap h x1.toNat (5 * i)) x5) → K X_Model_leave G (kZm G 1 (kQi (fun z h' => Fx (fun c i => c = 187 ∨ c = 192) h h' ∧ (Gd (kNf g) h' ∧ (0 ≤ z ∧ z ≤ x2) ∧ z = kc (pB x3) x2.toNat ∧ THK (kap h x1.toNat) (kap h' x1.toNat) (pB x3) x2 ∧ GN (h 192) (h' 192) x3 (fun i => kap h x1.toNat (5 * i)) x2)))) 6 [(0, .ref (G.2.2.2 184)), (1, kI x1), (2, kI x2), (3, kI x3), (4, kI x4), (5, kI x5)] [] ha := by
    intro n
    induction n with
    | zero => intro x4 x5 ha hm; exact absurd hm (Nat.not_lt_zero _)
    | succ n ih6 =>
      intro x4 x5 ha hm6 hI fx hV6
      refine K_iload (pc := 6) (i := 4) rfl rfl ?_
      refine K_iload_n (pc := 8) (i := 5) rfl rfl ?_
      first | refine K_icmp_ge 99 (pc := 9) (i := 6) rfl rfl (by omega) (by omega) (fun b9 => ?_) (fun b9 => ?_) | refine K_icmp_ge_an 99 (pc := 9) (i := 6) rfl rfl (fun b9 => ?_) (fun b9 => ?_)
      · skip
        refine K_iload (pc := 99) (i := 62) rfl rfl ?_
        exact K_retI (pc := 101) (i := 63) rfl rfl ⟨fx, ⟨hI, by omega, by rw [hV6.2.1, show x5 = x2 by omega], fun i a hi hp ha9 => hV6.2.2.1.1 i a (by omega) hp ha9, by have q := hV6.2.2.2; rwa [show x5 = x2 by omega] at q⟩⟩
      · skip
        refine K_iload_n (pc := 12) (i := 7) rfl rfl ?_
        refine K_iload (pc := 13) (i := 8) rfl rfl ?_
        refine K_ishr (pc := 15) (i := 9) rfl ?_
        refine K_nm (fun v15 e15 => ?_)
        have r15 := kShr_R x3 x5
        rw [← e15] at r15
        refine K_iconst (pc := 16) (i := 10) rfl ?_
        refine K_iand (pc := 17) (i := 11) rfl ?_
        refine K_nm (fun v17 e17 => ?_)
        have r17 := kAnd_1 v15
        rw [← e17] at r17
        have t17 : v17 = if tb x3 x5 then 1 else 0 := by rw [e17, e15]; exact kbit (by omega)
        refine K_iconst (pc := 18) (i := 12) rfl ?_
        first | refine K_icmp_ne 47 (pc := 19) (i := 13) rfl rfl (by omega) (by omega) (fun b19 => ?_) (fun b19 => ?_) | refine K_icmp_ne_an 47 (pc := 19) (i := 13) rfl rfl (fun b19 => ?_) (fun b19 => ?_)
        · skip
          refine K_iconst (pc := 47) (i := 32) rfl ?_
          refine K_ist (pc := 48) (i := 33) (lo' := [(0, _), (1, _), (2, _), (3, _), (4, _), (5, _), (6, _)]) rfl rfl rfl rfl ?_
          have L50 : ∀ (n : Nat) (x6 : Int) (hb : kH), (5 - x6).toNat < n → (Gd (kNf g) hb) → (Fx (fun c i => c = 187 ∨ c = 192) h hb) → ((0 ≤ x6 ∧ x6 ≤ 5) ∧ LVKi (kap h x1.toNat) (kap hb x1.toNat) (pB x3) x5.toNat x6.toNat ∧ hb 192 = ha 192) → K X_Model_leave G (kZm G 1 (kQi (fun z h' => Fx (fun c i => c = 187 ∨ c = 192) h h' ∧ (Gd (kNf g) h' ∧ (0 ≤ z ∧ z ≤ x2) ∧ z = kc (pB x3) x2.toNat ∧ THK (kap h x1.toNat) (kap h' x1.toNat) (pB x3) x2 ∧ GN (h 192) (h' 192) x3 (fun i => kap h x1.toNat (5 * i)) x2)))) 50 [(0, .ref (G.2.2.2 184)), (1, kI x1), (2, kI x2), (3, kI x3), (4, kI x4), (5, kI x5), (6, kI x6)] [] hb := by
            intro n
            induction n with
            | zero => intro x6 hb hm; exact absurd hm (Nat.not_lt_zero _)
            | succ n ih50 =>
              intro x6 hb hm50 hI fx hV50
              refine K_iload (pc := 50) (i := 34) rfl rfl ?_
              refine K_iconst (pc := 52) (i := 35) rfl ?_
              first | refine K_icmp_ge 90 (pc := 53) (i := 36) rfl rfl (by omega) (by omega) (fun b53 => ?_) (fun b53 => ?_) | refine K_icmp_ge_an 90 (pc := 53) (i := 36) rfl rfl (fun b53 => ?_) (fun b53 => ?_)
              · skip
                have lv90 : LVK (kap h x1.toNat) (kap hb x1.toNat) (pB x3) (x5 + 1).toNat := by have q := hV50.2.1; rw [show x6.toNat = 5 by omega] at q; rw [show (x5 + 1).toNat = x5.toNat + 1 by omega]; exact q.end
                have kc90 : x4 + 1 = kc (pB x3) (x5 + 1).toNat := by rw [show (x5 + 1).toNat = x5.toNat + 1 by omega, kc, pB_t (by omega) t17 (by omega)]; simp; omega
                have gn90 : GN (h 192) (hb 192) x3 (fun i => kap h x1.toNat (5 * i)) (x5 + 1) := by rw [hV50.2.2]; exact hV6.2.2.2.no (by omega) (tbf t17 (by omega))
                refine K_inc (pc := 90) (i := 59) (q := 4) (lo' := [(0, _), (1, _), (2, _), (3, _), (4, _), (5, _), (6, _)]) rfl rfl rfl rfl rfl ?_
                refine K_inc (pc := 93) (i := 60) (q := 5) (lo' := [(0, _), (1, _), (2, _), (3, _), (4, _), (5, _), (6, _)]) rfl rfl rfl rfl rfl ?_
                refine K_goto 6 (pc := 96) (i := 61) rfl rfl ?_
                refine K_drop (lo' := [(0, .ref (G.2.2.2 184)), (1, kI x1), (2, kI x2), (3, kI x3), (4, kI (x4 + 1)), (5, kI (x5 + 1))]) [0, 1, 2, 3, 4, 5] rfl ?_
                exact ih6 (x4 + 1) (x5 + 1) _ (by omega) hI fx (by first | exact ⟨by omega, kc43, lv43, gn43⟩ | exact ⟨by omega, kc90, lv90, gn90⟩)
              · skip
                refine K_aload_n (pc := 56) (i := 37) rfl rfl ?_
                refine K_getR (pc := 57) (i := 38) (j := 3) (d := 187) rfl S_184 rfl (by decide) rfl fw_Model_16 ?_
                refine K_iload_n (pc := 60) (i := 39) rfl rfl ?_
                refine K_iconst (pc := 61) (i := 40) rfl ?_
                refine K_iload (pc := 62) (i := 41) rfl rfl ?_
                refine K_imul (pc := 64) (i := 42) rfl ?_
                refine K_iadd (pc := 65) (i := 43) rfl ?_
                refine K_iload (pc := 66) (i := 44) rfl rfl ?_
                refine K_iadd (pc := 68) (i := 45) rfl ?_
                refine K_aload_n (pc := 69) (i := 46) rfl rfl ?_
                refine K_getR (pc := 70) (i := 47) (j := 3) (d := 187) rfl S_184 rfl (by decide) rfl fw_Model_16 ?_
                refine K_iload_n (pc := 73) (i := 48) rfl rfl ?_
                refine K_iconst (pc := 74) (i := 49) rfl ?_
                refine K_iload (pc := 75) (i := 50) rfl rfl ?_
                refine K_imul (pc := 77) (i := 51) rfl ?_
                refine K_iadd (pc := 78) (i := 52) rfl ?_
                refine K_iload (pc := 79) (i := 53) rfl rfl ?_
                refine K_iadd (pc := 81) (i := 54) rfl ?_
                refine K_iald (pc := 82) (i := 55) rfl S_187 (by omega) (by omega) (by decide) ?_
                refine K_nm (fun v82 e82 => ?_)
                have r82 := rd_mkites hI ((x1 + (5 * x5)) + x6).toNat
                rw [← e82] at r82
                have w82 : kap hb x1.toNat (5 * x5.toNat + x6.toNat) = v82 := by rw [e82]; unfold kap; congr 1; omega
                refine K_iast (pc := 83) (i := 56) rfl S_187 (by omega) (by omega) (by decide) ?_
                have hI := st_mkites hI (i := ((x1 + (5 * x4)) + x6).toNat) (v := v82) (bK_of r82 (m5 (by omega) hV6.1.1 (by omega) hV50.1.1)) (fun e _ => False.elim e)
                have fx := Fx.st (c := 187) (i := ((x1 + (5 * x4)) + x6).toNat) (v := v82) fx (by first | (dsimp only; omega) | omega | exact not_false)
                have li83 := LVKi.st (i := ((x1 + (5 * x4)) + x6).toNat) (v := v82) hV50.2.1 (by omega) (by omega) (by rw [← w82])
                rw [show x6.toNat + 1 = (x6 + 1).toNat by omega] at li83
                refine K_inc (pc := 84) (i := 57) (q := 6) (lo' := [(0, _), (1, _), (2, _), (3, _), (4, _), (5, _), (6, _)]) rfl rfl rfl rfl rfl ?_
                refine K_goto 50 (pc := 87) (i := 58) rfl rfl ?_
                exact ih50 (x6 + 1) _ (by omega) hI fx ⟨by omega, li83, (kU_c _ _ _ _ (by decide)).trans hV50.2.2⟩
          exact L50 _ 0 _ (Nat.lt_succ_self _) hI fx ⟨by omega, hV6.2.2.1.i, rfl⟩
        · skip
          refine K_aload_n (pc := 22) (i := 14) rfl rfl ?_
          refine K_getR (pc := 23) (i := 15) (j := 14) (d := 192) rfl S_184 rfl (by decide) rfl fw_Model_31 ?_
          refine K_iconst (pc := 26) (i := 16) rfl ?_
          refine K_aload_n (pc := 27) (i := 17) rfl rfl ?_
          refine K_getR (pc := 28) (i := 18) (j := 3) (d := 187) rfl S_184 rfl (by decide) rfl fw_Model_16 ?_
          refine K_iload_n (pc := 31) (i := 19) rfl rfl ?_
          refine K_iconst (pc := 32) (i := 20) rfl ?_
          refine K_iload (pc := 33) (i := 21) rfl rfl ?_
          refine K_imul (pc := 35) (i := 22) rfl ?_
          refine K_iadd (pc := 36) (i := 23) rfl ?_
          refine K_iald (pc := 37) (i := 24) rfl S_187 (by omega) (by omega) (by decide) ?_
          refine K_nm (fun v37 e37 => ?_)
          have r37 := (rd_mkites hI (x1 + (5 * x5)).toNat).1 (by omega)
          rw [← e37] at r37
          have w37 : kap ha x1.toNat (5 * x5.toNat) = v37 := by rw [e37]; unfold kap; congr 1; omega
          have y37 : kap h x1.toNat (5 * x5.toNat) = v37 := by rw [← w37]; exact (hV6.2.2.1.2 _ (by omega)).symm
          refine K_isub (pc := 38) (i := 25) rfl ?_
          refine K_dup2 (pc := 39) (i := 26) rfl rfl rfl ?_
          refine K_iald (pc := 40) (i := 27) rfl S_192 (by omega) (by omega) (by decide) ?_
          refine K_nm (fun v40 e40 => ?_)
          refine K_iconst (pc := 41) (i := 28) rfl ?_
          refine K_iadd (pc := 42) (i := 29) rfl ?_
          refine K_iast (pc := 43) (i := 30) rfl S_192 (by omega) (by omega) (by decide) ?_
          have hI := st_free (c := 192) hI (by decide +kernel) (by decide) (i := (1 - v37).toNat) (v := v40 + 1)
          have fx := Fx.st (c := 192) (i := (1 - v37).toNat) (v := v40 + 1) fx (by first | (dsimp only; omega) | omega | exact not_false)
          have gn43 := GN.yes (l := (1 - v37).toNat) (w := v40 + 1) hV6.2.2.2 (by omega) (tbx t17 (by omega)) (by rw [y37]; omega) e40 rfl
          have lv43 : LVK (kap h x1.toNat) (kap (kU ha 192 ((1 - v37).toNat) (v40 + 1)) x1.toNat) (pB x3) (x5 + 1).toNat := by rw [show (x5 + 1).toNat = x5.toNat + 1 by omega, kap_of (kU_c _ _ _ _ (by decide))]; exact hV6.2.2.1.no (pB_f (by omega) t17 (by omega))
          have kc43 : x4 = kc (pB x3) (x5 + 1).toNat := by rw [show (x5 + 1).toNat = x5.toNat + 1 by omega, kc, pB_f (by omega) t17 (by omega)]; simp; omega
          refine K_goto 93 (pc := 44) (i := 31) rfl rfl ?_
          refine K_inc (pc := 93) (i := 60) (q := 5) (lo' := [(0, _), (1, _), (2, _), (3, _), (4, _), (5, _)]) rfl rfl rfl rfl rfl ?_
          refine K_goto 6 (pc := 96) (i := 61) rfl rfl ?_
          exact ih6 x4 (x5 + 1) _ (by omega) hI fx (by first | exact ⟨by omega, kc43, lv43, gn43⟩ | exact ⟨by omega, kc90, lv90, gn90⟩)
  exact L6 _ 0 0 _ (Nat.lt_succ_self _) hI fx ⟨by omega, rfl, LVK.z, GN.z⟩
theorem MOk.leave {h H : kH} {n : Int} (b : MOk h) (hf : FK (H 187) n) (e4 : H 184 4 = n) (e2 : H 191 = h 191) (e3 : H 200 = h 200) : MOk H := by
  unfold MOk
  rw [e2, e3, e4]
  exact ⟨hf, b.2.1, b.2.2⟩
set_option maxHeartbeats 4000000 in
set_option maxRecDepth 100000 in
theorem c_Model_gust (G : kG) {g : kGh} {h : kH}  (hT : g.2.2.2.2) (hI : Gd g h) : Ctr G y_Model_gust X_Model_gust 13 [.ref (G.2.2.2 184)] h (kQi (fun z h' => Fx (fun c i => c = 187 ∨ c = 189 ∨ c = 191 ∨ c = 192 ∨ (c = 184 ∧ (i = 4 ∨ i = 11 ∨ i = 12))) h h' ∧ (Gd g h' ∧ CMgust h h' z))) := by
  refine Ctr.ofK (by decide) rfl T_Model_gust (Nat.le_of_ble_eq_true rfl) (lo := [(0, .ref (G.2.2.2 184))]) rfl ?_
  have fx : Fx (fun c i => c = 187 ∨ c = 189 ∨ c = 191 ∨ c = 192 ∨ (c = 184 ∧ (i = 4 ∨ i = 11 ∨ i = 12))) h h := Fx.rf
  refine K_aload_n (pc := 0) (i := 0) rfl rfl ?_
  refine K_cVV (pc := 1) (i := 1) rfl (c_Model_keepAct G (hI := hI)) S_184 rfl (lv_Model_121 rfl) rfl rfl rfl rfl rfl (fun h1 q1 => ?_)
  obtain ⟨fx1, q1⟩ := q1
  obtain ⟨hI, mr1⟩ := q1
  have fx := fx.tr fx1 (fun c i q => (by first | (dsimp only at q ⊢; omega) | omega))
  refine K_aload_n (pc := 4) (i := 2) rfl rfl ?_
  refine K_getR (pc := 5) (i := 3) (j := 14) (d := 192) rfl S_184 rfl (by decide) rfl fw_Model_31 ?_
  refine K_iconst (pc := 8) (i := 4) rfl ?_
  refine K_iconst (pc := 9) (i := 5) rfl ?_
  refine K_iast (pc := 10) (i := 6) rfl S_192 (by omega) (by omega) (by decide) ?_
  have hI := st_free (c := 192) hI (by decide +kernel) (by decide) (i := (0 : Int).toNat) (v := 0)
  have fx := Fx.st (c := 192) (i := (0 : Int).toNat) (v := 0) fx (by first | (dsimp only; omega) | omega | exact not_false)
  refine K_aload_n (pc := 11) (i := 7) rfl rfl ?_
  refine K_getR (pc := 12) (i := 8) (j := 14) (d := 192) rfl S_184 rfl (by decide) rfl fw_Model_31 ?_
  refine K_iconst (pc := 15) (i := 9) rfl ?_
  refine K_iconst (pc := 16) (i := 10) rfl ?_
  refine K_iast (pc := 17) (i := 11) rfl S_192 (by omega) (by omega) (by decide) ?_
  have hI := st_free (c := 192) hI (by decide +kernel) (by decide) (i := (1 : Int).toNat) (v := 0)
  have fx := Fx.st (c := 192) (i := (1 : Int).toNat) (v := 0) fx (by first | (dsimp only; omega) | omega | exact not_false)
  have ga17 : ∀ t : Nat, t < 2 → (kU (kU h1 192 ((0 : Int).toNat) 0) 192 ((1 : Int).toNat) 0) 192 t = 0 := fun t ht => by rcases (show t = 0 ∨ t = 1 by omega) with rfl | rfl <;> simp [kU]
  have fx17 : ∀ c, c ≠ 192 → (kU (kU h1 192 ((0 : Int).toNat) 0) 192 ((1 : Int).toNat) 0) c = h1 c := fun c hc => (kU_c _ _ _ _ hc).trans (kU_c _ _ _ _ hc)
  have hm8 := rd_many hI
  have hkA := (hI.2.2.2.2.2 hT).1
  refine K_aload_n (pc := 18) (i := 12) rfl rfl ?_
  refine K_iconst (pc := 19) (i := 13) rfl ?_
  refine K_aload_n (pc := 20) (i := 14) rfl rfl ?_
  refine K_getI (pc := 21) (i := 15) (j := 4) rfl S_184 rfl (by decide) rfl fw_Model_59 ?_
  refine K_nm (fun v21 e21 => ?_)
  have r21 := rd_many hI
  rw [← e21] at r21
  have t21 : v21 = h 184 4 := by rw [e21, fx17 184 (by decide), fx1 184 4 (by first | (dsimp only; omega) | omega | exact not_false)]
  refine K_cVI (pc := 24) (i := 16) rfl (c_Model_blow0 G (x1 := 0) (x2 := v21) (hk := by rw [e21]; exact FK0 hkA) (hI := hI) (s1 := by omega) (s2 := by omega)) S_184 rfl (lv_Model_141 rfl) rfl rfl rfl rfl rfl (fun v24 h24 q24 => ?_)
  obtain ⟨fx24, q24⟩ := q24
  obtain ⟨hI, r24, bx24, ct24, fk24⟩ := q24
  have fx := fx.tr fx24 (fun c i q => (by first | (dsimp only at q ⊢; omega) | omega))
  have k24 : kap (kU (kU h1 192 ((0 : Int).toNat) 0) 192 ((1 : Int).toNat) 0) (0 : Int).toNat = h 187 := by rw [show kap (kU (kU h1 192 ((0 : Int).toNat) 0) 192 ((1 : Int).toNat) 0) (0 : Int).toNat = (kU (kU h1 192 ((0 : Int).toNat) 0) 192 ((1 : Int).toNat) 0) 187 from kap_0 _, fx17 187 (by decide), fx1.cell 187 (fun i => (by first | (dsimp only; omega) | omega))]
  have w24 : (kU (kU h1 192 ((0 : Int).toNat) 0) 192 ((1 : Int).toNat) 0) 188 = h 188 := by rw [fx17 188 (by decide), fx1.cell 188 (fun i => (by first | (dsimp only; omega) | omega))]
  rw [k24, w24, t21] at bx24
  rw [w24, t21] at ct24
  rw [t21] at fk24
  have bx25 : BXK (h 187) (kap h24 0) (h 188) (h 184 4) := bx24
  have e192 : h24 192 = (kU (kU h1 192 ((0 : Int).toNat) 0) 192 ((1 : Int).toNat) 0) 192 := fx24.cell 192 (fun i => (by first | (dsimp only; omega) | omega))
  refine K_ist_n (pc := 27) (i := 17) (lo' := [(0, _), (1, _)]) rfl rfl rfl rfl ?_
  have hG := hI
  refine K_aload_n (pc := 28) (i := 18) rfl rfl ?_
  refine K_aload_n (pc := 29) (i := 19) rfl rfl ?_
  refine K_iconst (pc := 30) (i := 20) rfl ?_
  refine K_aload_n (pc := 31) (i := 21) rfl rfl ?_
  refine K_getI (pc := 32) (i := 22) (j := 4) rfl S_184 rfl (by decide) rfl fw_Model_59 ?_
  refine K_nm (fun v32 e32 => ?_)
  have r32 := rd_many hI
  rw [← e32] at r32
  have t32 : v32 = h 184 4 := by rw [e32, fx24.cell 184 (fun i => (by first | (dsimp only; omega) | omega)), fx17 184 (by decide), fx1 184 4 (by first | (dsimp only; omega) | omega | exact not_false)]
  refine K_iload_n (pc := 35) (i := 23) rfl rfl ?_
  refine K_cVI (pc := 36) (i := 24) rfl (c_Model_leave0 G (x1 := 0) (x2 := v32) (x3 := v24) (hI := hI) (s1 := by omega) (s2 := by omega)) S_184 rfl (lv_Model_144 rfl) rfl rfl rfl rfl rfl (fun v36 h36 q36 => ?_)
  obtain ⟨fx36, q36⟩ := q36
  obtain ⟨hI, r36, kc36, th36, gn36⟩ := q36
  have fx := fx.tr fx36 (fun c i q => (by first | (dsimp only at q ⊢; omega) | omega))
  rw [t32] at kc36 th36 gn36
  refine K_putI (pc := 39) (i := 25) (j := 4) rfl S_184 rfl (by decide) rfl rfl rfl fw_Model_59 ?_
  have hI := st_many hI (v := v36) (by omega) (fun e _ => False.elim e)
  have fx := Fx.st (c := 184) (i := 4) (v := v36) fx (by first | (dsimp only; omega) | omega | exact not_false)
  refine K_aload_n (pc := 42) (i := 26) rfl rfl ?_
  refine K_getR (pc := 43) (i := 27) (j := 6) (d := 189) rfl S_184 rfl (by decide) rfl fw_Model_22 ?_
  refine K_iconst (pc := 46) (i := 28) rfl ?_
  refine K_dup2 (pc := 47) (i := 29) rfl rfl rfl ?_
  refine K_iald (pc := 48) (i := 30) rfl S_189 (by omega) (by omega) (by decide) ?_
  refine K_nm (fun v48 e48 => ?_)
  refine K_aload_n (pc := 49) (i := 31) rfl rfl ?_
  refine K_getR (pc := 50) (i := 32) (j := 14) (d := 192) rfl S_184 rfl (by decide) rfl fw_Model_31 ?_
  refine K_iconst (pc := 53) (i := 33) rfl ?_
  refine K_iald (pc := 54) (i := 34) rfl S_192 (by omega) (by omega) (by decide) ?_
  refine K_nm (fun v54 e54 => ?_)
  refine K_iadd (pc := 55) (i := 35) rfl ?_
  refine K_iast (pc := 56) (i := 36) rfl S_189 (by omega) (by omega) (by decide) ?_
  have hI := st_free (c := 189) hI (by decide +kernel) (by decide) (i := (0 : Int).toNat) (v := v48 + v54)
  have fx := Fx.st (c := 189) (i := (0 : Int).toNat) (v := v48 + v54) fx (by first | (dsimp only; omega) | omega | exact not_false)
  refine K_aload_n (pc := 57) (i := 37) rfl rfl ?_
  refine K_getR (pc := 58) (i := 38) (j := 6) (d := 189) rfl S_184 rfl (by decide) rfl fw_Model_22 ?_
  refine K_iconst (pc := 61) (i := 39) rfl ?_
  refine K_dup2 (pc := 62) (i := 40) rfl rfl rfl ?_
  refine K_iald (pc := 63) (i := 41) rfl S_189 (by omega) (by omega) (by decide) ?_
  refine K_nm (fun v63 e63 => ?_)
  refine K_aload_n (pc := 64) (i := 42) rfl rfl ?_
  refine K_getR (pc := 65) (i := 43) (j := 14) (d := 192) rfl S_184 rfl (by decide) rfl fw_Model_31 ?_
  refine K_iconst (pc := 68) (i := 44) rfl ?_
  refine K_iald (pc := 69) (i := 45) rfl S_192 (by omega) (by omega) (by decide) ?_
  refine K_nm (fun v69 e69 => ?_)
  refine K_iadd (pc := 70) (i := 46) rfl ?_
  refine K_iast (pc := 71) (i := 47) rfl S_189 (by omega) (by omega) (by decide) ?_
  have hI := st_free (c := 189) hI (by decide +kernel) (by decide) (i := (1 : Int).toNat) (v := v63 + v69)
  have fx := Fx.st (c := 189) (i := (1 : Int).toNat) (v := v63 + v69) fx (by first | (dsimp only; omega) | omega | exact not_false)
  refine K_iload_n (pc := 72) (i := 48) rfl rfl ?_
  exact K_retI (pc := 73) (i := 49) rfl rfl ⟨fx, (by
    have E187 : (kU (kU (kU h36 184 4 v36) 189 ((0 : Int).toNat) (v48 + v54)) 189 ((1 : Int).toNat) (v63 + v69)) 187 = kap h36 0 := by rw [kap_0]; simp only [kU_c _ _ _ _ (show (187 : Nat) ≠ 189 by decide), kU_c _ _ _ _ (show (187 : Nat) ≠ 184 by decide)]
    have E4 : (kU (kU (kU h36 184 4 v36) 189 ((0 : Int).toNat) (v48 + v54)) 189 ((1 : Int).toNat) (v63 + v69)) 184 4 = v36 := by rw [kU_c _ _ _ _ (by decide), kU_c _ _ _ _ (by decide), kU_at, if_pos ⟨rfl, rfl⟩]
    have E191 : (kU (kU (kU h36 184 4 v36) 189 ((0 : Int).toNat) (v48 + v54)) 189 ((1 : Int).toNat) (v63 + v69)) 191 = h36 191 := by simp only [kU_c _ _ _ _ (show (191 : Nat) ≠ 189 by decide), kU_c _ _ _ _ (show (191 : Nat) ≠ 184 by decide)]
    have E200 : (kU (kU (kU h36 184 4 v36) 189 ((0 : Int).toNat) (v48 + v54)) 189 ((1 : Int).toNat) (v63 + v69)) 200 = h36 200 := by simp only [kU_c _ _ _ _ (show (200 : Nat) ≠ 189 by decide), kU_c _ _ _ _ (show (200 : Nat) ≠ 184 by decide)]
    have E11 : (kU (kU (kU h36 184 4 v36) 189 ((0 : Int).toNat) (v48 + v54)) 189 ((1 : Int).toNat) (v63 + v69)) 184 11 = h1 184 11 := by rw [kU_c _ _ _ _ (by decide), kU_c _ _ _ _ (by decide), kU_at, if_neg (by omega), fx36.cell 184 (fun i => (by first | (dsimp only; omega) | omega)), fx24.cell 184 (fun i => (by first | (dsimp only; omega) | omega)), fx17 184 (by decide)]
    have E12 : (kU (kU (kU h36 184 4 v36) 189 ((0 : Int).toNat) (v48 + v54)) 189 ((1 : Int).toNat) (v63 + v69)) 184 12 = h1 184 12 := by rw [kU_c _ _ _ _ (by decide), kU_c _ _ _ _ (by decide), kU_at, if_neg (by omega), fx36.cell 184 (fun i => (by first | (dsimp only; omega) | omega)), fx24.cell 184 (fun i => (by first | (dsimp only; omega) | omega)), fx17 184 (by decide)]
    have E189 : h36 189 = h 189 := by rw [fx36.cell 189 (fun i => (by first | (dsimp only; omega) | omega)), fx24.cell 189 (fun i => (by first | (dsimp only; omega) | omega)), fx17 189 (by decide), fx1.cell 189 (fun i => (by first | (dsimp only; omega) | omega))]
    have GG : ∀ t : Nat, t < 2 → h36 192 t = cw v24 (fun i => h 187 (5 * i)) t (h 184 4).toNat := fun t ht => by
      have q : h36 192 t = h24 192 t + cw v24 (fun i => kap h24 0 (5 * i)) t (h 184 4).toNat := gn36 t ht
      rw [q, e192, ga17 t ht, Int.zero_add, cw_k bx25]
    have V0 : (kU (kU (kU h36 184 4 v36) 189 ((0 : Int).toNat) (v48 + v54)) 189 ((1 : Int).toNat) (v63 + v69)) 189 0 = h 189 0 + h36 192 0 := by
      rw [kU_at, if_neg (by simp), kU_at, if_pos (by simp), e48, e54]
      rw [kU_c _ _ _ _ (by decide), kU_c _ _ _ _ (by decide), E189]
      rfl
    have V1 : (kU (kU (kU h36 184 4 v36) 189 ((0 : Int).toNat) (v48 + v54)) 189 ((1 : Int).toNat) (v63 + v69)) 189 1 = h 189 1 + h36 192 1 := by
      rw [kU_at, if_pos (by simp), e63, e69]
      rw [kU_at, if_neg (by simp), kU_c _ _ _ _ (by decide), kU_c _ _ _ _ (by decide), kU_c _ _ _ _ (by decide), E189]
      rfl
    have th : THK (kap h24 0) (kap h36 0) (pB v24) (h 184 4) := th36
    have fk : FK (kap h36 0) v36 := by rw [kc36]; exact FK.thin fk24 th (by omega)
    refine ⟨Gd.fn hI (fun e => MOk.leave (hG.2.2.2.2.2 e) (n := v36) (by rw [E187]; exact fk) E4 (by rw [E191, fx36.cell 191 (fun i => (by first | (dsimp only; omega) | omega))]) (by rw [E200, fx36.cell 200 (fun i => (by first | (dsimp only; omega) | omega))])), MR.of mr1 (by rw [E191, fx36.cell 191 (fun i => (by first | (dsimp only; omega) | omega)), fx24.cell 191 (fun i => (by first | (dsimp only; omega) | omega)), fx17 191 (by decide)]) E11 E12, h36 192, ?_, V0, V1⟩
    rw [E187, E4]
    exact ⟨kap h24 0, ⟨by omega, bx25, ct24, fk24⟩, kc36, th, GG⟩)⟩
end
section
def UD (h ha : kH) (r n : Nat) : Prop := (∀ j, j < n → ha 187 j = h 191 (43 * r + j)) ∧ ha 191 = h 191 ∧ ha 200 = h 200 ∧ ha 184 12 = r
theorem UD.k {h ha : kH} {r n : Nat} {v : Int} (a : UD h ha r n) (hv : v = ha 191 (43 * r + n)) : UD h (kU ha 187 n v) r (n + 1) := by
  obtain ⟨a1, a2, a3, a4⟩ := a
  refine ⟨fun j hj => ?_, (kU_c _ _ _ _ (by decide)).trans a2, (kU_c _ _ _ _ (by decide)).trans a3, by rw [kU_at, if_neg (by omega)]; exact a4⟩
  rw [kU_at]
  by_cases e : j = n
  · rw [if_pos ⟨rfl, e⟩, hv, e, a2]
  · rw [if_neg (by omega)]; exact a1 j (by omega)
theorem UD.ot {h ha : kH} {r c i : Nat} {v : Int} (a : UD h ha r 40) (hc : c ≠ 187 ∧ c ≠ 191 ∧ c ≠ 200 ∧ ¬ (c = 184 ∧ i = 12)) : UD h (kU ha c i v) r 40 := by
  obtain ⟨a1, a2, a3, a4⟩ := a
  refine ⟨fun j hj => ?_, (kU_c _ _ _ _ (by omega)).trans a2, (kU_c _ _ _ _ (by omega)).trans a3, by rw [kU_at, if_neg (by omega)]; exact a4⟩
  rw [kU_c _ _ _ _ (by omega)]; exact a1 j hj
theorem UD.ok {g : kGh} {h ha : kH} {r : Nat} (hI : Gd g h) (a : UD h ha r 40) (hr : r < 16) (em : ha 184 4 = h 191 (43 * r + 40)) (b : MOk h) : MOk ha := by
  obtain ⟨a1, a2, a3, a4⟩ := a
  unfold MOk
  rw [a2, a3, em]
  exact ⟨FK.congr ((rd_row hI (43 * r + 40)).2 (by omega)).2 a1 (b.2.1 r hr), b.2.1, b.2.2⟩
/-- a slot takes the fleet -/
def KE (h ha : kH) (s n : Nat) : Prop := (∀ j, j < n → ha 200 (53 * s + j) = h 187 j) ∧ (∀ i, i < 53 * s ∨ 53 * s + 53 ≤ i → ha 200 i = h 200 i) ∧ ∀ c, c ≠ 200 → c ≠ 199 → ha c = h c
theorem KE.k {h ha : kH} {s n i : Nat} {v : Int} (a : KE h ha s n) (hn : n < 40) (hi : i = 53 * s + n) (hv : v = ha 187 n) : KE h (kU ha 200 i v) s (n + 1) := by
  subst hi
  refine ⟨fun j hj => ?_, fun i hi => ?_, fun c hc hd => (kU_c _ _ _ _ hc).trans (a.2.2 c hc hd)⟩
  · rw [kU_at]
    by_cases e : j = n
    · rw [if_pos ⟨rfl, by omega⟩, e, hv, a.2.2 187 (by decide) (by decide)]
    · rw [if_neg (by omega)]; exact a.1 j (by omega)
  · rw [kU_at, if_neg (by omega)]; exact a.2.1 i hi
theorem KE.ot {h ha : kH} {s i : Nat} {v : Int} (a : KE h ha s 40) (hi : 53 * s + 40 ≤ i ∧ i < 53 * s + 53) : KE h (kU ha 200 i v) s 40 := by
  refine ⟨fun j hj => ?_, fun q hq => ?_, fun c hc hd => (kU_c _ _ _ _ hc).trans (a.2.2 c hc hd)⟩
  · rw [kU_at, if_neg (by omega)]; exact a.1 j hj
  · rw [kU_at, if_neg (by omega)]; exact a.2.1 q hq
theorem KE.ok {g : kGh} {h ha : kH} {s : Nat} (hI : Gd g h) (a : KE h ha s 40) (hm : ha 200 (53 * s + 50) = h 184 4) (b : MOk h) : MOk ha := by
  unfold MOk
  rw [a.2.2 187 (by decide) (by decide), a.2.2 191 (by decide) (by decide), a.2.2 184 (by decide) (by decide)]
  refine ⟨b.1, b.2.1, fun q hq => ?_⟩
  by_cases hqr : q = s
  · subst hqr
    rw [hm]
    exact FK.congr (rd_many hI).2 (fun j hj => a.1 j hj) b.1
  · have e5 : ha 200 (53 * q + 50) = h 200 (53 * q + 50) := a.2.1 _ (by omega)
    rw [e5]
    have hb := (rd_kept hI (53 * q + 50)).2.1 (by omega)
    exact FK.congr hb.2 (fun j hj => a.2.1 _ (by omega)) (b.2.2 q hq)
def AG (h ha : kH) (s n : Nat) : Prop := (∀ j, j < n → ha 187 j = h 200 (53 * s + j)) ∧ ha 191 = h 191 ∧ ha 200 = h 200
theorem AG.k {h ha : kH} {s n : Nat} {v : Int} (a : AG h ha s n) (hv : v = ha 200 (53 * s + n)) : AG h (kU ha 187 n v) s (n + 1) := by
  obtain ⟨a1, a2, a3⟩ := a
  refine ⟨fun j hj => ?_, (kU_c _ _ _ _ (by decide)).trans a2, (kU_c _ _ _ _ (by decide)).trans a3⟩
  rw [kU_at]
  by_cases e : j = n
  · rw [if_pos ⟨rfl, e⟩, hv, e, a3]
  · rw [if_neg (by omega)]; exact a1 j (by omega)
theorem AG.ot {h ha : kH} {s c i : Nat} {v : Int} (a : AG h ha s 40) (hc : c ≠ 187 ∧ c ≠ 191 ∧ c ≠ 200) : AG h (kU ha c i v) s 40 := by
  obtain ⟨a1, a2, a3⟩ := a
  refine ⟨fun j hj => ?_, (kU_c _ _ _ _ (by omega)).trans a2, (kU_c _ _ _ _ (by omega)).trans a3⟩
  rw [kU_c _ _ _ _ (by omega)]; exact a1 j hj
theorem AG.ok {g : kGh} {h ha : kH} {s : Nat} (hI : Gd g h) (a : AG h ha s 40) (hs : s < 2) (em : ha 184 4 = h 200 (53 * s + 50)) (b : MOk h) : MOk ha := by
  obtain ⟨a1, a2, a3⟩ := a
  unfold MOk
  rw [a2, a3, em]
  exact ⟨FK.congr ((rd_kept hI (53 * s + 50)).2.1 (by omega)).2 a1 (b.2.2 s hs), b.2.1, b.2.2⟩
set_option maxHeartbeats 4000000 in
set_option maxRecDepth 100000 in
theorem c_Model_undo (G : kG) {g : kGh} {h : kH}  (hI : Gd g h) : Ctr G y_Model_undo X_Model_undo 13 [.ref (G.2.2.2 184)] h (kQi (fun z h' => Fx (fun c i => c = 187 ∨ c = 189 ∨ (c = 184 ∧ (i = 4 ∨ i = 11 ∨ i = 12))) h h' ∧ (Gd g h' ∧ CMundo h h' z))) := by
  refine Ctr.ofK (by decide) rfl T_Model_undo (Nat.le_of_ble_eq_true rfl) (lo := [(0, .ref (G.2.2.2 184))]) rfl ?_
  have fx : Fx (fun c i => c = 187 ∨ c = 189 ∨ (c = 184 ∧ (i = 4 ∨ i = 11 ∨ i = 12))) h h := Fx.rf
  refine K_aload_n (pc := 0) (i := 0) rfl rfl ?_
  refine K_getI (pc := 1) (i := 1) (j := 11) rfl S_184 rfl (by decide) rfl fw_Model_99 ?_
  refine K_nm (fun v1 e1 => ?_)
  have r1 := rd_macts hI
  rw [← e1] at r1
  first | refine K_if_ne 10 (pc := 4) (i := 2) rfl rfl (by omega) (fun b4 => ?_) (fun b4 => ?_) | refine K_if_ne_an 10 (pc := 4) (i := 2) rfl rfl (fun b4 => ?_) (fun b4 => ?_)
  · skip
    have hG := hI
    have hI := hI.nf
    refine K_aload_n (pc := 10) (i := 5) rfl rfl ?_
    refine K_dup (pc := 11) (i := 6) rfl rfl ?_
    refine K_getI (pc := 12) (i := 7) (j := 11) rfl S_184 rfl (by decide) rfl fw_Model_99 ?_
    refine K_nm (fun v12 e12 => ?_)
    have r12 := rd_macts hI
    rw [← e12] at r12
    have t12 : v12 = v1 := by rw [e12, e1]; try simp [kU]
    refine K_iconst (pc := 15) (i := 8) rfl ?_
    refine K_isub (pc := 16) (i := 9) rfl ?_
    refine K_putI (pc := 17) (i := 10) (j := 11) rfl S_184 rfl (by decide) rfl rfl rfl fw_Model_99 ?_
    have hI := st_macts hI (v := v12 - 1) (by omega)
    have fx := Fx.st (c := 184) (i := 11) (v := v12 - 1) fx (by first | (dsimp only; omega) | omega | exact not_false)
    refine K_aload_n (pc := 20) (i := 11) rfl rfl ?_
    refine K_aload_n (pc := 21) (i := 12) rfl rfl ?_
    refine K_getI (pc := 22) (i := 13) (j := 12) rfl S_184 rfl (by decide) rfl fw_Model_116 ?_
    refine K_nm (fun v22 e22 => ?_)
    have r22 := rd_mnext hI
    rw [← e22] at r22
    have t22 : v22 = h 184 12 := by rw [e22, kU_at, if_neg (by omega)]
    refine K_bipush (pc := 25) (i := 14) rfl rfl ?_
    refine K_iadd (pc := 27) (i := 15) rfl ?_
    refine K_bipush (pc := 28) (i := 16) rfl rfl ?_
    refine K_irem (pc := 30) (i := 17) rfl (by omega) (by omega) ?_
    refine K_eq (kRem_eq (by omega) (by omega) (by omega) (by omega)) ?_
    refine K_putI (pc := 31) (i := 18) (j := 12) rfl S_184 rfl (by decide) rfl rfl rfl fw_Model_116 ?_
    have hI := st_mnext hI (v := (v22 + 15) % 16) (by omega)
    have fx := Fx.st (c := 184) (i := 12) (v := (v22 + 15) % 16) fx (by first | (dsimp only; omega) | omega | exact not_false)
    obtain ⟨r, er⟩ : ∃ r : Nat, (v22 + 15) % 16 = r := Int.eq_ofNat_of_zero_le (by omega)
    have ud0 : UD h (kU (kU h 184 11 (v12 - 1)) 184 12 ((v22 + 15) % 16)) r 0 := ⟨fun j hj => absurd hj (by omega), by simp only [kU_c _ _ _ _ (show (191 : Nat) ≠ 184 by decide)], by simp only [kU_c _ _ _ _ (show (200 : Nat) ≠ 184 by decide)], by rw [kU_at, if_pos ⟨rfl, rfl⟩]; exact er⟩
    have er2 : ((h 184 12 + 15) % 16).toNat = r := by rw [← t22, er]; omega
    have ac31 : (kU (kU h 184 11 (v12 - 1)) 184 12 ((v22 + 15) % 16)) 184 11 = h 184 11 - 1 := by rw [kU_at, if_neg (by omega), kU_at, if_pos ⟨rfl, rfl⟩]; omega
    refine K_iconst (pc := 34) (i := 19) rfl ?_
    refine K_ist_n (pc := 35) (i := 20) (lo' := [(0, _), (1, _)]) rfl rfl rfl rfl ?_
    have L36 : ∀ (n : Nat) (x1 : Int) (ha : kH), (40 - x1).toNat < n → (Gd (kNf g) ha) → (Fx (fun c i => c = 187 ∨ c = 189 ∨ (c = 184 ∧ (i = 4 ∨ i = 11 ∨ i = 12))) h ha) → ((0 ≤ x1 ∧ x1 ≤ 40) ∧ UD h ha r x1.toNat ∧ ha 184 11 = h 184 11 - 1) → K X_Model_undo G (kZm G 13 (kQi (fun z h' => Fx (fun c i => c = 187 ∨ c = 189 ∨ (c = 184 ∧ (i = 4 ∨ i = 11 ∨ i = 12))) h h' ∧ (Gd g h' ∧ CMundo h h' z)))) 36 [(0, .ref (G.2.2.2 184)), (1, kI x1)] [] ha := by
      intro n
      induction n with
      | zero => intro x1 ha hm; exact absurd hm (Nat.not_lt_zero _)
      | succ n ih36 =>
        intro x1 ha hm36 hI fx hV36
        refine K_iload_n (pc := 36) (i := 21) rfl rfl ?_
        refine K_bipush (pc := 37) (i := 22) rfl rfl ?_
        first | refine K_icmp_ge 68 (pc := 39) (i := 23) rfl rfl (by omega) (by omega) (fun b39 => ?_) (fun b39 => ?_) | refine K_icmp_ge_an 68 (pc := 39) (i := 23) rfl rfl (fun b39 => ?_) (fun b39 => ?_)
        · skip
          have ud : UD h ha r 40 := by have := hV36.2.1; rwa [show x1.toNat = 40 by omega] at this
          have ac := hV36.2.2
          refine K_aload_n (pc := 68) (i := 39) rfl rfl ?_
          refine K_aload_n (pc := 69) (i := 40) rfl rfl ?_
          refine K_getR (pc := 70) (i := 41) (j := 13) (d := 191) rfl S_184 rfl (by decide) rfl fw_Model_28 ?_
          refine K_bipush (pc := 73) (i := 42) rfl rfl ?_
          refine K_aload_n (pc := 75) (i := 43) rfl rfl ?_
          refine K_getI (pc := 76) (i := 44) (j := 12) rfl S_184 rfl (by decide) rfl fw_Model_116 ?_
          refine K_nm (fun v76 e76 => ?_)
          have r76 := rd_mnext hI
          rw [← e76] at r76
          have t76 : v76 = r := by rw [e76]; exact ud.2.2.2
          refine K_imul (pc := 79) (i := 45) rfl ?_
          refine K_bipush (pc := 80) (i := 46) rfl rfl ?_
          refine K_iadd (pc := 82) (i := 47) rfl ?_
          refine K_iald (pc := 83) (i := 48) rfl S_191 (by omega) (by omega) (by decide) ?_
          refine K_nm (fun v83 e83 => ?_)
          have r83 := (rd_row hI ((43 * v76) + 40).toNat).2 (by omega)
          rw [← e83] at r83
          refine K_putI (pc := 84) (i := 49) (j := 4) rfl S_184 rfl (by decide) rfl rfl rfl fw_Model_59 ?_
          have hI := st_many hI (v := v83) (by omega) (fun e _ => False.elim e)
          have fx := Fx.st (c := 184) (i := 4) (v := v83) fx (by first | (dsimp only; omega) | omega | exact not_false)
          have t83 : v83 = h 191 (43 * r + 40) := by rw [e83, ud.2.1]; congr 1; omega
          have ud := UD.ot (c := 184) (i := 4) (v := v83) ud (by omega)
          have m84 : (kU ha 184 4 v83) 184 4 = h 191 (43 * r + 40) := by rw [kU_at, if_pos ⟨rfl, rfl⟩]; exact t83
          have ac84 : (kU ha 184 4 v83) 184 11 = h 184 11 - 1 := by rw [kU_at, if_neg (by omega)]; exact ac
          refine K_aload_n (pc := 87) (i := 50) rfl rfl ?_
          refine K_getR (pc := 88) (i := 51) (j := 6) (d := 189) rfl S_184 rfl (by decide) rfl fw_Model_22 ?_
          refine K_iconst (pc := 91) (i := 52) rfl ?_
          refine K_aload_n (pc := 92) (i := 53) rfl rfl ?_
          refine K_getR (pc := 93) (i := 54) (j := 13) (d := 191) rfl S_184 rfl (by decide) rfl fw_Model_28 ?_
          refine K_bipush (pc := 96) (i := 55) rfl rfl ?_
          refine K_aload_n (pc := 98) (i := 56) rfl rfl ?_
          refine K_getI (pc := 99) (i := 57) (j := 12) rfl S_184 rfl (by decide) rfl fw_Model_116 ?_
          refine K_nm (fun v99 e99 => ?_)
          have r99 := rd_mnext hI
          rw [← e99] at r99
          have t99 : v99 = r := by rw [e99]; exact ud.2.2.2
          refine K_imul (pc := 102) (i := 58) rfl ?_
          refine K_bipush (pc := 103) (i := 59) rfl rfl ?_
          refine K_iadd (pc := 105) (i := 60) rfl ?_
          refine K_iald (pc := 106) (i := 61) rfl S_191 (by omega) (by omega) (by decide) ?_
          refine K_nm (fun v106 e106 => ?_)
          have t106 : v106 = h 191 (43 * r + 41) := by rw [e106, ud.2.1]; congr 1; omega
          refine K_iast (pc := 107) (i := 62) rfl S_189 (by omega) (by omega) (by decide) ?_
          have hI := st_free (c := 189) hI (by decide +kernel) (by decide) (i := (0 : Int).toNat) (v := v106)
          have fx := Fx.st (c := 189) (i := (0 : Int).toNat) (v := v106) fx (by first | (dsimp only; omega) | omega | exact not_false)
          have ud := UD.ot (c := 189) (i := (0 : Int).toNat) (v := v106) ud (by omega)
          have m107 : (kU (kU ha 184 4 v83) 189 ((0 : Int).toNat) v106) 184 4 = h 191 (43 * r + 40) := by rw [kU_at, if_neg (by omega)]; exact m84
          refine K_aload_n (pc := 108) (i := 63) rfl rfl ?_
          refine K_getR (pc := 109) (i := 64) (j := 6) (d := 189) rfl S_184 rfl (by decide) rfl fw_Model_22 ?_
          refine K_iconst (pc := 112) (i := 65) rfl ?_
          refine K_aload_n (pc := 113) (i := 66) rfl rfl ?_
          refine K_getR (pc := 114) (i := 67) (j := 13) (d := 191) rfl S_184 rfl (by decide) rfl fw_Model_28 ?_
          refine K_bipush (pc := 117) (i := 68) rfl rfl ?_
          refine K_aload_n (pc := 119) (i := 69) rfl rfl ?_
          refine K_getI (pc := 120) (i := 70) (j := 12) rfl S_184 rfl (by decide) rfl fw_Model_116 ?_
          refine K_nm (fun v120 e120 => ?_)
          have r120 := rd_mnext hI
          rw [← e120] at r120
          have t120 : v120 = r := by rw [e120]; exact ud.2.2.2
          refine K_imul (pc := 123) (i := 71) rfl ?_
          refine K_bipush (pc := 124) (i := 72) rfl rfl ?_
          refine K_iadd (pc := 126) (i := 73) rfl ?_
          refine K_iald (pc := 127) (i := 74) rfl S_191 (by omega) (by omega) (by decide) ?_
          refine K_nm (fun v127 e127 => ?_)
          have t127 : v127 = h 191 (43 * r + 42) := by rw [e127, ud.2.1]; congr 1; omega
          refine K_iast (pc := 128) (i := 75) rfl S_189 (by omega) (by omega) (by decide) ?_
          have hI := st_free (c := 189) hI (by decide +kernel) (by decide) (i := (1 : Int).toNat) (v := v127)
          have fx := Fx.st (c := 189) (i := (1 : Int).toNat) (v := v127) fx (by first | (dsimp only; omega) | omega | exact not_false)
          have ud := UD.ot (c := 189) (i := (1 : Int).toNat) (v := v127) ud (by omega)
          have m128 : (kU (kU (kU ha 184 4 v83) 189 ((0 : Int).toNat) v106) 189 ((1 : Int).toNat) v127) 184 4 = h 191 (43 * r + 40) := by rw [kU_at, if_neg (by omega)]; exact m107
          have ac128 : (kU (kU (kU ha 184 4 v83) 189 ((0 : Int).toNat) v106) 189 ((1 : Int).toNat) v127) 184 11 = h 184 11 - 1 := by rw [kU_c _ _ _ _ (by decide), kU_c _ _ _ _ (by decide)]; exact ac84
          refine K_aload_n (pc := 129) (i := 76) rfl rfl ?_
          refine K_getI (pc := 130) (i := 77) (j := 11) rfl S_184 rfl (by decide) rfl fw_Model_99 ?_
          refine K_nm (fun v130 e130 => ?_)
          have r130 := rd_macts hI
          rw [← e130] at r130
          exact K_retI (pc := 133) (i := 78) rfl rfl ⟨fx, ⟨Gd.fn hI (fun e => UD.ok hG ud (by omega) m128 (hG.2.2.2.2.2 e)), Or.inr ⟨by omega, by rw [e130]; exact ac128, by rw [ud.2.2.2, ← t22, er], ac128, by rw [er2]; exact ud.1, by rw [er2]; exact m128, by rw [er2, kU_at, if_neg (by simp), kU_at, if_pos (by simp)]; exact t106, by rw [er2, kU_at, if_pos (by simp)]; exact t127⟩⟩⟩
        · skip
          refine K_aload_n (pc := 42) (i := 24) rfl rfl ?_
          refine K_getR (pc := 43) (i := 25) (j := 3) (d := 187) rfl S_184 rfl (by decide) rfl fw_Model_16 ?_
          refine K_iload_n (pc := 46) (i := 26) rfl rfl ?_
          refine K_aload_n (pc := 47) (i := 27) rfl rfl ?_
          refine K_getR (pc := 48) (i := 28) (j := 13) (d := 191) rfl S_184 rfl (by decide) rfl fw_Model_28 ?_
          refine K_bipush (pc := 51) (i := 29) rfl rfl ?_
          refine K_aload_n (pc := 53) (i := 30) rfl rfl ?_
          refine K_getI (pc := 54) (i := 31) (j := 12) rfl S_184 rfl (by decide) rfl fw_Model_116 ?_
          refine K_nm (fun v54 e54 => ?_)
          have r54 := rd_mnext hI
          rw [← e54] at r54
          have t54 : v54 = r := by rw [e54]; exact hV36.2.1.2.2.2
          refine K_imul (pc := 57) (i := 32) rfl ?_
          refine K_iload_n (pc := 58) (i := 33) rfl rfl ?_
          refine K_iadd (pc := 59) (i := 34) rfl ?_
          refine K_iald (pc := 60) (i := 35) rfl S_191 (by omega) (by omega) (by decide) ?_
          refine K_nm (fun v60 e60 => ?_)
          have r60 := rd_row hI ((43 * v54) + x1).toNat
          rw [← e60] at r60
          refine K_iast (pc := 61) (i := 36) rfl S_187 (by omega) (by omega) (by decide) ?_
          have hI := st_mkites hI (i := (x1).toNat) (v := v60) (bK_ofR (r := (v54).toNat) r60 (by omega) (by omega)) (fun e _ => False.elim e)
          have fx := Fx.st (c := 187) (i := (x1).toNat) (v := v60) fx (by first | (dsimp only; omega) | omega | exact not_false)
          have ud61 := UD.k (n := (x1).toNat) (v := v60) hV36.2.1 (by rw [e60]; congr 1; omega)
          refine K_inc (pc := 62) (i := 37) (q := 1) (lo' := [(0, _), (1, _)]) rfl rfl rfl rfl rfl ?_
          refine K_goto 36 (pc := 65) (i := 38) rfl rfl ?_
          exact ih36 (x1 + 1) _ (by omega) hI fx ⟨by omega, by have := ud61; rwa [show x1.toNat + 1 = (x1 + 1).toNat by omega] at this, by rw [kU_c _ _ _ _ (show (184 : Nat) ≠ 187 by decide)]; exact hV36.2.2⟩
    exact L36 _ 0 _ (Nat.lt_succ_self _) hI fx ⟨by omega, ud0, ac31⟩
  · skip
    refine K_bipush (pc := 7) (i := 3) rfl rfl ?_
    exact K_retI (pc := 9) (i := 4) rfl rfl ⟨fx, ⟨hI, Or.inl ⟨by omega, rfl, rfl⟩⟩⟩
set_option maxHeartbeats 4000000 in
set_option maxRecDepth 100000 in
theorem c_Model_keep (G : kG) {g : kGh} {h : kH} {x1 : Int} (s1 : kR x1) (hI : Gd g h) : Ctr G y_Model_keep X_Model_keep 13 [.ref (G.2.2.2 184), kI x1] h (kQi (fun z h' => Fx (fun c i => c = 199 ∨ c = 200) h h' ∧ (Gd g h' ∧ CMkeep h h' x1 z))) := by
  refine Ctr.ofK (by decide) rfl T_Model_keep (Nat.le_of_ble_eq_true rfl) (lo := [(0, .ref (G.2.2.2 184)), (1, kI x1)]) rfl ?_
  have fx : Fx (fun c i => c = 199 ∨ c = 200) h h := Fx.rf
  refine K_iload_n (pc := 0) (i := 0) rfl rfl ?_
  refine K_i2l (pc := 1) (i := 1) rfl ?_
  refine K_eqJ (kI2l_eq (a := x1) (by omega)) ?_
  refine K_lconst 0 (pc := 2) (i := 2) rfl rfl ?_
  refine K_lconst 1 (pc := 3) (i := 3) rfl rfl ?_
  refine K_cSI (pc := 4) (i := 4) rfl (c_Model_in G (l0 := x1) (l2 := 0) (l4 := 1) (s0 := by omega) (s2 := by omega) (s4 := by omega)) (ls_Model_65 rfl) rfl rfl rfl rfl (fun v4 h4 q4 => ?_)
  obtain ⟨eh, r4⟩ := q4
  rw [eh]; clear eh
  first | refine K_if_ne 12 (pc := 7) (i := 5) rfl rfl (by omega) (fun b7 => ?_) (fun b7 => ?_) | refine K_if_ne_an 12 (pc := 7) (i := 5) rfl rfl (fun b7 => ?_) (fun b7 => ?_)
  · skip
    have hG := hI
    have hI := hI.nf
    refine K_aload_n (pc := 12) (i := 8) rfl rfl ?_
    refine K_getR (pc := 13) (i := 9) (j := 24) (d := 199) rfl S_184 rfl (by decide) rfl fw_Model_53 ?_
    refine K_iload_n (pc := 16) (i := 10) rfl rfl ?_
    refine K_iconst (pc := 17) (i := 11) rfl ?_
    refine K_bast (pc := 18) (i := 12) rfl S_199 (by omega) (by omega) (by decide) (by omega) ?_
    have hI := st_isKept hI (i := (x1).toNat) (v := 1) (by omega)
    have fx := Fx.st (c := 199) (i := (x1).toNat) (v := 1) fx (by first | (dsimp only; omega) | omega | exact not_false)
    have ke0 : KE h (kU h 199 ((x1).toNat) 1) x1.toNat 0 := ⟨fun j hj => absurd hj (by omega), fun i _ => by rw [kU_c _ _ _ _ (show (200 : Nat) ≠ 199 by decide)], fun c _ q => kU_c _ _ _ _ q⟩
    have ik18 : ∀ j, (kU h 199 ((x1).toNat) 1) 199 j = if j = x1.toNat then 1 else h 199 j := fun j => kU_s _ _ _ _ j
    refine K_iconst (pc := 19) (i := 13) rfl ?_
    refine K_ist_n (pc := 20) (i := 14) (lo' := [(0, _), (1, _), (2, _)]) rfl rfl rfl rfl ?_
    have L21 : ∀ (n : Nat) (x2 : Int) (ha : kH), (40 - x2).toNat < n → (Gd (kNf g) ha) → (Fx (fun c i => c = 199 ∨ c = 200) h ha) → ((0 ≤ x2 ∧ x2 ≤ 40) ∧ KE h ha x1.toNat x2.toNat ∧ ∀ j, ha 199 j = if j = x1.toNat then 1 else h 199 j) → K X_Model_keep G (kZm G 13 (kQi (fun z h' => Fx (fun c i => c = 199 ∨ c = 200) h h' ∧ (Gd g h' ∧ CMkeep h h' x1 z)))) 21 [(0, .ref (G.2.2.2 184)), (1, kI x1), (2, kI x2)] [] ha := by
      intro n
      induction n with
      | zero => intro x2 ha hm; exact absurd hm (Nat.not_lt_zero _)
      | succ n ih21 =>
        intro x2 ha hm21 hI fx hV21
        refine K_iload_n (pc := 21) (i := 15) rfl rfl ?_
        refine K_bipush (pc := 22) (i := 16) rfl rfl ?_
        first | refine K_icmp_ge 50 (pc := 24) (i := 17) rfl rfl (by omega) (by omega) (fun b24 => ?_) (fun b24 => ?_) | refine K_icmp_ge_an 50 (pc := 24) (i := 17) rfl rfl (fun b24 => ?_) (fun b24 => ?_)
        · skip
          have ke40 : KE h ha x1.toNat 40 := by have := hV21.2.1; rwa [show x2.toNat = 40 by omega] at this
          refine K_iconst (pc := 50) (i := 32) rfl ?_
          refine K_ist_n (pc := 51) (i := 33) (lo' := [(0, _), (1, _), (2, _)]) rfl rfl rfl rfl ?_
          have L52 : ∀ (n : Nat) (x2b : Int) (hb : kH), (10 - x2b).toNat < n → (Gd (kNf g) hb) → (Fx (fun c i => c = 199 ∨ c = 200) h hb) → ((0 ≤ x2b ∧ x2b ≤ 10) ∧ KE h hb x1.toNat 40 ∧ (∀ i : Nat, (i : Int) < x2b → hb 200 (53 * x1.toNat + 40 + i) = h 188 i) ∧ ∀ j, hb 199 j = if j = x1.toNat then 1 else h 199 j) → K X_Model_keep G (kZm G 13 (kQi (fun z h' => Fx (fun c i => c = 199 ∨ c = 200) h h' ∧ (Gd g h' ∧ CMkeep h h' x1 z)))) 52 [(0, .ref (G.2.2.2 184)), (1, kI x1), (2, kI x2b)] [] hb := by
            intro n
            induction n with
            | zero => intro x2b hb hm; exact absurd hm (Nat.not_lt_zero _)
            | succ n ih52 =>
              intro x2b hb hm52 hI fx hV52
              refine K_iload_n (pc := 52) (i := 34) rfl rfl ?_
              refine K_bipush (pc := 53) (i := 35) rfl rfl ?_
              first | refine K_icmp_ge 84 (pc := 55) (i := 36) rfl rfl (by omega) (by omega) (fun b55 => ?_) (fun b55 => ?_) | refine K_icmp_ge_an 84 (pc := 55) (i := 36) rfl rfl (fun b55 => ?_) (fun b55 => ?_)
              · skip
                have ke := hV52.2.1
                have wk := hV52.2.2.1
                have ik := hV52.2.2.2
                refine K_aload_n (pc := 84) (i := 53) rfl rfl ?_
                refine K_getR (pc := 85) (i := 54) (j := 25) (d := 200) rfl S_184 rfl (by decide) rfl fw_Model_56 ?_
                refine K_bipush (pc := 88) (i := 55) rfl rfl ?_
                refine K_iload_n (pc := 90) (i := 56) rfl rfl ?_
                refine K_imul (pc := 91) (i := 57) rfl ?_
                refine K_bipush (pc := 92) (i := 58) rfl rfl ?_
                refine K_iadd (pc := 94) (i := 59) rfl ?_
                refine K_aload_n (pc := 95) (i := 60) rfl rfl ?_
                refine K_getI (pc := 96) (i := 61) (j := 4) rfl S_184 rfl (by decide) rfl fw_Model_59 ?_
                refine K_nm (fun v96 e96 => ?_)
                have r96 := rd_many hI
                rw [← e96] at r96
                refine K_iast (pc := 99) (i := 62) rfl S_200 (by omega) (by omega) (by decide) ?_
                have hI := st_kept hI (i := ((53 * x1) + 50).toNat) (v := v96) (by unfold bP; omega) (fun e _ => False.elim e)
                have fx := Fx.st (c := 200) (i := ((53 * x1) + 50).toNat) (v := v96) fx (by first | (dsimp only; omega) | omega | exact not_false)
                have t96 : v96 = h 184 4 := by rw [e96, ke.2.2 184 (by decide) (by decide)]
                have ke := KE.ot (i := ((53 * x1) + 50).toNat) (v := v96) ke (by omega)
                have m99 : (kU hb 200 (((53 * x1) + 50).toNat) v96) 200 (53 * x1.toNat + 50) = h 184 4 := by rw [kU_at, if_pos ⟨rfl, by omega⟩]; exact t96
                have wk99 : ∀ i : Nat, i < 10 → (kU hb 200 (((53 * x1) + 50).toNat) v96) 200 (53 * x1.toNat + 40 + i) = h 188 i := fun i hi => by rw [kU_at, if_neg (by omega)]; exact wk i (by omega)
                refine K_aload_n (pc := 100) (i := 63) rfl rfl ?_
                refine K_getR (pc := 101) (i := 64) (j := 25) (d := 200) rfl S_184 rfl (by decide) rfl fw_Model_56 ?_
                refine K_bipush (pc := 104) (i := 65) rfl rfl ?_
                refine K_iload_n (pc := 106) (i := 66) rfl rfl ?_
                refine K_imul (pc := 107) (i := 67) rfl ?_
                refine K_bipush (pc := 108) (i := 68) rfl rfl ?_
                refine K_iadd (pc := 110) (i := 69) rfl ?_
                refine K_aload_n (pc := 111) (i := 70) rfl rfl ?_
                refine K_getR (pc := 112) (i := 71) (j := 6) (d := 189) rfl S_184 rfl (by decide) rfl fw_Model_22 ?_
                refine K_iconst (pc := 115) (i := 72) rfl ?_
                refine K_iald (pc := 116) (i := 73) rfl S_189 (by omega) (by omega) (by decide) ?_
                refine K_nm (fun v116 e116 => ?_)
                have t116 : v116 = h 189 0 := by rw [e116, ke.2.2 189 (by decide) (by decide)]; rfl
                refine K_iast (pc := 117) (i := 74) rfl S_200 (by omega) (by omega) (by decide) ?_
                have hI := st_kept hI (i := ((53 * x1) + 51).toNat) (v := v116) (by unfold bP; omega) (fun e _ => False.elim e)
                have fx := Fx.st (c := 200) (i := ((53 * x1) + 51).toNat) (v := v116) fx (by first | (dsimp only; omega) | omega | exact not_false)
                have ke := KE.ot (i := ((53 * x1) + 51).toNat) (v := v116) ke (by omega)
                have m117 : (kU (kU hb 200 (((53 * x1) + 50).toNat) v96) 200 (((53 * x1) + 51).toNat) v116) 200 (53 * x1.toNat + 50) = h 184 4 ∧ (kU (kU hb 200 (((53 * x1) + 50).toNat) v96) 200 (((53 * x1) + 51).toNat) v116) 200 (53 * x1.toNat + 51) = h 189 0 := ⟨by rw [kU_at, if_neg (by omega)]; exact m99, by rw [kU_at, if_pos ⟨rfl, by omega⟩]; exact t116⟩
                have wk117 : ∀ i : Nat, i < 10 → (kU (kU hb 200 (((53 * x1) + 50).toNat) v96) 200 (((53 * x1) + 51).toNat) v116) 200 (53 * x1.toNat + 40 + i) = h 188 i := fun i hi => by rw [kU_at, if_neg (by omega)]; exact wk99 i hi
                refine K_aload_n (pc := 118) (i := 75) rfl rfl ?_
                refine K_getR (pc := 119) (i := 76) (j := 25) (d := 200) rfl S_184 rfl (by decide) rfl fw_Model_56 ?_
                refine K_bipush (pc := 122) (i := 77) rfl rfl ?_
                refine K_iload_n (pc := 124) (i := 78) rfl rfl ?_
                refine K_imul (pc := 125) (i := 79) rfl ?_
                refine K_bipush (pc := 126) (i := 80) rfl rfl ?_
                refine K_iadd (pc := 128) (i := 81) rfl ?_
                refine K_aload_n (pc := 129) (i := 82) rfl rfl ?_
                refine K_getR (pc := 130) (i := 83) (j := 6) (d := 189) rfl S_184 rfl (by decide) rfl fw_Model_22 ?_
                refine K_iconst (pc := 133) (i := 84) rfl ?_
                refine K_iald (pc := 134) (i := 85) rfl S_189 (by omega) (by omega) (by decide) ?_
                refine K_nm (fun v134 e134 => ?_)
                have t134 : v134 = h 189 1 := by rw [e134, ke.2.2 189 (by decide) (by decide)]; rfl
                refine K_iast (pc := 135) (i := 86) rfl S_200 (by omega) (by omega) (by decide) ?_
                have hI := st_kept hI (i := ((53 * x1) + 52).toNat) (v := v134) (by unfold bP; omega) (fun e _ => False.elim e)
                have fx := Fx.st (c := 200) (i := ((53 * x1) + 52).toNat) (v := v134) fx (by first | (dsimp only; omega) | omega | exact not_false)
                have ke := KE.ot (i := ((53 * x1) + 52).toNat) (v := v134) ke (by omega)
                have m135 : (kU (kU (kU hb 200 (((53 * x1) + 50).toNat) v96) 200 (((53 * x1) + 51).toNat) v116) 200 (((53 * x1) + 52).toNat) v134) 200 (53 * x1.toNat + 50) = h 184 4 ∧ (kU (kU (kU hb 200 (((53 * x1) + 50).toNat) v96) 200 (((53 * x1) + 51).toNat) v116) 200 (((53 * x1) + 52).toNat) v134) 200 (53 * x1.toNat + 51) = h 189 0 ∧ (kU (kU (kU hb 200 (((53 * x1) + 50).toNat) v96) 200 (((53 * x1) + 51).toNat) v116) 200 (((53 * x1) + 52).toNat) v134) 200 (53 * x1.toNat + 52) = h 189 1 := ⟨by rw [kU_at, if_neg (by omega)]; exact m117.1, by rw [kU_at, if_neg (by omega)]; exact m117.2, by rw [kU_at, if_pos ⟨rfl, by omega⟩]; exact t134⟩
                have wk135 : ∀ i : Nat, i < 10 → (kU (kU (kU hb 200 (((53 * x1) + 50).toNat) v96) 200 (((53 * x1) + 51).toNat) v116) 200 (((53 * x1) + 52).toNat) v134) 200 (53 * x1.toNat + 40 + i) = h 188 i := fun i hi => by rw [kU_at, if_neg (by omega)]; exact wk117 i hi
                have ik135 : ∀ j, (kU (kU (kU hb 200 (((53 * x1) + 50).toNat) v96) 200 (((53 * x1) + 51).toNat) v116) 200 (((53 * x1) + 52).toNat) v134) 199 j = if j = x1.toNat then 1 else h 199 j := fun j => by rw [kU_c _ _ _ _ (by decide), kU_c _ _ _ _ (by decide), kU_c _ _ _ _ (by decide)]; exact ik j
                refine K_aload_n (pc := 136) (i := 87) rfl rfl ?_
                refine K_getI (pc := 137) (i := 88) (j := 4) rfl S_184 rfl (by decide) rfl fw_Model_59 ?_
                refine K_nm (fun v137 e137 => ?_)
                have r137 := rd_many hI
                rw [← e137] at r137
                exact K_retI (pc := 140) (i := 89) rfl rfl ⟨fx, ⟨Gd.fn hI (fun e => KE.ok hG ke m135.1 (hG.2.2.2.2.2 e)), Or.inr ⟨by omega, by rw [e137]; exact (congrFun (ke.2.2 184 (by decide) (by decide)) 4), ik135, ke.1, wk135, m135, ke.2.1⟩⟩⟩
              · skip
                refine K_aload_n (pc := 58) (i := 37) rfl rfl ?_
                refine K_getR (pc := 59) (i := 38) (j := 25) (d := 200) rfl S_184 rfl (by decide) rfl fw_Model_56 ?_
                refine K_bipush (pc := 62) (i := 39) rfl rfl ?_
                refine K_iload_n (pc := 64) (i := 40) rfl rfl ?_
                refine K_imul (pc := 65) (i := 41) rfl ?_
                refine K_bipush (pc := 66) (i := 42) rfl rfl ?_
                refine K_iadd (pc := 68) (i := 43) rfl ?_
                refine K_iload_n (pc := 69) (i := 44) rfl rfl ?_
                refine K_iadd (pc := 70) (i := 45) rfl ?_
                refine K_aload_n (pc := 71) (i := 46) rfl rfl ?_
                refine K_getR (pc := 72) (i := 47) (j := 5) (d := 188) rfl S_184 rfl (by decide) rfl fw_Model_19 ?_
                refine K_iload_n (pc := 75) (i := 48) rfl rfl ?_
                refine K_iald (pc := 76) (i := 49) rfl S_188 (by omega) (by omega) (by decide) ?_
                refine K_nm (fun v76 e76 => ?_)
                have r76 := rd_mwinds hI (x2b).toNat
                rw [← e76] at r76
                have t76 : v76 = h 188 x2b.toNat := by rw [e76, hV52.2.1.2.2 188 (by decide) (by decide)]
                refine K_iast (pc := 77) (i := 50) rfl S_200 (by omega) (by omega) (by decide) ?_
                have hI := st_kept hI (i := (((53 * x1) + 40) + x2b).toNat) (v := v76) (by unfold bP; omega) (fun e _ => False.elim e)
                have fx := Fx.st (c := 200) (i := (((53 * x1) + 40) + x2b).toNat) (v := v76) fx (by first | (dsimp only; omega) | omega | exact not_false)
                have ke77 := KE.ot (i := (((53 * x1) + 40) + x2b).toNat) (v := v76) hV52.2.1 (by omega)
                have wk77 : ∀ i : Nat, (i : Int) < x2b + 1 → (kU hb 200 ((((53 * x1) + 40) + x2b).toNat) v76) 200 (53 * x1.toNat + 40 + i) = h 188 i := fun i hi => by rw [kU_at]; by_cases q : i = x2b.toNat; (rw [if_pos ⟨rfl, by omega⟩, t76, q]); (rw [if_neg (by omega)]; exact hV52.2.2.1 i (by omega))
                refine K_inc (pc := 78) (i := 51) (q := 2) (lo' := [(0, _), (1, _), (2, _)]) rfl rfl rfl rfl rfl ?_
                refine K_goto 52 (pc := 81) (i := 52) rfl rfl ?_
                exact ih52 (x2b + 1) _ (by omega) hI fx ⟨by omega, ke77, wk77, fun j => by rw [kU_c _ _ _ _ (by decide)]; exact hV52.2.2.2 j⟩
          exact L52 _ 0 _ (Nat.lt_succ_self _) hI fx ⟨by omega, ke40, fun i hi => absurd hi (by omega), hV21.2.2⟩
        · skip
          refine K_aload_n (pc := 27) (i := 18) rfl rfl ?_
          refine K_getR (pc := 28) (i := 19) (j := 25) (d := 200) rfl S_184 rfl (by decide) rfl fw_Model_56 ?_
          refine K_bipush (pc := 31) (i := 20) rfl rfl ?_
          refine K_iload_n (pc := 33) (i := 21) rfl rfl ?_
          refine K_imul (pc := 34) (i := 22) rfl ?_
          refine K_iload_n (pc := 35) (i := 23) rfl rfl ?_
          refine K_iadd (pc := 36) (i := 24) rfl ?_
          refine K_aload_n (pc := 37) (i := 25) rfl rfl ?_
          refine K_getR (pc := 38) (i := 26) (j := 3) (d := 187) rfl S_184 rfl (by decide) rfl fw_Model_16 ?_
          refine K_iload_n (pc := 41) (i := 27) rfl rfl ?_
          refine K_iald (pc := 42) (i := 28) rfl S_187 (by omega) (by omega) (by decide) ?_
          refine K_nm (fun v42 e42 => ?_)
          have r42 := rd_mkites hI (x2).toNat
          rw [← e42] at r42
          refine K_iast (pc := 43) (i := 29) rfl S_200 (by omega) (by omega) (by decide) ?_
          have hI := st_kept hI (i := ((53 * x1) + x2).toNat) (v := v42) (bP_of (r := (x1).toNat) r42 (by omega) (by omega)) (fun e _ => False.elim e)
          have fx := Fx.st (c := 200) (i := ((53 * x1) + x2).toNat) (v := v42) fx (by first | (dsimp only; omega) | omega | exact not_false)
          have ke43 := KE.k (i := ((53 * x1) + x2).toNat) (v := v42) hV21.2.1 (by omega) (by omega) e42
          refine K_inc (pc := 44) (i := 30) (q := 2) (lo' := [(0, _), (1, _), (2, _)]) rfl rfl rfl rfl rfl ?_
          refine K_goto 21 (pc := 47) (i := 31) rfl rfl ?_
          exact ih21 (x2 + 1) _ (by omega) hI fx ⟨by omega, by have := ke43; rwa [show x2.toNat + 1 = (x2 + 1).toNat by omega] at this, fun j => by rw [kU_c _ _ _ _ (by decide)]; exact hV21.2.2 j⟩
    exact L21 _ 0 _ (Nat.lt_succ_self _) hI fx ⟨by omega, ke0, ik18⟩
  · skip
    refine K_iconst (pc := 10) (i := 6) rfl ?_
    exact K_retI (pc := 11) (i := 7) rfl rfl ⟨fx, ⟨hI, Or.inl ⟨by omega, rfl, rfl⟩⟩⟩
set_option maxHeartbeats 4000000 in
set_option maxRecDepth 100000 in
theorem c_Model_again (G : kG) {g : kGh} {h : kH} {x1 : Int} (s1 : kR x1) (hI : Gd g h) : Ctr G y_Model_again X_Model_again 13 [.ref (G.2.2.2 184), kI x1] h (kQi (fun z h' => Fx (fun c i => c = 187 ∨ c = 188 ∨ c = 189 ∨ (c = 184 ∧ (i = 4 ∨ i = 11))) h h' ∧ (Gd g h' ∧ CMagain h h' x1 z))) := by
  refine Ctr.ofK (by decide) rfl T_Model_again (Nat.le_of_ble_eq_true rfl) (lo := [(0, .ref (G.2.2.2 184)), (1, kI x1)]) rfl ?_
  have fx : Fx (fun c i => c = 187 ∨ c = 188 ∨ c = 189 ∨ (c = 184 ∧ (i = 4 ∨ i = 11))) h h := Fx.rf
  refine K_iload_n (pc := 0) (i := 0) rfl rfl ?_
  refine K_i2l (pc := 1) (i := 1) rfl ?_
  refine K_eqJ (kI2l_eq (a := x1) (by omega)) ?_
  refine K_lconst 0 (pc := 2) (i := 2) rfl rfl ?_
  refine K_lconst 1 (pc := 3) (i := 3) rfl rfl ?_
  refine K_cSI (pc := 4) (i := 4) rfl (c_Model_in G (l0 := x1) (l2 := 0) (l4 := 1) (s0 := by omega) (s2 := by omega) (s4 := by omega)) (ls_Model_65 rfl) rfl rfl rfl rfl (fun v4 h4 q4 => ?_)
  obtain ⟨eh, r4⟩ := q4
  rw [eh]; clear eh
  first | refine K_if_ne 12 (pc := 7) (i := 5) rfl rfl (by omega) (fun b7 => ?_) (fun b7 => ?_) | refine K_if_ne_an 12 (pc := 7) (i := 5) rfl rfl (fun b7 => ?_) (fun b7 => ?_)
  · skip
    refine K_aload_n (pc := 12) (i := 8) rfl rfl ?_
    refine K_getR (pc := 13) (i := 9) (j := 24) (d := 199) rfl S_184 rfl (by decide) rfl fw_Model_53 ?_
    refine K_iload_n (pc := 16) (i := 10) rfl rfl ?_
    refine K_bald (pc := 17) (i := 11) rfl S_199 (by omega) (by omega) (by decide) ?_
    refine K_nm (fun v17 e17 => ?_)
    have r17 := rd_isKept hI (x1).toNat
    rw [← e17] at r17
    first | refine K_if_ne 24 (pc := 18) (i := 12) rfl rfl (by omega) (fun b18 => ?_) (fun b18 => ?_) | refine K_if_ne_an 24 (pc := 18) (i := 12) rfl rfl (fun b18 => ?_) (fun b18 => ?_)
    · skip
      have hG := hI
      have hI := hI.nf
      refine K_iconst (pc := 24) (i := 15) rfl ?_
      refine K_ist_n (pc := 25) (i := 16) (lo' := [(0, _), (1, _), (2, _)]) rfl rfl rfl rfl ?_
      have L26 : ∀ (n : Nat) (x2 : Int) (ha : kH), (40 - x2).toNat < n → (Gd (kNf g) ha) → (Fx (fun c i => c = 187 ∨ c = 188 ∨ c = 189 ∨ (c = 184 ∧ (i = 4 ∨ i = 11))) h ha) → ((0 ≤ x2 ∧ x2 ≤ 40) ∧ AG h ha x1.toNat x2.toNat) → K X_Model_again G (kZm G 13 (kQi (fun z h' => Fx (fun c i => c = 187 ∨ c = 188 ∨ c = 189 ∨ (c = 184 ∧ (i = 4 ∨ i = 11))) h h' ∧ (Gd g h' ∧ CMagain h h' x1 z)))) 26 [(0, .ref (G.2.2.2 184)), (1, kI x1), (2, kI x2)] [] ha := by
        intro n
        induction n with
        | zero => intro x2 ha hm; exact absurd hm (Nat.not_lt_zero _)
        | succ n ih26 =>
          intro x2 ha hm26 hI fx hV26
          refine K_iload_n (pc := 26) (i := 17) rfl rfl ?_
          refine K_bipush (pc := 27) (i := 18) rfl rfl ?_
          first | refine K_icmp_ge 55 (pc := 29) (i := 19) rfl rfl (by omega) (by omega) (fun b29 => ?_) (fun b29 => ?_) | refine K_icmp_ge_an 55 (pc := 29) (i := 19) rfl rfl (fun b29 => ?_) (fun b29 => ?_)
          · skip
            have ag40 : AG h ha x1.toNat 40 := by have := hV26.2; rwa [show x2.toNat = 40 by omega] at this
            refine K_iconst (pc := 55) (i := 34) rfl ?_
            refine K_ist_n (pc := 56) (i := 35) (lo' := [(0, _), (1, _), (2, _)]) rfl rfl rfl rfl ?_
            have L57 : ∀ (n : Nat) (x2b : Int) (hb : kH), (10 - x2b).toNat < n → (Gd (kNf g) hb) → (Fx (fun c i => c = 187 ∨ c = 188 ∨ c = 189 ∨ (c = 184 ∧ (i = 4 ∨ i = 11))) h hb) → ((0 ≤ x2b ∧ x2b ≤ 10) ∧ AG h hb x1.toNat 40 ∧ (∀ i : Nat, (i : Int) < x2b → hb 188 i = h 200 (53 * x1.toNat + 40 + i))) → K X_Model_again G (kZm G 13 (kQi (fun z h' => Fx (fun c i => c = 187 ∨ c = 188 ∨ c = 189 ∨ (c = 184 ∧ (i = 4 ∨ i = 11))) h h' ∧ (Gd g h' ∧ CMagain h h' x1 z)))) 57 [(0, .ref (G.2.2.2 184)), (1, kI x1), (2, kI x2b)] [] hb := by
              intro n
              induction n with
              | zero => intro x2b hb hm; exact absurd hm (Nat.not_lt_zero _)
              | succ n ih57 =>
                intro x2b hb hm57 hI fx hV57
                refine K_iload_n (pc := 57) (i := 36) rfl rfl ?_
                refine K_bipush (pc := 58) (i := 37) rfl rfl ?_
                first | refine K_icmp_ge 89 (pc := 60) (i := 38) rfl rfl (by omega) (by omega) (fun b60 => ?_) (fun b60 => ?_) | refine K_icmp_ge_an 89 (pc := 60) (i := 38) rfl rfl (fun b60 => ?_) (fun b60 => ?_)
                · skip
                  have ag := hV57.2.1
                  have wa := hV57.2.2
                  refine K_aload_n (pc := 89) (i := 55) rfl rfl ?_
                  refine K_aload_n (pc := 90) (i := 56) rfl rfl ?_
                  refine K_getR (pc := 91) (i := 57) (j := 25) (d := 200) rfl S_184 rfl (by decide) rfl fw_Model_56 ?_
                  refine K_bipush (pc := 94) (i := 58) rfl rfl ?_
                  refine K_iload_n (pc := 96) (i := 59) rfl rfl ?_
                  refine K_imul (pc := 97) (i := 60) rfl ?_
                  refine K_bipush (pc := 98) (i := 61) rfl rfl ?_
                  refine K_iadd (pc := 100) (i := 62) rfl ?_
                  refine K_iald (pc := 101) (i := 63) rfl S_200 (by omega) (by omega) (by decide) ?_
                  refine K_nm (fun v101 e101 => ?_)
                  have r101 := (rd_kept hI ((53 * x1) + 50).toNat).2.1 (by omega)
                  rw [← e101] at r101
                  refine K_putI (pc := 102) (i := 64) (j := 4) rfl S_184 rfl (by decide) rfl rfl rfl fw_Model_59 ?_
                  have hI := st_many hI (v := v101) (by omega) (fun e _ => False.elim e)
                  have fx := Fx.st (c := 184) (i := 4) (v := v101) fx (by first | (dsimp only; omega) | omega | exact not_false)
                  have t101 : v101 = h 200 (53 * x1.toNat + 50) := by rw [e101, ag.2.2]; congr 1; omega
                  have ag := AG.ot (c := 184) (i := 4) (v := v101) ag (by omega)
                  have m102 : (kU hb 184 4 v101) 184 4 = h 200 (53 * x1.toNat + 50) := by rw [kU_at, if_pos ⟨rfl, rfl⟩]; exact t101
                  refine K_aload_n (pc := 105) (i := 65) rfl rfl ?_
                  refine K_getR (pc := 106) (i := 66) (j := 6) (d := 189) rfl S_184 rfl (by decide) rfl fw_Model_22 ?_
                  refine K_iconst (pc := 109) (i := 67) rfl ?_
                  refine K_aload_n (pc := 110) (i := 68) rfl rfl ?_
                  refine K_getR (pc := 111) (i := 69) (j := 25) (d := 200) rfl S_184 rfl (by decide) rfl fw_Model_56 ?_
                  refine K_bipush (pc := 114) (i := 70) rfl rfl ?_
                  refine K_iload_n (pc := 116) (i := 71) rfl rfl ?_
                  refine K_imul (pc := 117) (i := 72) rfl ?_
                  refine K_bipush (pc := 118) (i := 73) rfl rfl ?_
                  refine K_iadd (pc := 120) (i := 74) rfl ?_
                  refine K_iald (pc := 121) (i := 75) rfl S_200 (by omega) (by omega) (by decide) ?_
                  refine K_nm (fun v121 e121 => ?_)
                  have t121 : v121 = h 200 (53 * x1.toNat + 51) := by rw [e121, ag.2.2]; congr 1; omega
                  refine K_iast (pc := 122) (i := 76) rfl S_189 (by omega) (by omega) (by decide) ?_
                  have hI := st_free (c := 189) hI (by decide +kernel) (by decide) (i := (0 : Int).toNat) (v := v121)
                  have fx := Fx.st (c := 189) (i := (0 : Int).toNat) (v := v121) fx (by first | (dsimp only; omega) | omega | exact not_false)
                  have ag := AG.ot (c := 189) (i := (0 : Int).toNat) (v := v121) ag (by omega)
                  have m122 : (kU (kU hb 184 4 v101) 189 ((0 : Int).toNat) v121) 184 4 = h 200 (53 * x1.toNat + 50) := by rw [kU_at, if_neg (by omega)]; exact m102
                  refine K_aload_n (pc := 123) (i := 77) rfl rfl ?_
                  refine K_getR (pc := 124) (i := 78) (j := 6) (d := 189) rfl S_184 rfl (by decide) rfl fw_Model_22 ?_
                  refine K_iconst (pc := 127) (i := 79) rfl ?_
                  refine K_aload_n (pc := 128) (i := 80) rfl rfl ?_
                  refine K_getR (pc := 129) (i := 81) (j := 25) (d := 200) rfl S_184 rfl (by decide) rfl fw_Model_56 ?_
                  refine K_bipush (pc := 132) (i := 82) rfl rfl ?_
                  refine K_iload_n (pc := 134) (i := 83) rfl rfl ?_
                  refine K_imul (pc := 135) (i := 84) rfl ?_
                  refine K_bipush (pc := 136) (i := 85) rfl rfl ?_
                  refine K_iadd (pc := 138) (i := 86) rfl ?_
                  refine K_iald (pc := 139) (i := 87) rfl S_200 (by omega) (by omega) (by decide) ?_
                  refine K_nm (fun v139 e139 => ?_)
                  have t139 : v139 = h 200 (53 * x1.toNat + 52) := by rw [e139, ag.2.2]; congr 1; omega
                  refine K_iast (pc := 140) (i := 88) rfl S_189 (by omega) (by omega) (by decide) ?_
                  have hI := st_free (c := 189) hI (by decide +kernel) (by decide) (i := (1 : Int).toNat) (v := v139)
                  have fx := Fx.st (c := 189) (i := (1 : Int).toNat) (v := v139) fx (by first | (dsimp only; omega) | omega | exact not_false)
                  have ag := AG.ot (c := 189) (i := (1 : Int).toNat) (v := v139) ag (by omega)
                  have m140 : (kU (kU (kU hb 184 4 v101) 189 ((0 : Int).toNat) v121) 189 ((1 : Int).toNat) v139) 184 4 = h 200 (53 * x1.toNat + 50) := by rw [kU_at, if_neg (by omega)]; exact m122
                  refine K_aload_n (pc := 141) (i := 89) rfl rfl ?_
                  refine K_iconst (pc := 142) (i := 90) rfl ?_
                  refine K_putI (pc := 143) (i := 91) (j := 11) rfl S_184 rfl (by decide) rfl rfl rfl fw_Model_99 ?_
                  have hI := st_macts hI (v := 0) (by omega)
                  have fx := Fx.st (c := 184) (i := 11) (v := 0) fx (by first | (dsimp only; omega) | omega | exact not_false)
                  have ag := AG.ot (c := 184) (i := 11) (v := 0) ag (by omega)
                  have m143 : (kU (kU (kU (kU hb 184 4 v101) 189 ((0 : Int).toNat) v121) 189 ((1 : Int).toNat) v139) 184 11 0) 184 4 = h 200 (53 * x1.toNat + 50) := by rw [kU_at, if_neg (by omega)]; exact m140
                  refine K_aload_n (pc := 146) (i := 92) rfl rfl ?_
                  refine K_getI (pc := 147) (i := 93) (j := 4) rfl S_184 rfl (by decide) rfl fw_Model_59 ?_
                  refine K_nm (fun v147 e147 => ?_)
                  have r147 := rd_many hI
                  rw [← e147] at r147
                  exact K_retI (pc := 150) (i := 94) rfl rfl ⟨fx, ⟨Gd.fn hI (fun e => AG.ok hG ag (by omega) m143 (hG.2.2.2.2.2 e)), Or.inr (Or.inr ⟨by omega, by rw [← e17]; omega, e147, ag.1, fun i hi => by simp only [kU_c _ _ _ _ (show (188 : Nat) ≠ 184 by decide), kU_c _ _ _ _ (show (188 : Nat) ≠ 189 by decide)]; exact wa i (by omega), ⟨m143, by rw [kU_c _ _ _ _ (by decide), kU_at, if_neg (by simp), kU_at, if_pos (by simp)]; exact t121, by rw [kU_c _ _ _ _ (by decide), kU_at, if_pos (by simp)]; exact t139⟩, by rw [kU_at, if_pos ⟨rfl, rfl⟩]⟩)⟩⟩
                · skip
                  refine K_aload_n (pc := 63) (i := 39) rfl rfl ?_
                  refine K_getR (pc := 64) (i := 40) (j := 5) (d := 188) rfl S_184 rfl (by decide) rfl fw_Model_19 ?_
                  refine K_iload_n (pc := 67) (i := 41) rfl rfl ?_
                  refine K_aload_n (pc := 68) (i := 42) rfl rfl ?_
                  refine K_getR (pc := 69) (i := 43) (j := 25) (d := 200) rfl S_184 rfl (by decide) rfl fw_Model_56 ?_
                  refine K_bipush (pc := 72) (i := 44) rfl rfl ?_
                  refine K_iload_n (pc := 74) (i := 45) rfl rfl ?_
                  refine K_imul (pc := 75) (i := 46) rfl ?_
                  refine K_bipush (pc := 76) (i := 47) rfl rfl ?_
                  refine K_iadd (pc := 78) (i := 48) rfl ?_
                  refine K_iload_n (pc := 79) (i := 49) rfl rfl ?_
                  refine K_iadd (pc := 80) (i := 50) rfl ?_
                  refine K_iald (pc := 81) (i := 51) rfl S_200 (by omega) (by omega) (by decide) ?_
                  refine K_nm (fun v81 e81 => ?_)
                  have r81 := rd_kept hI (((53 * x1) + 40) + x2b).toNat
                  rw [← e81] at r81
                  have u81 := r81.2.2 (by omega) (by omega)
                  have t81 : v81 = h 200 (53 * x1.toNat + 40 + x2b.toNat) := by rw [e81, hV57.2.1.2.2]; congr 1; omega
                  refine K_iast (pc := 82) (i := 52) rfl S_188 (by omega) (by omega) (by decide) ?_
                  have hI := st_mwinds hI (i := (x2b).toNat) (v := v81) (by omega)
                  have fx := Fx.st (c := 188) (i := (x2b).toNat) (v := v81) fx (by first | (dsimp only; omega) | omega | exact not_false)
                  have ag82 := AG.ot (c := 188) (i := (x2b).toNat) (v := v81) hV57.2.1 (by omega)
                  have wa82 : ∀ i : Nat, (i : Int) < x2b + 1 → (kU hb 188 ((x2b).toNat) v81) 188 i = h 200 (53 * x1.toNat + 40 + i) := fun i hi => by rw [kU_at]; by_cases q : i = x2b.toNat; (rw [if_pos ⟨rfl, q⟩, t81, q]); (rw [if_neg (by omega)]; exact hV57.2.2 i (by omega))
                  refine K_inc (pc := 83) (i := 53) (q := 2) (lo' := [(0, _), (1, _), (2, _)]) rfl rfl rfl rfl rfl ?_
                  refine K_goto 57 (pc := 86) (i := 54) rfl rfl ?_
                  exact ih57 (x2b + 1) _ (by omega) hI fx ⟨by omega, ag82, wa82⟩
            exact L57 _ 0 _ (Nat.lt_succ_self _) hI fx ⟨by omega, ag40, fun i hi => absurd hi (by omega)⟩
          · skip
            refine K_aload_n (pc := 32) (i := 20) rfl rfl ?_
            refine K_getR (pc := 33) (i := 21) (j := 3) (d := 187) rfl S_184 rfl (by decide) rfl fw_Model_16 ?_
            refine K_iload_n (pc := 36) (i := 22) rfl rfl ?_
            refine K_aload_n (pc := 37) (i := 23) rfl rfl ?_
            refine K_getR (pc := 38) (i := 24) (j := 25) (d := 200) rfl S_184 rfl (by decide) rfl fw_Model_56 ?_
            refine K_bipush (pc := 41) (i := 25) rfl rfl ?_
            refine K_iload_n (pc := 43) (i := 26) rfl rfl ?_
            refine K_imul (pc := 44) (i := 27) rfl ?_
            refine K_iload_n (pc := 45) (i := 28) rfl rfl ?_
            refine K_iadd (pc := 46) (i := 29) rfl ?_
            refine K_iald (pc := 47) (i := 30) rfl S_200 (by omega) (by omega) (by decide) ?_
            refine K_nm (fun v47 e47 => ?_)
            have r47 := rd_kept hI ((53 * x1) + x2).toNat
            rw [← e47] at r47
            refine K_iast (pc := 48) (i := 31) rfl S_187 (by omega) (by omega) (by decide) ?_
            have hI := st_mkites hI (i := (x2).toNat) (v := v47) (bK_ofP (r := (x1).toNat) r47 (by omega) (by omega)) (fun e _ => False.elim e)
            have fx := Fx.st (c := 187) (i := (x2).toNat) (v := v47) fx (by first | (dsimp only; omega) | omega | exact not_false)
            have ag48 := AG.k (n := (x2).toNat) (v := v47) hV26.2 (by rw [e47]; congr 1; omega)
            refine K_inc (pc := 49) (i := 32) (q := 2) (lo' := [(0, _), (1, _), (2, _)]) rfl rfl rfl rfl rfl ?_
            refine K_goto 26 (pc := 52) (i := 33) rfl rfl ?_
            exact ih26 (x2 + 1) _ (by omega) hI fx ⟨by omega, by have := ag48; rwa [show x2.toNat + 1 = (x2 + 1).toNat by omega] at this⟩
      exact L26 _ 0 _ (Nat.lt_succ_self _) hI fx ⟨by omega, fun j hj => absurd hj (by omega), rfl, rfl⟩
    · skip
      refine K_bipush (pc := 21) (i := 13) rfl rfl ?_
      exact K_retI (pc := 23) (i := 14) rfl rfl ⟨fx, ⟨hI, Or.inr (Or.inl ⟨by omega, by rw [← e17]; omega, rfl, rfl⟩)⟩⟩
  · skip
    refine K_iconst (pc := 10) (i := 6) rfl ?_
    exact K_retI (pc := 11) (i := 7) rfl rfl ⟨fx, ⟨hI, Or.inl ⟨by omega, rfl, rfl⟩⟩⟩
end
section
set_option maxHeartbeats 4000000 in
set_option maxRecDepth 100000 in
theorem c_Model_common (G : kG)  {h : kH} {x0 : Int} {x1 : Int} (s0 : -1000000000 ≤ x0 ∧ x0 ≤ 1000000000) (s1 : -1000000000 ≤ x1 ∧ x1 ≤ 1000000000) (hne : x0 ≠ 0 ∨ x1 ≠ 0) : Ctr G y_Model_common X_Model_common 1 [kI x0, kI x1] h (kQi (fun z h' => h' = h ∧ kR z ∧ z ≠ 0)) := by
  refine Ctr.ofK (by decide) rfl T_Model_common (Nat.le_of_ble_eq_true rfl) (lo := [(0, kI x0), (1, kI x1)]) rfl ?_
  refine K_iload_n (pc := 0) (i := 0) rfl rfl ?_
  first | refine K_if_ge 9 (pc := 1) (i := 1) rfl rfl (by omega) (fun b1 => ?_) (fun b1 => ?_) | refine K_if_ge_an 9 (pc := 1) (i := 1) rfl rfl (fun b1 => ?_) (fun b1 => ?_)
  · skip
    refine K_iload_n (pc := 9) (i := 5) rfl rfl ?_
    refine K_ist_n (pc := 10) (i := 6) (lo' := [(0, _), (1, _), (2, _)]) rfl rfl rfl rfl ?_
    refine K_iload_n (pc := 11) (i := 7) rfl rfl ?_
    first | refine K_if_ge 20 (pc := 12) (i := 8) rfl rfl (by omega) (fun b12 => ?_) (fun b12 => ?_) | refine K_if_ge_an 20 (pc := 12) (i := 8) rfl rfl (fun b12 => ?_) (fun b12 => ?_)
    · skip
      refine K_iload_n (pc := 20) (i := 12) rfl rfl ?_
      refine K_ist_n (pc := 21) (i := 13) (lo' := [(0, _), (1, _), (2, _), (3, _)]) rfl rfl rfl rfl ?_
      have L22 : ∀ (n : Nat) (x2 : Int) (x3 : Int), x3.toNat < n → ((0 ≤ x2 ∧ kR x2) ∧ (0 ≤ x3 ∧ kR x3) ∧ (x2 ≠ 0 ∨ x3 ≠ 0)) → K X_Model_common G (kZm G 1 (kQi (fun z h' => h' = h ∧ kR z ∧ z ≠ 0))) 22 [(0, kI x0), (1, kI x1), (2, kI x2), (3, kI x3)] [] h := by
        intro n
        induction n with
        | zero => intro x2 x3 hm; exact absurd hm (Nat.not_lt_zero _)
        | succ n ih22 =>
          intro x2 x3 hm22 hV22
          refine K_iload_n (pc := 22) (i := 14) rfl rfl ?_
          first | refine K_if_eq 39 (pc := 23) (i := 15) rfl rfl (by omega) (fun b23 => ?_) (fun b23 => ?_) | refine K_if_eq_an 39 (pc := 23) (i := 15) rfl rfl (fun b23 => ?_) (fun b23 => ?_)
          · skip
            refine K_iload_n (pc := 39) (i := 25) rfl rfl ?_
            exact K_retI (pc := 40) (i := 26) rfl rfl ⟨rfl, by omega⟩
          · skip
            refine K_iload_n (pc := 26) (i := 16) rfl rfl ?_
            refine K_iload_n (pc := 27) (i := 17) rfl rfl ?_
            refine K_irem (pc := 28) (i := 18) rfl (by omega) (by omega) ?_
            refine K_eq (kRem_eq (by omega) (by omega) (by omega) (by omega)) ?_
            refine K_nm (fun v28 e28 => ?_)
            have t28 : 0 ≤ v28 ∧ v28 < x3 := by rw [e28]; exact ⟨Int.emod_nonneg _ (by omega), Int.emod_lt_of_pos _ (by omega)⟩
            refine K_ist (pc := 29) (i := 19) (lo' := [(0, _), (1, _), (2, _), (3, _), (4, _)]) rfl rfl rfl rfl ?_
            refine K_iload_n (pc := 31) (i := 20) rfl rfl ?_
            refine K_ist_n (pc := 32) (i := 21) (lo' := [(0, _), (1, _), (2, _), (3, _), (4, _)]) rfl rfl rfl rfl ?_
            refine K_iload (pc := 33) (i := 22) rfl rfl ?_
            refine K_ist_n (pc := 35) (i := 23) (lo' := [(0, _), (1, _), (2, _), (3, _), (4, _)]) rfl rfl rfl rfl ?_
            refine K_goto 22 (pc := 36) (i := 24) rfl rfl ?_
            refine K_drop (lo' := [(0, kI x0), (1, kI x1), (2, kI x3), (3, kI v28)]) [0, 1, 2, 3] rfl ?_
            exact ih22 x3 v28 (by omega) (by omega)
      exact L22 _ x0 x1 (Nat.lt_succ_self _) (by omega)
    · skip
      refine K_iload_n (pc := 15) (i := 9) rfl rfl ?_
      refine K_ineg (pc := 16) (i := 10) rfl ?_
      refine K_goto 21 (pc := 17) (i := 11) rfl rfl ?_
      refine K_ist_n (pc := 21) (i := 13) (lo' := [(0, _), (1, _), (2, _), (3, _)]) rfl rfl rfl rfl ?_
      have L22 : ∀ (n : Nat) (x2 : Int) (x3 : Int), x3.toNat < n → ((0 ≤ x2 ∧ kR x2) ∧ (0 ≤ x3 ∧ kR x3) ∧ (x2 ≠ 0 ∨ x3 ≠ 0)) → K X_Model_common G (kZm G 1 (kQi (fun z h' => h' = h ∧ kR z ∧ z ≠ 0))) 22 [(0, kI x0), (1, kI x1), (2, kI x2), (3, kI x3)] [] h := by
        intro n
        induction n with
        | zero => intro x2 x3 hm; exact absurd hm (Nat.not_lt_zero _)
        | succ n ih22 =>
          intro x2 x3 hm22 hV22
          refine K_iload_n (pc := 22) (i := 14) rfl rfl ?_
          first | refine K_if_eq 39 (pc := 23) (i := 15) rfl rfl (by omega) (fun b23 => ?_) (fun b23 => ?_) | refine K_if_eq_an 39 (pc := 23) (i := 15) rfl rfl (fun b23 => ?_) (fun b23 => ?_)
          · skip
            refine K_iload_n (pc := 39) (i := 25) rfl rfl ?_
            exact K_retI (pc := 40) (i := 26) rfl rfl ⟨rfl, by omega⟩
          · skip
            refine K_iload_n (pc := 26) (i := 16) rfl rfl ?_
            refine K_iload_n (pc := 27) (i := 17) rfl rfl ?_
            refine K_irem (pc := 28) (i := 18) rfl (by omega) (by omega) ?_
            refine K_eq (kRem_eq (by omega) (by omega) (by omega) (by omega)) ?_
            refine K_nm (fun v28 e28 => ?_)
            have t28 : 0 ≤ v28 ∧ v28 < x3 := by rw [e28]; exact ⟨Int.emod_nonneg _ (by omega), Int.emod_lt_of_pos _ (by omega)⟩
            refine K_ist (pc := 29) (i := 19) (lo' := [(0, _), (1, _), (2, _), (3, _), (4, _)]) rfl rfl rfl rfl ?_
            refine K_iload_n (pc := 31) (i := 20) rfl rfl ?_
            refine K_ist_n (pc := 32) (i := 21) (lo' := [(0, _), (1, _), (2, _), (3, _), (4, _)]) rfl rfl rfl rfl ?_
            refine K_iload (pc := 33) (i := 22) rfl rfl ?_
            refine K_ist_n (pc := 35) (i := 23) (lo' := [(0, _), (1, _), (2, _), (3, _), (4, _)]) rfl rfl rfl rfl ?_
            refine K_goto 22 (pc := 36) (i := 24) rfl rfl ?_
            refine K_drop (lo' := [(0, kI x0), (1, kI x1), (2, kI x3), (3, kI v28)]) [0, 1, 2, 3] rfl ?_
            exact ih22 x3 v28 (by omega) (by omega)
      exact L22 _ x0 (-x1) (Nat.lt_succ_self _) (by omega)
  · skip
    refine K_iload_n (pc := 4) (i := 2) rfl rfl ?_
    refine K_ineg (pc := 5) (i := 3) rfl ?_
    refine K_goto 10 (pc := 6) (i := 4) rfl rfl ?_
    refine K_ist_n (pc := 10) (i := 6) (lo' := [(0, _), (1, _), (2, _)]) rfl rfl rfl rfl ?_
    refine K_iload_n (pc := 11) (i := 7) rfl rfl ?_
    first | refine K_if_ge 20 (pc := 12) (i := 8) rfl rfl (by omega) (fun b12 => ?_) (fun b12 => ?_) | refine K_if_ge_an 20 (pc := 12) (i := 8) rfl rfl (fun b12 => ?_) (fun b12 => ?_)
    · skip
      refine K_iload_n (pc := 20) (i := 12) rfl rfl ?_
      refine K_ist_n (pc := 21) (i := 13) (lo' := [(0, _), (1, _), (2, _), (3, _)]) rfl rfl rfl rfl ?_
      have L22 : ∀ (n : Nat) (x2 : Int) (x3 : Int), x3.toNat < n → ((0 ≤ x2 ∧ kR x2) ∧ (0 ≤ x3 ∧ kR x3) ∧ (x2 ≠ 0 ∨ x3 ≠ 0)) → K X_Model_common G (kZm G 1 (kQi (fun z h' => h' = h ∧ kR z ∧ z ≠ 0))) 22 [(0, kI x0), (1, kI x1), (2, kI x2), (3, kI x3)] [] h := by
        intro n
        induction n with
        | zero => intro x2 x3 hm; exact absurd hm (Nat.not_lt_zero _)
        | succ n ih22 =>
          intro x2 x3 hm22 hV22
          refine K_iload_n (pc := 22) (i := 14) rfl rfl ?_
          first | refine K_if_eq 39 (pc := 23) (i := 15) rfl rfl (by omega) (fun b23 => ?_) (fun b23 => ?_) | refine K_if_eq_an 39 (pc := 23) (i := 15) rfl rfl (fun b23 => ?_) (fun b23 => ?_)
          · skip
            refine K_iload_n (pc := 39) (i := 25) rfl rfl ?_
            exact K_retI (pc := 40) (i := 26) rfl rfl ⟨rfl, by omega⟩
          · skip
            refine K_iload_n (pc := 26) (i := 16) rfl rfl ?_
            refine K_iload_n (pc := 27) (i := 17) rfl rfl ?_
            refine K_irem (pc := 28) (i := 18) rfl (by omega) (by omega) ?_
            refine K_eq (kRem_eq (by omega) (by omega) (by omega) (by omega)) ?_
            refine K_nm (fun v28 e28 => ?_)
            have t28 : 0 ≤ v28 ∧ v28 < x3 := by rw [e28]; exact ⟨Int.emod_nonneg _ (by omega), Int.emod_lt_of_pos _ (by omega)⟩
            refine K_ist (pc := 29) (i := 19) (lo' := [(0, _), (1, _), (2, _), (3, _), (4, _)]) rfl rfl rfl rfl ?_
            refine K_iload_n (pc := 31) (i := 20) rfl rfl ?_
            refine K_ist_n (pc := 32) (i := 21) (lo' := [(0, _), (1, _), (2, _), (3, _), (4, _)]) rfl rfl rfl rfl ?_
            refine K_iload (pc := 33) (i := 22) rfl rfl ?_
            refine K_ist_n (pc := 35) (i := 23) (lo' := [(0, _), (1, _), (2, _), (3, _), (4, _)]) rfl rfl rfl rfl ?_
            refine K_goto 22 (pc := 36) (i := 24) rfl rfl ?_
            refine K_drop (lo' := [(0, kI x0), (1, kI x1), (2, kI x3), (3, kI v28)]) [0, 1, 2, 3] rfl ?_
            exact ih22 x3 v28 (by omega) (by omega)
      exact L22 _ (-x0) x1 (Nat.lt_succ_self _) (by omega)
    · skip
      refine K_iload_n (pc := 15) (i := 9) rfl rfl ?_
      refine K_ineg (pc := 16) (i := 10) rfl ?_
      refine K_goto 21 (pc := 17) (i := 11) rfl rfl ?_
      refine K_ist_n (pc := 21) (i := 13) (lo' := [(0, _), (1, _), (2, _), (3, _)]) rfl rfl rfl rfl ?_
      have L22 : ∀ (n : Nat) (x2 : Int) (x3 : Int), x3.toNat < n → ((0 ≤ x2 ∧ kR x2) ∧ (0 ≤ x3 ∧ kR x3) ∧ (x2 ≠ 0 ∨ x3 ≠ 0)) → K X_Model_common G (kZm G 1 (kQi (fun z h' => h' = h ∧ kR z ∧ z ≠ 0))) 22 [(0, kI x0), (1, kI x1), (2, kI x2), (3, kI x3)] [] h := by
        intro n
        induction n with
        | zero => intro x2 x3 hm; exact absurd hm (Nat.not_lt_zero _)
        | succ n ih22 =>
          intro x2 x3 hm22 hV22
          refine K_iload_n (pc := 22) (i := 14) rfl rfl ?_
          first | refine K_if_eq 39 (pc := 23) (i := 15) rfl rfl (by omega) (fun b23 => ?_) (fun b23 => ?_) | refine K_if_eq_an 39 (pc := 23) (i := 15) rfl rfl (fun b23 => ?_) (fun b23 => ?_)
          · skip
            refine K_iload_n (pc := 39) (i := 25) rfl rfl ?_
            exact K_retI (pc := 40) (i := 26) rfl rfl ⟨rfl, by omega⟩
          · skip
            refine K_iload_n (pc := 26) (i := 16) rfl rfl ?_
            refine K_iload_n (pc := 27) (i := 17) rfl rfl ?_
            refine K_irem (pc := 28) (i := 18) rfl (by omega) (by omega) ?_
            refine K_eq (kRem_eq (by omega) (by omega) (by omega) (by omega)) ?_
            refine K_nm (fun v28 e28 => ?_)
            have t28 : 0 ≤ v28 ∧ v28 < x3 := by rw [e28]; exact ⟨Int.emod_nonneg _ (by omega), Int.emod_lt_of_pos _ (by omega)⟩
            refine K_ist (pc := 29) (i := 19) (lo' := [(0, _), (1, _), (2, _), (3, _), (4, _)]) rfl rfl rfl rfl ?_
            refine K_iload_n (pc := 31) (i := 20) rfl rfl ?_
            refine K_ist_n (pc := 32) (i := 21) (lo' := [(0, _), (1, _), (2, _), (3, _), (4, _)]) rfl rfl rfl rfl ?_
            refine K_iload (pc := 33) (i := 22) rfl rfl ?_
            refine K_ist_n (pc := 35) (i := 23) (lo' := [(0, _), (1, _), (2, _), (3, _), (4, _)]) rfl rfl rfl rfl ?_
            refine K_goto 22 (pc := 36) (i := 24) rfl rfl ?_
            refine K_drop (lo' := [(0, kI x0), (1, kI x1), (2, kI x3), (3, kI v28)]) [0, 1, 2, 3] rfl ?_
            exact ih22 x3 v28 (by omega) (by omega)
      exact L22 _ (-x0) (-x1) (Nat.lt_succ_self _) (by omega)
set_option maxHeartbeats 4000000 in
set_option maxRecDepth 100000 in
theorem c_Model_part (G : kG)  {h : kH} {x0 : Int} {x1 : Int} {x2 : Int} (s0 : -1000000000 ≤ x0 ∧ x0 ≤ 1000000000) (s1 : -1000000000 ≤ x1 ∧ x1 ≤ 1000000000) (hne : x0 ≠ 0 ∨ x1 ≠ 0) : Ctr G y_Model_part X_Model_part 2 [kI x0, kI x1, kI x2] h (kQi (fun z h' => h' = h ∧ kR z)) := by
  refine Ctr.ofK (by decide) rfl T_Model_part (Nat.le_of_ble_eq_true rfl) (lo := [(0, kI x0), (1, kI x1), (2, kI x2)]) rfl ?_
  refine K_iload_n (pc := 0) (i := 0) rfl rfl ?_
  refine K_iload_n (pc := 1) (i := 1) rfl rfl ?_
  refine K_cSI (pc := 2) (i := 2) rfl (c_Model_common G (x0 := x0) (x1 := x1) (s0 := by omega) (s1 := by omega) (hne := by omega)) (ls_Model_147 rfl) rfl rfl rfl rfl (fun v2 h2 q2 => ?_)
  obtain ⟨eh, r2⟩ := q2
  rw [eh]; clear eh
  refine K_ist_n (pc := 5) (i := 3) (lo' := [(0, _), (1, _), (2, _), (3, _)]) rfl rfl rfl rfl ?_
  refine K_iload_n (pc := 6) (i := 4) rfl rfl ?_
  first | refine K_if_ge 14 (pc := 7) (i := 5) rfl rfl (by omega) (fun b7 => ?_) (fun b7 => ?_) | refine K_if_ge_an 14 (pc := 7) (i := 5) rfl rfl (fun b7 => ?_) (fun b7 => ?_)
  · skip
    refine K_iconst (pc := 14) (i := 8) rfl ?_
    refine K_ist (pc := 15) (i := 9) (lo' := [(0, _), (1, _), (2, _), (3, _), (4, _)]) rfl rfl rfl rfl ?_
    refine K_iload_n (pc := 17) (i := 10) rfl rfl ?_
    first | refine K_if_eq 30 (pc := 18) (i := 11) rfl rfl (by omega) (fun b18 => ?_) (fun b18 => ?_) | refine K_if_eq_an 30 (pc := 18) (i := 11) rfl rfl (fun b18 => ?_) (fun b18 => ?_)
    · skip
      refine K_iload (pc := 30) (i := 18) rfl rfl ?_
      refine K_iload_n (pc := 32) (i := 19) rfl rfl ?_
      refine K_imul (pc := 33) (i := 20) rfl ?_
      refine K_iload_n (pc := 34) (i := 21) rfl rfl ?_
      refine K_idiv (pc := 35) (i := 22) rfl (by omega) (by omega) ?_
      refine K_any (fun v35 r35 => ?_)
      exact K_retI (pc := 36) (i := 23) rfl rfl ⟨rfl, by omega⟩
    · skip
      refine K_iload (pc := 21) (i := 12) rfl rfl ?_
      refine K_iload_n (pc := 23) (i := 13) rfl rfl ?_
      refine K_imul (pc := 24) (i := 14) rfl ?_
      refine K_iload_n (pc := 25) (i := 15) rfl rfl ?_
      refine K_idiv (pc := 26) (i := 16) rfl (by omega) (by omega) ?_
      refine K_any (fun v26 r26 => ?_)
      refine K_goto 36 (pc := 27) (i := 17) rfl rfl ?_
      exact K_retI (pc := 36) (i := 23) rfl rfl ⟨rfl, by omega⟩
  · skip
    refine K_iconst (pc := 10) (i := 6) rfl ?_
    refine K_goto 15 (pc := 11) (i := 7) rfl rfl ?_
    refine K_ist (pc := 15) (i := 9) (lo' := [(0, _), (1, _), (2, _), (3, _), (4, _)]) rfl rfl rfl rfl ?_
    refine K_iload_n (pc := 17) (i := 10) rfl rfl ?_
    first | refine K_if_eq 30 (pc := 18) (i := 11) rfl rfl (by omega) (fun b18 => ?_) (fun b18 => ?_) | refine K_if_eq_an 30 (pc := 18) (i := 11) rfl rfl (fun b18 => ?_) (fun b18 => ?_)
    · skip
      refine K_iload (pc := 30) (i := 18) rfl rfl ?_
      refine K_iload_n (pc := 32) (i := 19) rfl rfl ?_
      refine K_imul (pc := 33) (i := 20) rfl ?_
      refine K_iload_n (pc := 34) (i := 21) rfl rfl ?_
      refine K_idiv (pc := 35) (i := 22) rfl (by omega) (by omega) ?_
      refine K_any (fun v35 r35 => ?_)
      exact K_retI (pc := 36) (i := 23) rfl rfl ⟨rfl, by omega⟩
    · skip
      refine K_iload (pc := 21) (i := 12) rfl rfl ?_
      refine K_iload_n (pc := 23) (i := 13) rfl rfl ?_
      refine K_imul (pc := 24) (i := 14) rfl ?_
      refine K_iload_n (pc := 25) (i := 15) rfl rfl ?_
      refine K_idiv (pc := 26) (i := 16) rfl (by omega) (by omega) ?_
      refine K_any (fun v26 r26 => ?_)
      refine K_goto 36 (pc := 27) (i := 17) rfl rfl ?_
      exact K_retI (pc := 36) (i := 23) rfl rfl ⟨rfl, by omega⟩
set_option maxHeartbeats 4000000 in
set_option maxRecDepth 100000 in
theorem c_Model_highAboveX (G : kG) {g : kGh} {h : kH} {x1 : Int} {x2 : Int} (hk : FK (h 187) (h 184 4)) (s1 : 0 ≤ x1 ∧ x1 < h 184 4) (s2 : 0 ≤ x2 ∧ x2 < h 184 4) (hI : Gd g h) : Ctr G y_Model_highAbove X_Model_highAbove 1 [.ref (G.2.2.2 184), kI x1, kI x2] h (kQi (fun z h' => h' = h ∧ -3240 ≤ z ∧ z ≤ 3240)) := by
  refine Ctr.ofK (by decide) rfl T_Model_highAbove (Nat.le_of_ble_eq_true rfl) (lo := [(0, .ref (G.2.2.2 184)), (1, kI x1), (2, kI x2)]) rfl ?_
  have hm8 := rd_many hI
  refine K_aload_n (pc := 0) (i := 0) rfl rfl ?_
  refine K_getR (pc := 1) (i := 1) (j := 3) (d := 187) rfl S_184 rfl (by decide) rfl fw_Model_16 ?_
  refine K_iconst (pc := 4) (i := 2) rfl ?_
  refine K_iload_n (pc := 5) (i := 3) rfl rfl ?_
  refine K_imul (pc := 6) (i := 4) rfl ?_
  refine K_iconst (pc := 7) (i := 5) rfl ?_
  refine K_iadd (pc := 8) (i := 6) rfl ?_
  refine K_iald (pc := 9) (i := 7) rfl S_187 (by omega) (by omega) (by decide) ?_
  refine K_nm (fun v9 e9 => ?_)
  have r9 := rd_mkites hI ((5 * x2) + 1).toNat
  rw [← e9] at r9
  have w9 : h 187 (5 * x2.toNat + 1) = v9 := by rw [e9]; congr 1; omega
  have u9 := (hk x2.toNat (by omega)).1
  rw [w9] at u9
  refine K_aload_n (pc := 10) (i := 8) rfl rfl ?_
  refine K_getR (pc := 11) (i := 9) (j := 3) (d := 187) rfl S_184 rfl (by decide) rfl fw_Model_16 ?_
  refine K_iconst (pc := 14) (i := 10) rfl ?_
  refine K_iload_n (pc := 15) (i := 11) rfl rfl ?_
  refine K_imul (pc := 16) (i := 12) rfl ?_
  refine K_iconst (pc := 17) (i := 13) rfl ?_
  refine K_iadd (pc := 18) (i := 14) rfl ?_
  refine K_iald (pc := 19) (i := 15) rfl S_187 (by omega) (by omega) (by decide) ?_
  refine K_nm (fun v19 e19 => ?_)
  have r19 := rd_mkites hI ((5 * x1) + 1).toNat
  rw [← e19] at r19
  have w19 : h 187 (5 * x1.toNat + 1) = v19 := by rw [e19]; congr 1; omega
  have u19 := (hk x1.toNat (by omega)).1
  rw [w19] at u19
  refine K_isub (pc := 20) (i := 16) rfl ?_
  refine K_aload_n (pc := 21) (i := 17) rfl rfl ?_
  refine K_getR (pc := 22) (i := 18) (j := 3) (d := 187) rfl S_184 rfl (by decide) rfl fw_Model_16 ?_
  refine K_iconst (pc := 25) (i := 19) rfl ?_
  refine K_iload_n (pc := 26) (i := 20) rfl rfl ?_
  refine K_imul (pc := 27) (i := 21) rfl ?_
  refine K_iconst (pc := 28) (i := 22) rfl ?_
  refine K_iadd (pc := 29) (i := 23) rfl ?_
  refine K_iald (pc := 30) (i := 24) rfl S_187 (by omega) (by omega) (by decide) ?_
  refine K_nm (fun v30 e30 => ?_)
  have r30 := (rd_mkites hI ((5 * x1) + 3).toNat).2.1 (by omega)
  rw [← e30] at r30
  refine K_imul (pc := 31) (i := 25) rfl ?_
  refine K_nm (fun v31 e31 => ?_)
  have u31 := mul_bd (A := 40) (B := 9) (a := v9 - v19) (b := v30) (by omega) (by omega)
  rw [← e31] at u31
  refine K_aload_n (pc := 32) (i := 26) rfl rfl ?_
  refine K_getR (pc := 33) (i := 27) (j := 3) (d := 187) rfl S_184 rfl (by decide) rfl fw_Model_16 ?_
  refine K_iconst (pc := 36) (i := 28) rfl ?_
  refine K_iload_n (pc := 37) (i := 29) rfl rfl ?_
  refine K_imul (pc := 38) (i := 30) rfl ?_
  refine K_iconst (pc := 39) (i := 31) rfl ?_
  refine K_iadd (pc := 40) (i := 32) rfl ?_
  refine K_iald (pc := 41) (i := 33) rfl S_187 (by omega) (by omega) (by decide) ?_
  refine K_nm (fun v41 e41 => ?_)
  have r41 := (rd_mkites hI ((5 * x2) + 3).toNat).2.1 (by omega)
  rw [← e41] at r41
  refine K_imul (pc := 42) (i := 34) rfl ?_
  refine K_nm (fun v42 e42 => ?_)
  have u42 := mul_bd (A := 360) (B := 9) (a := v31) (b := v41) (by omega) (by omega)
  rw [← e42] at u42
  exact K_retI (pc := 43) (i := 35) rfl rfl ⟨rfl, by omega⟩
/-- how two lines drift -/
def Dr (h : kH) (i j : Nat) : Int := (h 187 (5 * i + 2) - h 187 (5 * i + 1)) * h 187 (5 * j + 3) - (h 187 (5 * j + 2) - h 187 (5 * j + 1)) * h 187 (5 * i + 3)
set_option maxHeartbeats 4000000 in
set_option maxRecDepth 100000 in
theorem c_Model_driftX (G : kG) {g : kGh} {h : kH} {x1 : Int} {x2 : Int} {x3 : Int} (hk : FK (h 187) (h 184 4)) (s1 : x1 = 0) (s2 : 0 ≤ x2 ∧ x2 < h 184 4) (s3 : 0 ≤ x3 ∧ x3 < h 184 4) (hI : Gd g h) : Ctr G y_Model_drift X_Model_drift 1 [.ref (G.2.2.2 184), kI x1, kI x2, kI x3] h (kQi (fun z h' => h' = h ∧ z = Dr h x2.toNat x3.toNat ∧ -720 ≤ z ∧ z ≤ 720)) := by
  refine Ctr.ofK (by decide) rfl T_Model_drift (Nat.le_of_ble_eq_true rfl) (lo := [(0, .ref (G.2.2.2 184)), (1, kI x1), (2, kI x2), (3, kI x3)]) rfl ?_
  have hm8 := rd_many hI
  refine K_iload_n (pc := 0) (i := 0) rfl rfl ?_
  refine K_iconst (pc := 1) (i := 1) rfl ?_
  refine K_iload_n (pc := 2) (i := 2) rfl rfl ?_
  refine K_imul (pc := 3) (i := 3) rfl ?_
  refine K_iadd (pc := 4) (i := 4) rfl ?_
  refine K_ist (pc := 5) (i := 5) (lo' := [(0, _), (1, _), (2, _), (3, _), (4, _)]) rfl rfl rfl rfl ?_
  refine K_iload_n (pc := 7) (i := 6) rfl rfl ?_
  refine K_iconst (pc := 8) (i := 7) rfl ?_
  refine K_iload_n (pc := 9) (i := 8) rfl rfl ?_
  refine K_imul (pc := 10) (i := 9) rfl ?_
  refine K_iadd (pc := 11) (i := 10) rfl ?_
  refine K_ist (pc := 12) (i := 11) (lo' := [(0, _), (1, _), (2, _), (3, _), (4, _), (5, _)]) rfl rfl rfl rfl ?_
  refine K_aload_n (pc := 14) (i := 12) rfl rfl ?_
  refine K_getR (pc := 15) (i := 13) (j := 3) (d := 187) rfl S_184 rfl (by decide) rfl fw_Model_16 ?_
  refine K_iload (pc := 18) (i := 14) rfl rfl ?_
  refine K_iconst (pc := 20) (i := 15) rfl ?_
  refine K_iadd (pc := 21) (i := 16) rfl ?_
  refine K_iald (pc := 22) (i := 17) rfl S_187 (by omega) (by omega) (by decide) ?_
  refine K_nm (fun v22 e22 => ?_)
  have r22 := rd_mkites hI ((x1 + (5 * x2)) + 2).toNat
  rw [← e22] at r22
  have w22 : h 187 (5 * x2.toNat + 2) = v22 := by rw [e22]; congr 1; omega
  have u22 := (hk x2.toNat (by omega)).2.1
  rw [w22] at u22
  refine K_aload_n (pc := 23) (i := 18) rfl rfl ?_
  refine K_getR (pc := 24) (i := 19) (j := 3) (d := 187) rfl S_184 rfl (by decide) rfl fw_Model_16 ?_
  refine K_iload (pc := 27) (i := 20) rfl rfl ?_
  refine K_iconst (pc := 29) (i := 21) rfl ?_
  refine K_iadd (pc := 30) (i := 22) rfl ?_
  refine K_iald (pc := 31) (i := 23) rfl S_187 (by omega) (by omega) (by decide) ?_
  refine K_nm (fun v31 e31 => ?_)
  have r31 := rd_mkites hI ((x1 + (5 * x2)) + 1).toNat
  rw [← e31] at r31
  have w31 : h 187 (5 * x2.toNat + 1) = v31 := by rw [e31]; congr 1; omega
  have u31 := (hk x2.toNat (by omega)).1
  rw [w31] at u31
  refine K_isub (pc := 32) (i := 24) rfl ?_
  refine K_aload_n (pc := 33) (i := 25) rfl rfl ?_
  refine K_getR (pc := 34) (i := 26) (j := 3) (d := 187) rfl S_184 rfl (by decide) rfl fw_Model_16 ?_
  refine K_iload (pc := 37) (i := 27) rfl rfl ?_
  refine K_iconst (pc := 39) (i := 28) rfl ?_
  refine K_iadd (pc := 40) (i := 29) rfl ?_
  refine K_iald (pc := 41) (i := 30) rfl S_187 (by omega) (by omega) (by decide) ?_
  refine K_nm (fun v41 e41 => ?_)
  have r41 := (rd_mkites hI ((x1 + (5 * x3)) + 3).toNat).2.1 (by omega)
  rw [← e41] at r41
  have w41 : h 187 (5 * x3.toNat + 3) = v41 := by rw [e41]; congr 1; omega
  have u41 := (hk x3.toNat (by omega)).2.2.1
  rw [w41] at u41
  refine K_imul (pc := 42) (i := 31) rfl ?_
  refine K_nm (fun v42 e42 => ?_)
  have u42 := mul_bd (A := 40) (B := 9) (a := v22 - v31) (b := v41) (by omega) (by omega)
  rw [← e42] at u42
  refine K_aload_n (pc := 43) (i := 32) rfl rfl ?_
  refine K_getR (pc := 44) (i := 33) (j := 3) (d := 187) rfl S_184 rfl (by decide) rfl fw_Model_16 ?_
  refine K_iload (pc := 47) (i := 34) rfl rfl ?_
  refine K_iconst (pc := 49) (i := 35) rfl ?_
  refine K_iadd (pc := 50) (i := 36) rfl ?_
  refine K_iald (pc := 51) (i := 37) rfl S_187 (by omega) (by omega) (by decide) ?_
  refine K_nm (fun v51 e51 => ?_)
  have r51 := rd_mkites hI ((x1 + (5 * x3)) + 2).toNat
  rw [← e51] at r51
  have w51 : h 187 (5 * x3.toNat + 2) = v51 := by rw [e51]; congr 1; omega
  have u51 := (hk x3.toNat (by omega)).2.1
  rw [w51] at u51
  refine K_aload_n (pc := 52) (i := 38) rfl rfl ?_
  refine K_getR (pc := 53) (i := 39) (j := 3) (d := 187) rfl S_184 rfl (by decide) rfl fw_Model_16 ?_
  refine K_iload (pc := 56) (i := 40) rfl rfl ?_
  refine K_iconst (pc := 58) (i := 41) rfl ?_
  refine K_iadd (pc := 59) (i := 42) rfl ?_
  refine K_iald (pc := 60) (i := 43) rfl S_187 (by omega) (by omega) (by decide) ?_
  refine K_nm (fun v60 e60 => ?_)
  have r60 := rd_mkites hI ((x1 + (5 * x3)) + 1).toNat
  rw [← e60] at r60
  have w60 : h 187 (5 * x3.toNat + 1) = v60 := by rw [e60]; congr 1; omega
  have u60 := (hk x3.toNat (by omega)).1
  rw [w60] at u60
  refine K_isub (pc := 61) (i := 44) rfl ?_
  refine K_aload_n (pc := 62) (i := 45) rfl rfl ?_
  refine K_getR (pc := 63) (i := 46) (j := 3) (d := 187) rfl S_184 rfl (by decide) rfl fw_Model_16 ?_
  refine K_iload (pc := 66) (i := 47) rfl rfl ?_
  refine K_iconst (pc := 68) (i := 48) rfl ?_
  refine K_iadd (pc := 69) (i := 49) rfl ?_
  refine K_iald (pc := 70) (i := 50) rfl S_187 (by omega) (by omega) (by decide) ?_
  refine K_nm (fun v70 e70 => ?_)
  have r70 := (rd_mkites hI ((x1 + (5 * x2)) + 3).toNat).2.1 (by omega)
  rw [← e70] at r70
  have w70 : h 187 (5 * x2.toNat + 3) = v70 := by rw [e70]; congr 1; omega
  have u70 := (hk x2.toNat (by omega)).2.2.1
  rw [w70] at u70
  refine K_imul (pc := 71) (i := 51) rfl ?_
  refine K_nm (fun v71 e71 => ?_)
  have u71 := mul_bd (A := 40) (B := 9) (a := v51 - v60) (b := v70) (by omega) (by omega)
  rw [← e71] at u71
  refine K_isub (pc := 72) (i := 52) rfl ?_
  exact K_retI (pc := 73) (i := 53) rfl rfl ⟨rfl, by unfold Dr; rw [w22, w31, w41, w51, w60, w70, e42, e71], by omega⟩
set_option maxHeartbeats 4000000 in
set_option maxRecDepth 100000 in
theorem c_Model_doCrossX (G : kG) {g : kGh} {h : kH} {x1 : Int} {x2 : Int} {x3 : Int} (hk : FK (h 187) (h 184 4)) (s1 : x1 = 0) (s2 : 0 ≤ x2 ∧ x2 < h 184 4) (s3 : 0 ≤ x3 ∧ x3 < h 184 4) (hne : x2 ≠ x3) (hI : Gd g h) : Ctr G y_Model_doCross X_Model_doCross 2 [.ref (G.2.2.2 184), kI x1, kI x2, kI x3] h (kQi (fun z h' => h' = h ∧ (z = 0 ∨ (z = 1 ∧ Dr h x2.toNat x3.toNat ≠ 0)))) := by
  refine Ctr.ofK (by decide) rfl T_Model_doCross (Nat.le_of_ble_eq_true rfl) (lo := [(0, .ref (G.2.2.2 184)), (1, kI x1), (2, kI x2), (3, kI x3)]) rfl ?_
  have hm8 := rd_many hI
  refine K_iload_n (pc := 0) (i := 0) rfl rfl ?_
  refine K_iconst (pc := 1) (i := 1) rfl ?_
  refine K_iload_n (pc := 2) (i := 2) rfl rfl ?_
  refine K_imul (pc := 3) (i := 3) rfl ?_
  refine K_iadd (pc := 4) (i := 4) rfl ?_
  refine K_ist (pc := 5) (i := 5) (lo' := [(0, _), (1, _), (2, _), (3, _), (4, _)]) rfl rfl rfl rfl ?_
  refine K_iload_n (pc := 7) (i := 6) rfl rfl ?_
  refine K_iconst (pc := 8) (i := 7) rfl ?_
  refine K_iload_n (pc := 9) (i := 8) rfl rfl ?_
  refine K_imul (pc := 10) (i := 9) rfl ?_
  refine K_iadd (pc := 11) (i := 10) rfl ?_
  refine K_ist (pc := 12) (i := 11) (lo' := [(0, _), (1, _), (2, _), (3, _), (4, _), (5, _)]) rfl rfl rfl rfl ?_
  refine K_aload_n (pc := 14) (i := 12) rfl rfl ?_
  refine K_getR (pc := 15) (i := 13) (j := 3) (d := 187) rfl S_184 rfl (by decide) rfl fw_Model_16 ?_
  refine K_iload (pc := 18) (i := 14) rfl rfl ?_
  refine K_iconst (pc := 20) (i := 15) rfl ?_
  refine K_iadd (pc := 21) (i := 16) rfl ?_
  refine K_iald (pc := 22) (i := 17) rfl S_187 (by omega) (by omega) (by decide) ?_
  refine K_nm (fun v22 e22 => ?_)
  have r22 := rd_mkites hI ((x1 + (5 * x2)) + 1).toNat
  rw [← e22] at r22
  have w22 : h 187 (5 * x2.toNat + 1) = v22 := by rw [e22]; congr 1; omega
  have u22 := (hk x2.toNat (by omega)).1
  rw [w22] at u22
  refine K_aload_n (pc := 23) (i := 18) rfl rfl ?_
  refine K_getR (pc := 24) (i := 19) (j := 3) (d := 187) rfl S_184 rfl (by decide) rfl fw_Model_16 ?_
  refine K_iload (pc := 27) (i := 20) rfl rfl ?_
  refine K_iconst (pc := 29) (i := 21) rfl ?_
  refine K_iadd (pc := 30) (i := 22) rfl ?_
  refine K_iald (pc := 31) (i := 23) rfl S_187 (by omega) (by omega) (by decide) ?_
  refine K_nm (fun v31 e31 => ?_)
  have r31 := rd_mkites hI ((x1 + (5 * x3)) + 1).toNat
  rw [← e31] at r31
  have w31 : h 187 (5 * x3.toNat + 1) = v31 := by rw [e31]; congr 1; omega
  have u31 := (hk x3.toNat (by omega)).1
  rw [w31] at u31
  have d31 : v22 ≠ v31 := by rw [← w22, ← w31]; exact (hk x2.toNat (by omega)).2.2.2 x3.toNat (by omega) (by omega)
  refine K_isub (pc := 32) (i := 24) rfl ?_
  refine K_ist (pc := 33) (i := 25) (lo' := [(0, _), (1, _), (2, _), (3, _), (4, _), (5, _), (6, _)]) rfl rfl rfl rfl ?_
  refine K_aload_n (pc := 35) (i := 26) rfl rfl ?_
  refine K_getR (pc := 36) (i := 27) (j := 3) (d := 187) rfl S_184 rfl (by decide) rfl fw_Model_16 ?_
  refine K_iload (pc := 39) (i := 28) rfl rfl ?_
  refine K_iconst (pc := 41) (i := 29) rfl ?_
  refine K_iadd (pc := 42) (i := 30) rfl ?_
  refine K_iald (pc := 43) (i := 31) rfl S_187 (by omega) (by omega) (by decide) ?_
  refine K_nm (fun v43 e43 => ?_)
  have r43 := (rd_mkites hI ((x1 + (5 * x2)) + 3).toNat).2.1 (by omega)
  rw [← e43] at r43
  refine K_aload_n (pc := 44) (i := 32) rfl rfl ?_
  refine K_getR (pc := 45) (i := 33) (j := 3) (d := 187) rfl S_184 rfl (by decide) rfl fw_Model_16 ?_
  refine K_iload (pc := 48) (i := 34) rfl rfl ?_
  refine K_iconst (pc := 50) (i := 35) rfl ?_
  refine K_iadd (pc := 51) (i := 36) rfl ?_
  refine K_iald (pc := 52) (i := 37) rfl S_187 (by omega) (by omega) (by decide) ?_
  refine K_nm (fun v52 e52 => ?_)
  have r52 := (rd_mkites hI ((x1 + (5 * x3)) + 3).toNat).2.1 (by omega)
  rw [← e52] at r52
  first | refine K_icmp_ge 68 (pc := 53) (i := 38) rfl rfl (by omega) (by omega) (fun b53 => ?_) (fun b53 => ?_) | refine K_icmp_ge_an 68 (pc := 53) (i := 38) rfl rfl (fun b53 => ?_) (fun b53 => ?_)
  · skip
    refine K_aload_n (pc := 68) (i := 46) rfl rfl ?_
    refine K_getR (pc := 69) (i := 47) (j := 3) (d := 187) rfl S_184 rfl (by decide) rfl fw_Model_16 ?_
    refine K_iload (pc := 72) (i := 48) rfl rfl ?_
    refine K_iconst (pc := 74) (i := 49) rfl ?_
    refine K_iadd (pc := 75) (i := 50) rfl ?_
    refine K_iald (pc := 76) (i := 51) rfl S_187 (by omega) (by omega) (by decide) ?_
    refine K_nm (fun v76 e76 => ?_)
    have r76 := (rd_mkites hI ((x1 + (5 * x3)) + 3).toNat).2.1 (by omega)
    rw [← e76] at r76
    have w76 : h 187 (5 * x3.toNat + 3) = v76 := by rw [e76]; congr 1; omega
    have u76 := (hk x3.toNat (by omega)).2.2.1
    rw [w76] at u76
    refine K_ist (pc := 77) (i := 52) (lo' := [(0, _), (1, _), (2, _), (3, _), (4, _), (5, _), (6, _), (7, _)]) rfl rfl rfl rfl ?_
    refine K_iload (pc := 79) (i := 53) rfl rfl ?_
    refine K_aload_n (pc := 81) (i := 54) rfl rfl ?_
    refine K_getR (pc := 82) (i := 55) (j := 3) (d := 187) rfl S_184 rfl (by decide) rfl fw_Model_16 ?_
    refine K_iload (pc := 85) (i := 56) rfl rfl ?_
    refine K_iconst (pc := 87) (i := 57) rfl ?_
    refine K_iadd (pc := 88) (i := 58) rfl ?_
    refine K_iald (pc := 89) (i := 59) rfl S_187 (by omega) (by omega) (by decide) ?_
    refine K_nm (fun v89 e89 => ?_)
    have r89 := (rd_mkites hI ((x1 + (5 * x2)) + 3).toNat).2.1 (by omega)
    rw [← e89] at r89
    have w89 : h 187 (5 * x2.toNat + 3) = v89 := by rw [e89]; congr 1; omega
    have u89 := (hk x2.toNat (by omega)).2.2.1
    rw [w89] at u89
    refine K_imul (pc := 90) (i := 60) rfl ?_
    refine K_nm (fun v90 e90 => ?_)
    have u90 := mul_bd (A := 40) (B := 9) (a := v22 - v31) (b := v89) (by omega) (by omega)
    rw [← e90] at u90
    have p90 : 0 < v22 - v31 → 0 < v90 := fun q => by rw [e90]; exact Int.mul_pos q (by omega)
    have n90 : v22 - v31 < 0 → v90 < 0 := fun q => by rw [e90]; exact Int.mul_neg_of_neg_of_pos q (by omega)
    refine K_aload_n (pc := 91) (i := 61) rfl rfl ?_
    refine K_getR (pc := 92) (i := 62) (j := 3) (d := 187) rfl S_184 rfl (by decide) rfl fw_Model_16 ?_
    refine K_iload (pc := 95) (i := 63) rfl rfl ?_
    refine K_iconst (pc := 97) (i := 64) rfl ?_
    refine K_iadd (pc := 98) (i := 65) rfl ?_
    refine K_iald (pc := 99) (i := 66) rfl S_187 (by omega) (by omega) (by decide) ?_
    refine K_nm (fun v99 e99 => ?_)
    have r99 := (rd_mkites hI ((x1 + (5 * x3)) + 3).toNat).2.1 (by omega)
    rw [← e99] at r99
    have w99 : h 187 (5 * x3.toNat + 3) = v99 := by rw [e99]; congr 1; omega
    have u99 := (hk x3.toNat (by omega)).2.2.1
    rw [w99] at u99
    refine K_imul (pc := 100) (i := 67) rfl ?_
    refine K_nm (fun v100 e100 => ?_)
    have u100 := mul_bd (A := 360) (B := 9) (a := v90) (b := v99) (by omega) (by omega)
    rw [← e100] at u100
    have p100 : 0 < v90 → 0 < v100 := fun q => by rw [e100]; exact Int.mul_pos q (by omega)
    have n100 : v90 < 0 → v100 < 0 := fun q => by rw [e100]; exact Int.mul_neg_of_neg_of_pos q (by omega)
    refine K_aload_n (pc := 101) (i := 68) rfl rfl ?_
    refine K_iload_n (pc := 102) (i := 69) rfl rfl ?_
    refine K_iload_n (pc := 103) (i := 70) rfl rfl ?_
    refine K_iload_n (pc := 104) (i := 71) rfl rfl ?_
    refine K_cVI (pc := 105) (i := 72) rfl (c_Model_driftX G (x1 := x1) (x2 := x2) (x3 := x3) (hk := hk) (hI := hI) (s1 := by omega) (s2 := by omega) (s3 := by omega)) S_184 rfl (lv_Model_133 rfl) rfl rfl rfl rfl rfl (fun v105 h105 q105 => ?_)
    obtain ⟨eh, r105⟩ := q105
    rw [eh]; clear eh
    refine K_iload (pc := 108) (i := 73) rfl rfl ?_
    refine K_imul (pc := 110) (i := 74) rfl ?_
    refine K_nm (fun v110 e110 => ?_)
    have u110 := mul_bd (A := 720) (B := 9) (a := v105) (b := v76) (by omega) (by omega)
    rw [← e110] at u110
    have z110 : v105 = 0 → v110 = 0 := fun q => by rw [e110, q, Int.zero_mul]
    refine K_iadd (pc := 111) (i := 75) rfl ?_
    refine K_ist (pc := 112) (i := 76) (lo' := [(0, _), (1, _), (2, _), (3, _), (4, _), (5, _), (6, _), (7, _), (8, _)]) rfl rfl rfl rfl ?_
    refine K_iload (pc := 114) (i := 77) rfl rfl ?_
    first | refine K_if_le 132 (pc := 116) (i := 78) rfl rfl (by omega) (fun b116 => ?_) (fun b116 => ?_) | refine K_if_le_an 132 (pc := 116) (i := 78) rfl rfl (fun b116 => ?_) (fun b116 => ?_)
    · skip
      refine K_iload (pc := 132) (i := 85) rfl rfl ?_
      first | refine K_if_lt 141 (pc := 134) (i := 86) rfl rfl (by omega) (fun b134 => ?_) (fun b134 => ?_) | refine K_if_lt_an 141 (pc := 134) (i := 86) rfl rfl (fun b134 => ?_) (fun b134 => ?_)
      · skip
        refine K_iconst (pc := 141) (i := 89) rfl ?_
        exact K_retZ (pc := 142) (i := 90) rfl rfl (by omega) ⟨rfl, by first | exact Or.inl rfl | exact Or.inr ⟨rfl, by rw [← r105.1]; omega⟩⟩
      · skip
        refine K_iconst (pc := 137) (i := 87) rfl ?_
        refine K_goto 142 (pc := 138) (i := 88) rfl rfl ?_
        exact K_retZ (pc := 142) (i := 90) rfl rfl (by omega) ⟨rfl, by first | exact Or.inl rfl | exact Or.inr ⟨rfl, by rw [← r105.1]; omega⟩⟩
    · skip
      refine K_iload (pc := 119) (i := 79) rfl rfl ?_
      first | refine K_if_gt 128 (pc := 121) (i := 80) rfl rfl (by omega) (fun b121 => ?_) (fun b121 => ?_) | refine K_if_gt_an 128 (pc := 121) (i := 80) rfl rfl (fun b121 => ?_) (fun b121 => ?_)
      · skip
        refine K_iconst (pc := 128) (i := 83) rfl ?_
        refine K_goto 142 (pc := 129) (i := 84) rfl rfl ?_
        exact K_retZ (pc := 142) (i := 90) rfl rfl (by omega) ⟨rfl, by first | exact Or.inl rfl | exact Or.inr ⟨rfl, by rw [← r105.1]; omega⟩⟩
      · skip
        refine K_iconst (pc := 124) (i := 81) rfl ?_
        refine K_goto 142 (pc := 125) (i := 82) rfl rfl ?_
        exact K_retZ (pc := 142) (i := 90) rfl rfl (by omega) ⟨rfl, by first | exact Or.inl rfl | exact Or.inr ⟨rfl, by rw [← r105.1]; omega⟩⟩
  · skip
    refine K_aload_n (pc := 56) (i := 39) rfl rfl ?_
    refine K_getR (pc := 57) (i := 40) (j := 3) (d := 187) rfl S_184 rfl (by decide) rfl fw_Model_16 ?_
    refine K_iload (pc := 60) (i := 41) rfl rfl ?_
    refine K_iconst (pc := 62) (i := 42) rfl ?_
    refine K_iadd (pc := 63) (i := 43) rfl ?_
    refine K_iald (pc := 64) (i := 44) rfl S_187 (by omega) (by omega) (by decide) ?_
    refine K_nm (fun v64 e64 => ?_)
    have r64 := (rd_mkites hI ((x1 + (5 * x2)) + 3).toNat).2.1 (by omega)
    rw [← e64] at r64
    have w64 : h 187 (5 * x2.toNat + 3) = v64 := by rw [e64]; congr 1; omega
    have u64 := (hk x2.toNat (by omega)).2.2.1
    rw [w64] at u64
    refine K_goto 77 (pc := 65) (i := 45) rfl rfl ?_
    refine K_ist (pc := 77) (i := 52) (lo' := [(0, _), (1, _), (2, _), (3, _), (4, _), (5, _), (6, _), (7, _)]) rfl rfl rfl rfl ?_
    refine K_iload (pc := 79) (i := 53) rfl rfl ?_
    refine K_aload_n (pc := 81) (i := 54) rfl rfl ?_
    refine K_getR (pc := 82) (i := 55) (j := 3) (d := 187) rfl S_184 rfl (by decide) rfl fw_Model_16 ?_
    refine K_iload (pc := 85) (i := 56) rfl rfl ?_
    refine K_iconst (pc := 87) (i := 57) rfl ?_
    refine K_iadd (pc := 88) (i := 58) rfl ?_
    refine K_iald (pc := 89) (i := 59) rfl S_187 (by omega) (by omega) (by decide) ?_
    refine K_nm (fun v89 e89 => ?_)
    have r89 := (rd_mkites hI ((x1 + (5 * x2)) + 3).toNat).2.1 (by omega)
    rw [← e89] at r89
    have w89 : h 187 (5 * x2.toNat + 3) = v89 := by rw [e89]; congr 1; omega
    have u89 := (hk x2.toNat (by omega)).2.2.1
    rw [w89] at u89
    refine K_imul (pc := 90) (i := 60) rfl ?_
    refine K_nm (fun v90 e90 => ?_)
    have u90 := mul_bd (A := 40) (B := 9) (a := v22 - v31) (b := v89) (by omega) (by omega)
    rw [← e90] at u90
    have p90 : 0 < v22 - v31 → 0 < v90 := fun q => by rw [e90]; exact Int.mul_pos q (by omega)
    have n90 : v22 - v31 < 0 → v90 < 0 := fun q => by rw [e90]; exact Int.mul_neg_of_neg_of_pos q (by omega)
    refine K_aload_n (pc := 91) (i := 61) rfl rfl ?_
    refine K_getR (pc := 92) (i := 62) (j := 3) (d := 187) rfl S_184 rfl (by decide) rfl fw_Model_16 ?_
    refine K_iload (pc := 95) (i := 63) rfl rfl ?_
    refine K_iconst (pc := 97) (i := 64) rfl ?_
    refine K_iadd (pc := 98) (i := 65) rfl ?_
    refine K_iald (pc := 99) (i := 66) rfl S_187 (by omega) (by omega) (by decide) ?_
    refine K_nm (fun v99 e99 => ?_)
    have r99 := (rd_mkites hI ((x1 + (5 * x3)) + 3).toNat).2.1 (by omega)
    rw [← e99] at r99
    have w99 : h 187 (5 * x3.toNat + 3) = v99 := by rw [e99]; congr 1; omega
    have u99 := (hk x3.toNat (by omega)).2.2.1
    rw [w99] at u99
    refine K_imul (pc := 100) (i := 67) rfl ?_
    refine K_nm (fun v100 e100 => ?_)
    have u100 := mul_bd (A := 360) (B := 9) (a := v90) (b := v99) (by omega) (by omega)
    rw [← e100] at u100
    have p100 : 0 < v90 → 0 < v100 := fun q => by rw [e100]; exact Int.mul_pos q (by omega)
    have n100 : v90 < 0 → v100 < 0 := fun q => by rw [e100]; exact Int.mul_neg_of_neg_of_pos q (by omega)
    refine K_aload_n (pc := 101) (i := 68) rfl rfl ?_
    refine K_iload_n (pc := 102) (i := 69) rfl rfl ?_
    refine K_iload_n (pc := 103) (i := 70) rfl rfl ?_
    refine K_iload_n (pc := 104) (i := 71) rfl rfl ?_
    refine K_cVI (pc := 105) (i := 72) rfl (c_Model_driftX G (x1 := x1) (x2 := x2) (x3 := x3) (hk := hk) (hI := hI) (s1 := by omega) (s2 := by omega) (s3 := by omega)) S_184 rfl (lv_Model_133 rfl) rfl rfl rfl rfl rfl (fun v105 h105 q105 => ?_)
    obtain ⟨eh, r105⟩ := q105
    rw [eh]; clear eh
    refine K_iload (pc := 108) (i := 73) rfl rfl ?_
    refine K_imul (pc := 110) (i := 74) rfl ?_
    refine K_nm (fun v110 e110 => ?_)
    have u110 := mul_bd (A := 720) (B := 9) (a := v105) (b := v64) (by omega) (by omega)
    rw [← e110] at u110
    have z110 : v105 = 0 → v110 = 0 := fun q => by rw [e110, q, Int.zero_mul]
    refine K_iadd (pc := 111) (i := 75) rfl ?_
    refine K_ist (pc := 112) (i := 76) (lo' := [(0, _), (1, _), (2, _), (3, _), (4, _), (5, _), (6, _), (7, _), (8, _)]) rfl rfl rfl rfl ?_
    refine K_iload (pc := 114) (i := 77) rfl rfl ?_
    first | refine K_if_le 132 (pc := 116) (i := 78) rfl rfl (by omega) (fun b116 => ?_) (fun b116 => ?_) | refine K_if_le_an 132 (pc := 116) (i := 78) rfl rfl (fun b116 => ?_) (fun b116 => ?_)
    · skip
      refine K_iload (pc := 132) (i := 85) rfl rfl ?_
      first | refine K_if_lt 141 (pc := 134) (i := 86) rfl rfl (by omega) (fun b134 => ?_) (fun b134 => ?_) | refine K_if_lt_an 141 (pc := 134) (i := 86) rfl rfl (fun b134 => ?_) (fun b134 => ?_)
      · skip
        refine K_iconst (pc := 141) (i := 89) rfl ?_
        exact K_retZ (pc := 142) (i := 90) rfl rfl (by omega) ⟨rfl, by first | exact Or.inl rfl | exact Or.inr ⟨rfl, by rw [← r105.1]; omega⟩⟩
      · skip
        refine K_iconst (pc := 137) (i := 87) rfl ?_
        refine K_goto 142 (pc := 138) (i := 88) rfl rfl ?_
        exact K_retZ (pc := 142) (i := 90) rfl rfl (by omega) ⟨rfl, by first | exact Or.inl rfl | exact Or.inr ⟨rfl, by rw [← r105.1]; omega⟩⟩
    · skip
      refine K_iload (pc := 119) (i := 79) rfl rfl ?_
      first | refine K_if_gt 128 (pc := 121) (i := 80) rfl rfl (by omega) (fun b121 => ?_) (fun b121 => ?_) | refine K_if_gt_an 128 (pc := 121) (i := 80) rfl rfl (fun b121 => ?_) (fun b121 => ?_)
      · skip
        refine K_iconst (pc := 128) (i := 83) rfl ?_
        refine K_goto 142 (pc := 129) (i := 84) rfl rfl ?_
        exact K_retZ (pc := 142) (i := 90) rfl rfl (by omega) ⟨rfl, by first | exact Or.inl rfl | exact Or.inr ⟨rfl, by rw [← r105.1]; omega⟩⟩
      · skip
        refine K_iconst (pc := 124) (i := 81) rfl ?_
        refine K_goto 142 (pc := 125) (i := 82) rfl rfl ?_
        exact K_retZ (pc := 142) (i := 90) rfl rfl (by omega) ⟨rfl, by first | exact Or.inl rfl | exact Or.inr ⟨rfl, by rw [← r105.1]; omega⟩⟩
set_option maxHeartbeats 4000000 in
set_option maxRecDepth 100000 in
theorem c_Model_where (G : kG) {g : kGh} {h : kH}  (hT : g.2.2.2.2){x1 : Int} {x2 : Int} {x3 : Int} {x4 : Int} (s1 : kR x1) (s2 : kR x2) (s3 : kR x3) (s4 : kR x4) (hI : Gd g h) : Ctr G y_Model_where X_Model_where 13 [.ref (G.2.2.2 184), kI x1, kI x2, kI x3, kI x4] h (kQi (fun z h' => Fx (fun c i => False) h h' ∧ (Gd g h' ∧ True))) := by
  refine Ctr.ofK (by decide) rfl T_Model_where (Nat.le_of_ble_eq_true rfl) (lo := [(0, .ref (G.2.2.2 184)), (1, kI x1), (2, kI x2), (3, kI x3), (4, kI x4)]) rfl ?_
  have fx : Fx (fun c i => False) h h := Fx.rf
  have hk := (hI.2.2.2.2.2 hT).1
  have hm8 := rd_many hI
  refine K_aload_n (pc := 0) (i := 0) rfl rfl ?_
  refine K_iload_n (pc := 1) (i := 1) rfl rfl ?_
  refine K_cVI (pc := 2) (i := 2) rfl (c_Model_isKite G (x1 := x1) (hI := hI) (s1 := by omega)) S_184 rfl (lv_Model_102 rfl) rfl rfl rfl rfl rfl (fun v2 h2 q2 => ?_)
  obtain ⟨eh, r2⟩ := q2
  rw [eh]; clear eh
  first | refine K_if_eq 16 (pc := 5) (i := 3) rfl rfl (by omega) (fun b5 => ?_) (fun b5 => ?_) | refine K_if_eq_an 16 (pc := 5) (i := 3) rfl rfl (fun b5 => ?_) (fun b5 => ?_)
  · skip
    refine K_iconst (pc := 16) (i := 8) rfl ?_
    exact K_retI (pc := 17) (i := 9) rfl rfl ⟨fx, ⟨hI, trivial⟩⟩
  · skip
    refine K_aload_n (pc := 8) (i := 4) rfl rfl ?_
    refine K_iload_n (pc := 9) (i := 5) rfl rfl ?_
    refine K_cVI (pc := 10) (i := 6) rfl (c_Model_isKite G (x1 := x2) (hI := hI) (s1 := by omega)) S_184 rfl (lv_Model_102 rfl) rfl rfl rfl rfl rfl (fun v10 h10 q10 => ?_)
    obtain ⟨eh, r10⟩ := q10
    rw [eh]; clear eh
    first | refine K_if_ne 18 (pc := 13) (i := 7) rfl rfl (by omega) (fun b13 => ?_) (fun b13 => ?_) | refine K_if_ne_an 18 (pc := 13) (i := 7) rfl rfl (fun b13 => ?_) (fun b13 => ?_)
    · skip
      refine K_iload_n (pc := 18) (i := 10) rfl rfl ?_
      refine K_iload_n (pc := 19) (i := 11) rfl rfl ?_
      first | refine K_icmp_ne 26 (pc := 20) (i := 12) rfl rfl (by omega) (by omega) (fun b20 => ?_) (fun b20 => ?_) | refine K_icmp_ne_an 26 (pc := 20) (i := 12) rfl rfl (fun b20 => ?_) (fun b20 => ?_)
      · skip
        refine K_aload_n (pc := 26) (i := 15) rfl rfl ?_
        refine K_iconst (pc := 27) (i := 16) rfl ?_
        refine K_iload_n (pc := 28) (i := 17) rfl rfl ?_
        refine K_iload_n (pc := 29) (i := 18) rfl rfl ?_
        refine K_cVI (pc := 30) (i := 19) rfl (c_Model_doCrossX G (x1 := 0) (x2 := x1) (x3 := x2) (hk := hk) (hI := hI) (s1 := by omega) (s2 := by omega) (s3 := by omega) (hne := by omega)) S_184 rfl (lv_Model_137 rfl) rfl rfl rfl rfl rfl (fun v30 h30 q30 => ?_)
        obtain ⟨eh, r30⟩ := q30
        rw [eh]; clear eh
        first | refine K_if_ne 39 (pc := 33) (i := 20) rfl rfl (by omega) (fun b33 => ?_) (fun b33 => ?_) | refine K_if_ne_an 39 (pc := 33) (i := 20) rfl rfl (fun b33 => ?_) (fun b33 => ?_)
        · skip
          refine K_aload_n (pc := 39) (i := 23) rfl rfl ?_
          refine K_iconst (pc := 40) (i := 24) rfl ?_
          refine K_iload_n (pc := 41) (i := 25) rfl rfl ?_
          refine K_iload_n (pc := 42) (i := 26) rfl rfl ?_
          refine K_cVI (pc := 43) (i := 27) rfl (c_Model_driftX G (x1 := 0) (x2 := x1) (x3 := x2) (hk := hk) (hI := hI) (s1 := by omega) (s2 := by omega) (s3 := by omega)) S_184 rfl (lv_Model_133 rfl) rfl rfl rfl rfl rfl (fun v43 h43 q43 => ?_)
          obtain ⟨eh, r43⟩ := q43
          rw [eh]; clear eh
          have n43 : v43 ≠ 0 := by rw [r43.1]; exact (r30.resolve_left (by omega)).2
          refine K_ist (pc := 46) (i := 28) (lo' := [(0, _), (1, _), (2, _), (3, _), (4, _), (5, _)]) rfl rfl rfl rfl ?_
          refine K_iload_n (pc := 48) (i := 29) rfl rfl ?_
          first | refine K_if_eq 66 (pc := 49) (i := 30) rfl rfl (by omega) (fun b49 => ?_) (fun b49 => ?_) | refine K_if_eq_an 66 (pc := 49) (i := 30) rfl rfl (fun b49 => ?_) (fun b49 => ?_)
          · skip
            refine K_aload_n (pc := 66) (i := 39) rfl rfl ?_
            refine K_getR (pc := 67) (i := 40) (j := 3) (d := 187) rfl S_184 rfl (by decide) rfl fw_Model_16 ?_
            refine K_iconst (pc := 70) (i := 41) rfl ?_
            refine K_iload_n (pc := 71) (i := 42) rfl rfl ?_
            refine K_imul (pc := 72) (i := 43) rfl ?_
            refine K_iconst (pc := 73) (i := 44) rfl ?_
            refine K_iadd (pc := 74) (i := 45) rfl ?_
            refine K_iald (pc := 75) (i := 46) rfl S_187 (by omega) (by omega) (by decide) ?_
            refine K_nm (fun v75 e75 => ?_)
            have r75 := rd_mkites hI ((5 * x1) + 1).toNat
            rw [← e75] at r75
            have w75 : h 187 (5 * x1.toNat + 1) = v75 := by rw [e75]; congr 1; omega
            have u75 := (hk x1.toNat (by omega)).1
            rw [w75] at u75
            refine K_ist (pc := 76) (i := 47) (lo' := [(0, _), (1, _), (2, _), (3, _), (4, _), (5, _), (6, _)]) rfl rfl rfl rfl ?_
            refine K_iload (pc := 78) (i := 48) rfl rfl ?_
            refine K_iload (pc := 80) (i := 49) rfl rfl ?_
            refine K_imul (pc := 82) (i := 50) rfl ?_
            refine K_nm (fun v82 e82 => ?_)
            have u82 := mul_bd (A := 40) (B := 720) (a := v75) (b := v43) (by omega) (by omega)
            rw [← e82] at u82
            refine K_aload_n (pc := 83) (i := 51) rfl rfl ?_
            refine K_getR (pc := 84) (i := 52) (j := 3) (d := 187) rfl S_184 rfl (by decide) rfl fw_Model_16 ?_
            refine K_iconst (pc := 87) (i := 53) rfl ?_
            refine K_iload_n (pc := 88) (i := 54) rfl rfl ?_
            refine K_imul (pc := 89) (i := 55) rfl ?_
            refine K_iconst (pc := 90) (i := 56) rfl ?_
            refine K_iadd (pc := 91) (i := 57) rfl ?_
            refine K_iald (pc := 92) (i := 58) rfl S_187 (by omega) (by omega) (by decide) ?_
            refine K_nm (fun v92 e92 => ?_)
            have r92 := rd_mkites hI ((5 * x1) + 2).toNat
            rw [← e92] at r92
            have w92 : h 187 (5 * x1.toNat + 2) = v92 := by rw [e92]; congr 1; omega
            have u92 := (hk x1.toNat (by omega)).2.1
            rw [w92] at u92
            refine K_iload (pc := 93) (i := 59) rfl rfl ?_
            refine K_isub (pc := 95) (i := 60) rfl ?_
            refine K_aload_n (pc := 96) (i := 61) rfl rfl ?_
            refine K_getR (pc := 97) (i := 62) (j := 3) (d := 187) rfl S_184 rfl (by decide) rfl fw_Model_16 ?_
            refine K_iconst (pc := 100) (i := 63) rfl ?_
            refine K_iload_n (pc := 101) (i := 64) rfl rfl ?_
            refine K_imul (pc := 102) (i := 65) rfl ?_
            refine K_iconst (pc := 103) (i := 66) rfl ?_
            refine K_iadd (pc := 104) (i := 67) rfl ?_
            refine K_iald (pc := 105) (i := 68) rfl S_187 (by omega) (by omega) (by decide) ?_
            refine K_nm (fun v105 e105 => ?_)
            have r105 := rd_mkites hI ((5 * x2) + 1).toNat
            rw [← e105] at r105
            have w105 : h 187 (5 * x2.toNat + 1) = v105 := by rw [e105]; congr 1; omega
            have u105 := (hk x2.toNat (by omega)).1
            rw [w105] at u105
            refine K_iload (pc := 106) (i := 69) rfl rfl ?_
            refine K_isub (pc := 108) (i := 70) rfl ?_
            refine K_imul (pc := 109) (i := 71) rfl ?_
            refine K_nm (fun v109 e109 => ?_)
            have u109 := mul_bd (A := 40) (B := 40) (a := v92 - v75) (b := v105 - v75) (by omega) (by omega)
            rw [← e109] at u109
            refine K_aload_n (pc := 110) (i := 72) rfl rfl ?_
            refine K_getR (pc := 111) (i := 73) (j := 3) (d := 187) rfl S_184 rfl (by decide) rfl fw_Model_16 ?_
            refine K_iconst (pc := 114) (i := 74) rfl ?_
            refine K_iload_n (pc := 115) (i := 75) rfl rfl ?_
            refine K_imul (pc := 116) (i := 76) rfl ?_
            refine K_iconst (pc := 117) (i := 77) rfl ?_
            refine K_iadd (pc := 118) (i := 78) rfl ?_
            refine K_iald (pc := 119) (i := 79) rfl S_187 (by omega) (by omega) (by decide) ?_
            refine K_nm (fun v119 e119 => ?_)
            have r119 := (rd_mkites hI ((5 * x2) + 3).toNat).2.1 (by omega)
            rw [← e119] at r119
            have w119 : h 187 (5 * x2.toNat + 3) = v119 := by rw [e119]; congr 1; omega
            have u119 := (hk x2.toNat (by omega)).2.2.1
            rw [w119] at u119
            refine K_imul (pc := 120) (i := 80) rfl ?_
            refine K_nm (fun v120 e120 => ?_)
            have u120 := mul_bd (A := 1600) (B := 9) (a := v109) (b := v119) (by omega) (by omega)
            rw [← e120] at u120
            refine K_iadd (pc := 121) (i := 81) rfl ?_
            refine K_iload (pc := 122) (i := 82) rfl rfl ?_
            refine K_iload (pc := 124) (i := 83) rfl rfl ?_
            refine K_cSI (pc := 126) (i := 84) rfl (c_Model_part G (x0 := v82 + v120) (x1 := v43) (x2 := x4) (s0 := by omega) (s1 := by omega) (hne := by omega)) (ls_Model_153 rfl) rfl rfl rfl rfl (fun v126 h126 q126 => ?_)
            obtain ⟨eh, r126⟩ := q126
            rw [eh]; clear eh
            exact K_retI (pc := 129) (i := 85) rfl rfl ⟨fx, ⟨hI, trivial⟩⟩
          · skip
            refine K_aload_n (pc := 52) (i := 31) rfl rfl ?_
            refine K_iload_n (pc := 53) (i := 32) rfl rfl ?_
            refine K_iload_n (pc := 54) (i := 33) rfl rfl ?_
            refine K_cVI (pc := 55) (i := 34) rfl (c_Model_highAboveX G (x1 := x1) (x2 := x2) (hk := hk) (hI := hI) (s1 := by omega) (s2 := by omega)) S_184 rfl (lv_Model_150 rfl) rfl rfl rfl rfl rfl (fun v55 h55 q55 => ?_)
            obtain ⟨eh, r55⟩ := q55
            rw [eh]; clear eh
            refine K_iload (pc := 58) (i := 35) rfl rfl ?_
            refine K_iload (pc := 60) (i := 36) rfl rfl ?_
            refine K_cSI (pc := 62) (i := 37) rfl (c_Model_part G (x0 := v55) (x1 := v43) (x2 := x4) (s0 := by omega) (s1 := by omega) (hne := by omega)) (ls_Model_153 rfl) rfl rfl rfl rfl (fun v62 h62 q62 => ?_)
            obtain ⟨eh, r62⟩ := q62
            rw [eh]; clear eh
            exact K_retI (pc := 65) (i := 38) rfl rfl ⟨fx, ⟨hI, trivial⟩⟩
        · skip
          refine K_bipush (pc := 36) (i := 21) rfl rfl ?_
          exact K_retI (pc := 38) (i := 22) rfl rfl ⟨fx, ⟨hI, trivial⟩⟩
      · skip
        refine K_bipush (pc := 23) (i := 13) rfl rfl ?_
        exact K_retI (pc := 25) (i := 14) rfl rfl ⟨fx, ⟨hI, trivial⟩⟩
    · skip
      refine K_iconst (pc := 16) (i := 8) rfl ?_
      exact K_retI (pc := 17) (i := 9) rfl rfl ⟨fx, ⟨hI, trivial⟩⟩
end
section
theorem K_icmp_eq_self {X : kX} {G : kG} {Z : kZ} {pc i : Nat} {lo : List (Nat × Value)} {st : List Value} {h : kH} {a b : Int} {off : Int} (tgt : Nat) (hd : X.2.2.2.2[i]? = some (pc, .if_icmp .eq off, 3)) (ht : (pc : Int) + off = (tgt : Int)) (e : a = b) (k1 : K X G Z tgt lo st h) : K X G Z pc lo (kI b :: kI a :: st) h := by
  subst e
  obtain ⟨z, hz, e⟩ := kI_norm a
  rw [e]
  exact K_icmp_eq tgt hd ht hz hz (fun _ => k1) (fun q => absurd rfl q)
end
