section
set_option maxHeartbeats 4000000 in
set_option maxRecDepth 100000 in
theorem c_Integer_signum (G : kG)  {h : kH} {x0 : Int} : Ctr G y_Integer_signum X_Integer_signum 1 [kI x0] h (kQi (fun z h' => h' = h ∧ kR z ∧ (-1000 ≤ x0 → x0 ≤ 1000 → z = x0.sign))) := by
  refine Ctr.ofK (by decide) rfl T_Integer_signum (Nat.le_of_ble_eq_true rfl) (lo := [(0, kI x0)]) rfl ?_
  refine K_iload_n (pc := 0) (i := 0) rfl rfl ?_
  refine K_bipush (pc := 1) (i := 1) rfl rfl ?_
  refine K_ishr (pc := 3) (i := 2) rfl ?_
  refine K_nm (fun v3 e3 => ?_)
  have r3 := kShr_R x0 31
  rw [← e3] at r3
  refine K_iload_n (pc := 4) (i := 3) rfl rfl ?_
  refine K_ineg (pc := 5) (i := 4) rfl ?_
  refine K_bipush (pc := 6) (i := 5) rfl rfl ?_
  refine K_iushr (pc := 8) (i := 6) rfl ?_
  refine K_nm (fun v8 e8 => ?_)
  have r8 := kUshr_R (-x0) 31
  rw [← e8] at r8
  refine K_ior (pc := 9) (i := 7) rfl ?_
  refine K_nm (fun v9 e9 => ?_)
  have r9 := kOr_R v3 v8
  rw [← e9] at r9
  exact K_retI (pc := 10) (i := 8) rfl rfl ⟨rfl, by omega, fun a b => by rw [e9, e3, e8]; exact sgn_ok a b⟩
set_option maxHeartbeats 4000000 in
set_option maxRecDepth 100000 in
theorem c_Integer_bitCount (G : kG)  {h : kH} {x0 : Int} : Ctr G y_Integer_bitCount X_Integer_bitCount 1 [kI x0] h (kQi (fun z h' => h' = h ∧ kR z ∧ (0 ≤ x0 → x0 < 16777216 → z = pcI x0))) := by
  refine Ctr.ofK (by decide) rfl T_Integer_bitCount (Nat.le_of_ble_eq_true rfl) (lo := [(0, kI x0)]) rfl ?_
  refine K_iload_n (pc := 0) (i := 0) rfl rfl ?_
  refine K_iload_n (pc := 1) (i := 1) rfl rfl ?_
  refine K_iconst (pc := 2) (i := 2) rfl ?_
  refine K_iushr (pc := 3) (i := 3) rfl ?_
  refine K_nm (fun v3 e3 => ?_)
  have r3 := kUshr_R x0 1
  rw [← e3] at r3
  refine K_ldcw 1431655765 (pc := 4) (i := 4) rfl ci_Integer_265 (by decide) ?_
  refine K_iand (pc := 7) (i := 5) rfl ?_
  refine K_nm (fun v7 e7 => ?_)
  have r7 := kAnd_R v3 1431655765
  rw [← e7] at r7
  refine K_isub (pc := 8) (i := 6) rfl ?_
  refine K_nm (fun v8 e8 => ?_)
  refine K_ist_n (pc := 9) (i := 7) (lo' := [(0, _)]) rfl rfl rfl rfl ?_
  refine K_iload_n (pc := 10) (i := 8) rfl rfl ?_
  refine K_ldcw 858993459 (pc := 11) (i := 9) rfl ci_Integer_266 (by decide) ?_
  refine K_iand (pc := 14) (i := 10) rfl ?_
  refine K_nm (fun v14 e14 => ?_)
  have r14 := kAnd_R v8 858993459
  rw [← e14] at r14
  refine K_iload_n (pc := 15) (i := 11) rfl rfl ?_
  refine K_iconst (pc := 16) (i := 12) rfl ?_
  refine K_iushr (pc := 17) (i := 13) rfl ?_
  refine K_nm (fun v17 e17 => ?_)
  have r17 := kUshr_R v8 2
  rw [← e17] at r17
  refine K_ldcw 858993459 (pc := 18) (i := 14) rfl ci_Integer_266 (by decide) ?_
  refine K_iand (pc := 21) (i := 15) rfl ?_
  refine K_nm (fun v21 e21 => ?_)
  have r21 := kAnd_R v17 858993459
  rw [← e21] at r21
  refine K_iadd (pc := 22) (i := 16) rfl ?_
  refine K_nm (fun v22 e22 => ?_)
  refine K_ist_n (pc := 23) (i := 17) (lo' := [(0, _)]) rfl rfl rfl rfl ?_
  refine K_iload_n (pc := 24) (i := 18) rfl rfl ?_
  refine K_iload_n (pc := 25) (i := 19) rfl rfl ?_
  refine K_iconst (pc := 26) (i := 20) rfl ?_
  refine K_iushr (pc := 27) (i := 21) rfl ?_
  refine K_nm (fun v27 e27 => ?_)
  have r27 := kUshr_R v22 4
  rw [← e27] at r27
  refine K_iadd (pc := 28) (i := 22) rfl ?_
  refine K_nm (fun v28 e28 => ?_)
  refine K_ldcw 252645135 (pc := 29) (i := 23) rfl ci_Integer_267 (by decide) ?_
  refine K_iand (pc := 32) (i := 24) rfl ?_
  refine K_nm (fun v32 e32 => ?_)
  have r32 := kAnd_R v28 252645135
  rw [← e32] at r32
  refine K_ist_n (pc := 33) (i := 25) (lo' := [(0, _)]) rfl rfl rfl rfl ?_
  refine K_iload_n (pc := 34) (i := 26) rfl rfl ?_
  refine K_iload_n (pc := 35) (i := 27) rfl rfl ?_
  refine K_bipush (pc := 36) (i := 28) rfl rfl ?_
  refine K_iushr (pc := 38) (i := 29) rfl ?_
  refine K_nm (fun v38 e38 => ?_)
  have r38 := kUshr_R v32 8
  rw [← e38] at r38
  refine K_iadd (pc := 39) (i := 30) rfl ?_
  refine K_nm (fun v39 e39 => ?_)
  refine K_ist_n (pc := 40) (i := 31) (lo' := [(0, _)]) rfl rfl rfl rfl ?_
  refine K_iload_n (pc := 41) (i := 32) rfl rfl ?_
  refine K_iload_n (pc := 42) (i := 33) rfl rfl ?_
  refine K_bipush (pc := 43) (i := 34) rfl rfl ?_
  refine K_iushr (pc := 45) (i := 35) rfl ?_
  refine K_nm (fun v45 e45 => ?_)
  have r45 := kUshr_R v39 16
  rw [← e45] at r45
  refine K_iadd (pc := 46) (i := 36) rfl ?_
  refine K_nm (fun v46 e46 => ?_)
  refine K_ist_n (pc := 47) (i := 37) (lo' := [(0, _)]) rfl rfl rfl rfl ?_
  refine K_iload_n (pc := 48) (i := 38) rfl rfl ?_
  refine K_bipush (pc := 49) (i := 39) rfl rfl ?_
  refine K_iand (pc := 51) (i := 40) rfl ?_
  refine K_nm (fun v51 e51 => ?_)
  have r51 := kAnd_R v46 63
  rw [← e51] at r51
  exact K_retI (pc := 52) (i := 41) rfl rfl ⟨rfl, by omega, fun p q => bc_ok p q e3 e7 e8 e14 e17 e21 e22 e27 e28 e32 e38 e39 e45 e46 e51⟩
end
section
set_option maxHeartbeats 4000000 in
set_option maxRecDepth 100000 in
theorem c_Fleet_clear (G : kG) {g : kGh} {h : kH} {f : Nat} (hf : f ∈ FL) (hI : Gd g h) : Ctr G y_Fleet_clear X_Fleet_clear 1 [.ref (G.2.2.2 f)] h (kQv (fun h' => Fx (fun c i => f ≤ c ∧ c ≤ f + 6) h h' ∧ (Gd g h' ∧ FrF f h h' ∧ (h' f 6 = 0 ∧ h' (f + 6) 0 = 0 ∧ h' (f + 6) 1 = 0)))) := by
  refine Ctr.ofK (by decide) rfl T_Fleet_clear (Nat.le_of_ble_eq_true rfl) (lo := [(0, .ref (G.2.2.2 f))]) rfl ?_
  have fx : Fx (fun c i => f ≤ c ∧ c ≤ f + 6) h h := Fx.rf
  refine K_aload_n (pc := 0) (i := 0) rfl rfl ?_
  refine K_iconst (pc := 1) (i := 1) rfl ?_
  refine K_putI (pc := 2) (i := 2) (j := 6) rfl (S_Fl hf) rfl (by decide) rfl rfl rfl fw_Fleet_30 ?_
  have hI := st_kites hI hf (v := 0) (by omega)
  have fx := Fx.st (c := f) (i := 6) (v := 0) fx (by first | (dsimp only; omega) | omega | exact not_false)
  refine K_aload_n (pc := 5) (i := 3) rfl rfl ?_
  refine K_getR (pc := 6) (i := 4) (j := 5) (d := f + 6) rfl (S_Fl hf) rfl (by decide) rfl fw_Fleet_27 ?_
  refine K_iconst (pc := 9) (i := 5) rfl ?_
  refine K_iconst (pc := 10) (i := 6) rfl ?_
  refine K_iast (pc := 11) (i := 7) rfl (S_Fl6 hf) (by omega) (by omega) (by decide) ?_
  have hI := st_won hI hf (i := (0 : Int).toNat) (v := 0)
  have fx := Fx.st (c := f + 6) (i := (0 : Int).toNat) (v := 0) fx (by first | (dsimp only; omega) | omega | exact not_false)
  refine K_aload_n (pc := 12) (i := 8) rfl rfl ?_
  refine K_getR (pc := 13) (i := 9) (j := 5) (d := f + 6) rfl (S_Fl hf) rfl (by decide) rfl fw_Fleet_27 ?_
  refine K_iconst (pc := 16) (i := 10) rfl ?_
  refine K_iconst (pc := 17) (i := 11) rfl ?_
  refine K_iast (pc := 18) (i := 12) rfl (S_Fl6 hf) (by omega) (by omega) (by decide) ?_
  have hI := st_won hI hf (i := (1 : Int).toNat) (v := 0)
  have fx := Fx.st (c := f + 6) (i := (1 : Int).toNat) (v := 0) fx (by first | (dsimp only; omega) | omega | exact not_false)
  exact K_retV (pc := 19) (i := 13) rfl rfl ⟨fx, ⟨hI, ((FrF.rf.st (k := 0) (by omega)).st (k := 6) (by omega)).st (k := 6) (by omega), by rw [kU_at, if_neg (by omega), kU_at, if_neg (by omega), kU_at, if_pos (by omega)], by rw [kU_at, if_neg (by omega), kU_at, if_pos ⟨rfl, rfl⟩], by rw [kU_at, if_pos ⟨rfl, rfl⟩]⟩⟩
set_option maxHeartbeats 4000000 in
set_option maxRecDepth 100000 in
theorem c_Fleet_copyFrom (G : kG) {g : kGh} {h : kH} {f : Nat} (hf : f ∈ FL) {f2 : Nat} (hf2 : f2 ∈ FL) (dj : f + 7 ≤ f2 ∨ f2 + 7 ≤ f) (hI : Gd g h) : Ctr G y_Fleet_copyFrom X_Fleet_copyFrom 2 [.ref (G.2.2.2 f), .ref (G.2.2.2 f2)] h (kQv (fun h' => Fx (fun c i => f ≤ c ∧ c ≤ f + 6) h h' ∧ (Gd g h' ∧ FrF f h h' ∧ FC h' f h f2))) := by
  refine Ctr.ofK (by decide) rfl T_Fleet_copyFrom (Nat.le_of_ble_eq_true rfl) (lo := [(0, .ref (G.2.2.2 f)), (1, .ref (G.2.2.2 f2))]) rfl ?_
  have fx : Fx (fun c i => f ≤ c ∧ c ≤ f + 6) h h := Fx.rf
  refine K_aload_n (pc := 0) (i := 0) rfl rfl ?_
  refine K_aload_n (pc := 1) (i := 1) rfl rfl ?_
  refine K_getI (pc := 2) (i := 2) (j := 6) rfl (S_Fl hf2) rfl (by decide) rfl fw_Fleet_30 ?_
  refine K_nm (fun v2 e2 => ?_)
  have r2 := rd_kites hI hf2
  rw [← e2] at r2
  refine K_putI (pc := 5) (i := 3) (j := 6) rfl (S_Fl hf) rfl (by decide) rfl rfl rfl fw_Fleet_30 ?_
  have hI := st_kites hI hf (v := v2) (by omega)
  have fx := Fx.st (c := f) (i := 6) (v := v2) fx (by first | (dsimp only; omega) | omega | exact not_false)
  have cp5 : CP h (kU h f 6 v2) f f2 0 := by rw [e2]; exact CP.z
  refine K_aload_n (pc := 8) (i := 4) rfl rfl ?_
  refine K_getR (pc := 9) (i := 5) (j := 0) (d := f2 + 1) rfl (S_Fl hf2) rfl (by decide) rfl fw_Fleet_9 ?_
  refine K_iconst (pc := 12) (i := 6) rfl ?_
  refine K_aload_n (pc := 13) (i := 7) rfl rfl ?_
  refine K_getR (pc := 14) (i := 8) (j := 0) (d := f + 1) rfl (S_Fl hf) rfl (by decide) rfl fw_Fleet_9 ?_
  refine K_iconst (pc := 17) (i := 9) rfl ?_
  refine K_aload_n (pc := 18) (i := 10) rfl rfl ?_
  refine K_getI (pc := 19) (i := 11) (j := 6) rfl (S_Fl hf) rfl (by decide) rfl fw_Fleet_30 ?_
  refine K_nm (fun v19 e19 => ?_)
  have r19 := rd_kites hI hf
  rw [← e19] at r19
  refine K_copy (pc := 22) (i := 12) rfl (S_Fl1 hf2) (S_Fl1 hf) (by omega) (by omega) (by omega) (by omega) (by omega) (by decide) (by decide) mw_Fleet_34 (Nat.le_of_ble_eq_true rfl) ⟨Nat.le_of_ble_eq_true rfl, Nat.le_of_ble_eq_true rfl⟩ ?_
  have hI := cp_fl (sp := (0 : Int).toNat) (dp := (0 : Int).toNat) (n := (v19).toNat) hI hf2 hf 1 (by omega)
  have fx := Fx.cp (c0 := f2 + 1) (c1 := f + 1) (sp := (0 : Int).toNat) (dp := (0 : Int).toNat) (n := (v19).toNat) fx (fun i => (by first | (dsimp only; omega) | omega | exact not_false))
  have cp22 := CP.cp (a := 0) (c0 := f2 + 1) (c1 := f + 1) (sp := (0 : Int).toNat) (dp := (0 : Int).toNat) (n := (v19).toNat) cp5 (by omega) (by omega) (by omega) rfl rfl (by rw [← cp5.1, ← e19]; omega) dj
  refine K_aload_n (pc := 25) (i := 13) rfl rfl ?_
  refine K_getR (pc := 26) (i := 14) (j := 1) (d := f2 + 2) rfl (S_Fl hf2) rfl (by decide) rfl fw_Fleet_15 ?_
  refine K_iconst (pc := 29) (i := 15) rfl ?_
  refine K_aload_n (pc := 30) (i := 16) rfl rfl ?_
  refine K_getR (pc := 31) (i := 17) (j := 1) (d := f + 2) rfl (S_Fl hf) rfl (by decide) rfl fw_Fleet_15 ?_
  refine K_iconst (pc := 34) (i := 18) rfl ?_
  refine K_aload_n (pc := 35) (i := 19) rfl rfl ?_
  refine K_getI (pc := 36) (i := 20) (j := 6) rfl (S_Fl hf) rfl (by decide) rfl fw_Fleet_30 ?_
  refine K_nm (fun v36 e36 => ?_)
  have r36 := rd_kites hI hf
  rw [← e36] at r36
  refine K_copy (pc := 39) (i := 21) rfl (S_Fl2 hf2) (S_Fl2 hf) (by omega) (by omega) (by omega) (by omega) (by omega) (by decide) (by decide) mw_Fleet_34 (Nat.le_of_ble_eq_true rfl) ⟨Nat.le_of_ble_eq_true rfl, Nat.le_of_ble_eq_true rfl⟩ ?_
  have hI := cp_fl (sp := (0 : Int).toNat) (dp := (0 : Int).toNat) (n := (v36).toNat) hI hf2 hf 2 (by omega)
  have fx := Fx.cp (c0 := f2 + 2) (c1 := f + 2) (sp := (0 : Int).toNat) (dp := (0 : Int).toNat) (n := (v36).toNat) fx (fun i => (by first | (dsimp only; omega) | omega | exact not_false))
  have cp39 := CP.cp (a := 1) (c0 := f2 + 2) (c1 := f + 2) (sp := (0 : Int).toNat) (dp := (0 : Int).toNat) (n := (v36).toNat) cp22 (by omega) (by omega) (by omega) rfl rfl (by rw [← cp22.1, ← e36]; omega) dj
  refine K_aload_n (pc := 42) (i := 22) rfl rfl ?_
  refine K_getR (pc := 43) (i := 23) (j := 2) (d := f2 + 3) rfl (S_Fl hf2) rfl (by decide) rfl fw_Fleet_18 ?_
  refine K_iconst (pc := 46) (i := 24) rfl ?_
  refine K_aload_n (pc := 47) (i := 25) rfl rfl ?_
  refine K_getR (pc := 48) (i := 26) (j := 2) (d := f + 3) rfl (S_Fl hf) rfl (by decide) rfl fw_Fleet_18 ?_
  refine K_iconst (pc := 51) (i := 27) rfl ?_
  refine K_aload_n (pc := 52) (i := 28) rfl rfl ?_
  refine K_getI (pc := 53) (i := 29) (j := 6) rfl (S_Fl hf) rfl (by decide) rfl fw_Fleet_30 ?_
  refine K_nm (fun v53 e53 => ?_)
  have r53 := rd_kites hI hf
  rw [← e53] at r53
  refine K_copy (pc := 56) (i := 30) rfl (S_Fl3 hf2) (S_Fl3 hf) (by omega) (by omega) (by omega) (by omega) (by omega) (by decide) (by decide) mw_Fleet_34 (Nat.le_of_ble_eq_true rfl) ⟨Nat.le_of_ble_eq_true rfl, Nat.le_of_ble_eq_true rfl⟩ ?_
  have hI := cp_fl (sp := (0 : Int).toNat) (dp := (0 : Int).toNat) (n := (v53).toNat) hI hf2 hf 3 (by omega)
  have fx := Fx.cp (c0 := f2 + 3) (c1 := f + 3) (sp := (0 : Int).toNat) (dp := (0 : Int).toNat) (n := (v53).toNat) fx (fun i => (by first | (dsimp only; omega) | omega | exact not_false))
  have cp56 := CP.cp (a := 2) (c0 := f2 + 3) (c1 := f + 3) (sp := (0 : Int).toNat) (dp := (0 : Int).toNat) (n := (v53).toNat) cp39 (by omega) (by omega) (by omega) rfl rfl (by rw [← cp39.1, ← e53]; omega) dj
  refine K_aload_n (pc := 59) (i := 31) rfl rfl ?_
  refine K_getR (pc := 60) (i := 32) (j := 3) (d := f2 + 4) rfl (S_Fl hf2) rfl (by decide) rfl fw_Fleet_21 ?_
  refine K_iconst (pc := 63) (i := 33) rfl ?_
  refine K_aload_n (pc := 64) (i := 34) rfl rfl ?_
  refine K_getR (pc := 65) (i := 35) (j := 3) (d := f + 4) rfl (S_Fl hf) rfl (by decide) rfl fw_Fleet_21 ?_
  refine K_iconst (pc := 68) (i := 36) rfl ?_
  refine K_aload_n (pc := 69) (i := 37) rfl rfl ?_
  refine K_getI (pc := 70) (i := 38) (j := 6) rfl (S_Fl hf) rfl (by decide) rfl fw_Fleet_30 ?_
  refine K_nm (fun v70 e70 => ?_)
  have r70 := rd_kites hI hf
  rw [← e70] at r70
  refine K_copy (pc := 73) (i := 39) rfl (S_Fl4 hf2) (S_Fl4 hf) (by omega) (by omega) (by omega) (by omega) (by omega) (by decide) (by decide) mw_Fleet_34 (Nat.le_of_ble_eq_true rfl) ⟨Nat.le_of_ble_eq_true rfl, Nat.le_of_ble_eq_true rfl⟩ ?_
  have hI := cp_fl (sp := (0 : Int).toNat) (dp := (0 : Int).toNat) (n := (v70).toNat) hI hf2 hf 4 (by omega)
  have fx := Fx.cp (c0 := f2 + 4) (c1 := f + 4) (sp := (0 : Int).toNat) (dp := (0 : Int).toNat) (n := (v70).toNat) fx (fun i => (by first | (dsimp only; omega) | omega | exact not_false))
  have cp73 := CP.cp (a := 3) (c0 := f2 + 4) (c1 := f + 4) (sp := (0 : Int).toNat) (dp := (0 : Int).toNat) (n := (v70).toNat) cp56 (by omega) (by omega) (by omega) rfl rfl (by rw [← cp56.1, ← e70]; omega) dj
  refine K_aload_n (pc := 76) (i := 40) rfl rfl ?_
  refine K_getR (pc := 77) (i := 41) (j := 4) (d := f2 + 5) rfl (S_Fl hf2) rfl (by decide) rfl fw_Fleet_24 ?_
  refine K_iconst (pc := 80) (i := 42) rfl ?_
  refine K_aload_n (pc := 81) (i := 43) rfl rfl ?_
  refine K_getR (pc := 82) (i := 44) (j := 4) (d := f + 5) rfl (S_Fl hf) rfl (by decide) rfl fw_Fleet_24 ?_
  refine K_iconst (pc := 85) (i := 45) rfl ?_
  refine K_aload_n (pc := 86) (i := 46) rfl rfl ?_
  refine K_getI (pc := 87) (i := 47) (j := 6) rfl (S_Fl hf) rfl (by decide) rfl fw_Fleet_30 ?_
  refine K_nm (fun v87 e87 => ?_)
  have r87 := rd_kites hI hf
  rw [← e87] at r87
  refine K_copy (pc := 90) (i := 48) rfl (S_Fl5 hf2) (S_Fl5 hf) (by omega) (by omega) (by omega) (by omega) (by omega) (by decide) (by decide) mw_Fleet_34 (Nat.le_of_ble_eq_true rfl) ⟨Nat.le_of_ble_eq_true rfl, Nat.le_of_ble_eq_true rfl⟩ ?_
  have hI := cp_fl (sp := (0 : Int).toNat) (dp := (0 : Int).toNat) (n := (v87).toNat) hI hf2 hf 5 (by omega)
  have fx := Fx.cp (c0 := f2 + 5) (c1 := f + 5) (sp := (0 : Int).toNat) (dp := (0 : Int).toNat) (n := (v87).toNat) fx (fun i => (by first | (dsimp only; omega) | omega | exact not_false))
  have cp90 := CP.cp (a := 4) (c0 := f2 + 5) (c1 := f + 5) (sp := (0 : Int).toNat) (dp := (0 : Int).toNat) (n := (v87).toNat) cp73 (by omega) (by omega) (by omega) rfl rfl (by rw [← cp73.1, ← e87]; omega) dj
  refine K_aload_n (pc := 93) (i := 49) rfl rfl ?_
  refine K_getR (pc := 94) (i := 50) (j := 5) (d := f2 + 6) rfl (S_Fl hf2) rfl (by decide) rfl fw_Fleet_27 ?_
  refine K_iconst (pc := 97) (i := 51) rfl ?_
  refine K_aload_n (pc := 98) (i := 52) rfl rfl ?_
  refine K_getR (pc := 99) (i := 53) (j := 5) (d := f + 6) rfl (S_Fl hf) rfl (by decide) rfl fw_Fleet_27 ?_
  refine K_iconst (pc := 102) (i := 54) rfl ?_
  refine K_iconst (pc := 103) (i := 55) rfl ?_
  refine K_copy (pc := 104) (i := 56) rfl (S_Fl6 hf2) (S_Fl6 hf) (by omega) (by omega) (by omega) (by omega) (by omega) (by decide) (by decide) mw_Fleet_34 (Nat.le_of_ble_eq_true rfl) ⟨Nat.le_of_ble_eq_true rfl, Nat.le_of_ble_eq_true rfl⟩ ?_
  have hI := cp_fl (sp := (0 : Int).toNat) (dp := (0 : Int).toNat) (n := (2 : Int).toNat) hI hf2 hf 6 (by omega)
  have fx := Fx.cp (c0 := f2 + 6) (c1 := f + 6) (sp := (0 : Int).toNat) (dp := (0 : Int).toNat) (n := (2 : Int).toNat) fx (fun i => (by first | (dsimp only; omega) | omega | exact not_false))
  have cp104 := CP.end (c0 := f2 + 6) (c1 := f + 6) (sp := (0 : Int).toNat) (dp := (0 : Int).toNat) (n := (2 : Int).toNat) cp90 rfl rfl rfl rfl rfl dj
  exact K_retV (pc := 107) (i := 57) rfl rfl ⟨fx, ⟨hI, ((((((FrF.rf.st (k := 0) (by omega)).cp (k := 1) (by omega)).cp (k := 2) (by omega)).cp (k := 3) (by omega)).cp (k := 4) (by omega)).cp (k := 5) (by omega)).cp (k := 6) (by omega), cp104⟩⟩
set_option maxHeartbeats 4000000 in
set_option maxRecDepth 100000 in
theorem c_Fleet_add (G : kG) {g : kGh} {h : kH} {f : Nat} (hf : f ∈ FL) {x1 : Int} {x2 : Int} {x3 : Int} {x4 : Int} {x5 : Int} (s1 : 0 ≤ x1 ∧ x1 ≤ 1) (s2 : 0 ≤ x2 ∧ x2 ≤ 40) (s3 : 0 ≤ x3 ∧ x3 ≤ 40) (s4 : 0 ≤ x4 ∧ x4 ≤ 9) (s5 : 0 ≤ x5 ∧ x5 ≤ 9) (hI : Gd g h) : Ctr G y_Fleet_add X_Fleet_add 1 [.ref (G.2.2.2 f), kI x1, kI x2, kI x3, kI x4, kI x5] h (kQv (fun h' => Fx (fun c i => f ≤ c ∧ c ≤ f + 6) h h' ∧ (Gd g h' ∧ FrF f h h' ∧ (h f 6 < 8 → FA h h' f x1 x2 x3 x4 x5)))) := by
  refine Ctr.ofK (by decide) rfl T_Fleet_add (Nat.le_of_ble_eq_true rfl) (lo := [(0, .ref (G.2.2.2 f)), (1, kI x1), (2, kI x2), (3, kI x3), (4, kI x4), (5, kI x5)]) rfl ?_
  have fx : Fx (fun c i => f ≤ c ∧ c ≤ f + 6) h h := Fx.rf
  refine K_aload_n (pc := 0) (i := 0) rfl rfl ?_
  refine K_getI (pc := 1) (i := 1) (j := 6) rfl (S_Fl hf) rfl (by decide) rfl fw_Fleet_30 ?_
  refine K_nm (fun v1 e1 => ?_)
  have r1 := rd_kites hI hf
  rw [← e1] at r1
  refine K_bipush (pc := 4) (i := 2) rfl rfl ?_
  first | refine K_icmp_lt 10 (pc := 6) (i := 3) rfl rfl (by omega) (by omega) (fun b6 => ?_) (fun b6 => ?_) | refine K_icmp_lt_an 10 (pc := 6) (i := 3) rfl rfl (fun b6 => ?_) (fun b6 => ?_)
  · skip
    refine K_aload_n (pc := 10) (i := 5) rfl rfl ?_
    refine K_getR (pc := 11) (i := 6) (j := 0) (d := f + 1) rfl (S_Fl hf) rfl (by decide) rfl fw_Fleet_9 ?_
    refine K_aload_n (pc := 14) (i := 7) rfl rfl ?_
    refine K_getI (pc := 15) (i := 8) (j := 6) rfl (S_Fl hf) rfl (by decide) rfl fw_Fleet_30 ?_
    refine K_nm (fun v15 e15 => ?_)
    have r15 := rd_kites hI hf
    rw [← e15] at r15
    have t15 : v15 = v1 := by rw [e15, e1]; try simp [kU]
    refine K_iload_n (pc := 18) (i := 9) rfl rfl ?_
    refine K_iast (pc := 19) (i := 10) rfl (S_Fl1 hf) (by omega) (by omega) (by decide) ?_
    have hI := st_town hI hf (i := (v15).toNat) (v := x1) (by omega)
    have fx := Fx.st (c := f + 1) (i := (v15).toNat) (v := x1) fx (by first | (dsimp only; omega) | omega | exact not_false)
    refine K_aload_n (pc := 20) (i := 11) rfl rfl ?_
    refine K_getR (pc := 21) (i := 12) (j := 1) (d := f + 2) rfl (S_Fl hf) rfl (by decide) rfl fw_Fleet_15 ?_
    refine K_aload_n (pc := 24) (i := 13) rfl rfl ?_
    refine K_getI (pc := 25) (i := 14) (j := 6) rfl (S_Fl hf) rfl (by decide) rfl fw_Fleet_30 ?_
    refine K_nm (fun v25 e25 => ?_)
    have r25 := rd_kites hI hf
    rw [← e25] at r25
    have t25 : v25 = v1 := by rw [e25, e1]; try simp [kU]
    refine K_iload_n (pc := 28) (i := 15) rfl rfl ?_
    refine K_iast (pc := 29) (i := 16) rfl (S_Fl2 hf) (by omega) (by omega) (by decide) ?_
    have hI := st_stake hI hf (i := (v25).toNat) (v := x2) (by omega)
    have fx := Fx.st (c := f + 2) (i := (v25).toNat) (v := x2) fx (by first | (dsimp only; omega) | omega | exact not_false)
    refine K_aload_n (pc := 30) (i := 17) rfl rfl ?_
    refine K_getR (pc := 31) (i := 18) (j := 2) (d := f + 3) rfl (S_Fl hf) rfl (by decide) rfl fw_Fleet_18 ?_
    refine K_aload_n (pc := 34) (i := 19) rfl rfl ?_
    refine K_getI (pc := 35) (i := 20) (j := 6) rfl (S_Fl hf) rfl (by decide) rfl fw_Fleet_30 ?_
    refine K_nm (fun v35 e35 => ?_)
    have r35 := rd_kites hI hf
    rw [← e35] at r35
    have t35 : v35 = v1 := by rw [e35, e1]; try simp [kU]
    refine K_iload_n (pc := 38) (i := 21) rfl rfl ?_
    refine K_iast (pc := 39) (i := 22) rfl (S_Fl3 hf) (by omega) (by omega) (by decide) ?_
    have hI := st_x hI hf (i := (v35).toNat) (v := x3) (by omega)
    have fx := Fx.st (c := f + 3) (i := (v35).toNat) (v := x3) fx (by first | (dsimp only; omega) | omega | exact not_false)
    refine K_aload_n (pc := 40) (i := 23) rfl rfl ?_
    refine K_getR (pc := 41) (i := 24) (j := 3) (d := f + 4) rfl (S_Fl hf) rfl (by decide) rfl fw_Fleet_21 ?_
    refine K_aload_n (pc := 44) (i := 25) rfl rfl ?_
    refine K_getI (pc := 45) (i := 26) (j := 6) rfl (S_Fl hf) rfl (by decide) rfl fw_Fleet_30 ?_
    refine K_nm (fun v45 e45 => ?_)
    have r45 := rd_kites hI hf
    rw [← e45] at r45
    have t45 : v45 = v1 := by rw [e45, e1]; try simp [kU]
    refine K_iload (pc := 48) (i := 27) rfl rfl ?_
    refine K_iast (pc := 50) (i := 28) rfl (S_Fl4 hf) (by omega) (by omega) (by decide) ?_
    have hI := st_height hI hf (i := (v45).toNat) (v := x4) (by omega)
    have fx := Fx.st (c := f + 4) (i := (v45).toNat) (v := x4) fx (by first | (dsimp only; omega) | omega | exact not_false)
    refine K_aload_n (pc := 51) (i := 29) rfl rfl ?_
    refine K_getR (pc := 52) (i := 30) (j := 4) (d := f + 5) rfl (S_Fl hf) rfl (by decide) rfl fw_Fleet_24 ?_
    refine K_aload_n (pc := 55) (i := 31) rfl rfl ?_
    refine K_getI (pc := 56) (i := 32) (j := 6) rfl (S_Fl hf) rfl (by decide) rfl fw_Fleet_30 ?_
    refine K_nm (fun v56 e56 => ?_)
    have r56 := rd_kites hI hf
    rw [← e56] at r56
    have t56 : v56 = v1 := by rw [e56, e1]; try simp [kU]
    refine K_iload (pc := 59) (i := 33) rfl rfl ?_
    refine K_iast (pc := 61) (i := 34) rfl (S_Fl5 hf) (by omega) (by omega) (by decide) ?_
    have hI := st_glass hI hf (i := (v56).toNat) (v := x5) (by omega)
    have fx := Fx.st (c := f + 5) (i := (v56).toNat) (v := x5) fx (by first | (dsimp only; omega) | omega | exact not_false)
    refine K_aload_n (pc := 62) (i := 35) rfl rfl ?_
    refine K_dup (pc := 63) (i := 36) rfl rfl ?_
    refine K_getI (pc := 64) (i := 37) (j := 6) rfl (S_Fl hf) rfl (by decide) rfl fw_Fleet_30 ?_
    refine K_nm (fun v64 e64 => ?_)
    have r64 := rd_kites hI hf
    rw [← e64] at r64
    have t64 : v64 = v1 := by rw [e64, e1]; try simp [kU]
    refine K_iconst (pc := 67) (i := 38) rfl ?_
    refine K_iadd (pc := 68) (i := 39) rfl ?_
    refine K_putI (pc := 69) (i := 40) (j := 6) rfl (S_Fl hf) rfl (by decide) rfl rfl rfl fw_Fleet_30 ?_
    have hI := st_kites hI hf (v := v64 + 1) (by omega)
    have fx := Fx.st (c := f) (i := 6) (v := v64 + 1) fx (by first | (dsimp only; omega) | omega | exact not_false)
    exact K_retV (pc := 72) (i := 41) rfl rfl ⟨fx, ⟨hI, (((((FrF.rf.st (k := 1) (by omega)).st (k := 2) (by omega)).st (k := 3) (by omega)).st (k := 4) (by omega)).st (k := 5) (by omega)).st (k := 0) (by omega), fun _ => by rw [t15, t25, t35, t45, t56, t64]; exact FA.mk (by omega) (by omega)⟩⟩
  · skip
    exact K_retV (pc := 9) (i := 4) rfl rfl ⟨fx, ⟨hI, FrF.rf, fun q => absurd q (by omega)⟩⟩
set_option maxHeartbeats 4000000 in
set_option maxRecDepth 100000 in
theorem c_Fleet_drop (G : kG) {g : kGh} {h : kH} {f : Nat} (hf : f ∈ FL) {x1 : Int} (hI : Gd g h) : Ctr G y_Fleet_drop X_Fleet_drop 1 [.ref (G.2.2.2 f), kI x1] h (kQv (fun h' => Fx (fun c i => f ≤ c ∧ c ≤ f + 6) h h' ∧ (Gd g h' ∧ FD h h' f (pB x1)))) := by
  refine Ctr.ofK (by decide) rfl T_Fleet_drop (Nat.le_of_ble_eq_true rfl) (lo := [(0, .ref (G.2.2.2 f)), (1, kI x1)]) rfl ?_
  have fx : Fx (fun c i => f ≤ c ∧ c ≤ f + 6) h h := Fx.rf
  refine K_iconst (pc := 0) (i := 0) rfl ?_
  refine K_ist_n (pc := 1) (i := 1) (lo' := [(0, _), (1, _), (2, _)]) rfl rfl rfl rfl ?_
  refine K_iconst (pc := 2) (i := 2) rfl ?_
  refine K_ist_n (pc := 3) (i := 3) (lo' := [(0, _), (1, _), (2, _), (3, _)]) rfl rfl rfl rfl ?_
  have L4 : ∀ (n : Nat) (x2 : Int) (x3 : Int) (ha : kH), (8 - x3).toNat < n → (Gd g ha) → (Fx (fun c i => f ≤ c ∧ c ≤ f + 6) h ha) → (DI h ha f x1 x2 x3) → K X_Fleet_drop G (kZm G 1 (kQv (fun h' => Fx (fun c i => f ≤ c ∧ c ≤ f + 6) h h' ∧ (Gd g h' ∧ FD h h' f (pB x1))))) 4 [(0, .ref (G.2.2.2 f)), (1, kI x1), (2, kI x2), (3, kI x3)] [] ha := by
    intro n
    induction n with
    | zero => intro x2 x3 ha hm; exact absurd hm (Nat.not_lt_zero _)
    | succ n ih4 =>
      intro x2 x3 ha hm4 hI fx hV4
      have d6 : ha f 6 = h f 6 := hV4.2.2.2.2.2.1
      have d0 := hV4.1
      have d1 := hV4.2.1
      have d9 := rd_kites hI hf
      refine K_iload_n (pc := 4) (i := 4) rfl rfl ?_
      refine K_aload_n (pc := 5) (i := 5) rfl rfl ?_
      refine K_getI (pc := 6) (i := 6) (j := 6) rfl (S_Fl hf) rfl (by decide) rfl fw_Fleet_30 ?_
      refine K_nm (fun v6 e6 => ?_)
      have r6 := rd_kites hI hf
      rw [← e6] at r6
      first | refine K_icmp_ge 89 (pc := 9) (i := 7) rfl rfl (by omega) (by omega) (fun b9 => ?_) (fun b9 => ?_) | refine K_icmp_ge_an 89 (pc := 9) (i := 7) rfl rfl (fun b9 => ?_) (fun b9 => ?_)
      · skip
        refine K_aload_n (pc := 89) (i := 57) rfl rfl ?_
        refine K_iload_n (pc := 90) (i := 58) rfl rfl ?_
        refine K_putI (pc := 91) (i := 59) (j := 6) rfl (S_Fl hf) rfl (by decide) rfl rfl rfl fw_Fleet_30 ?_
        have hI := st_kites hI hf (v := x2) (by omega)
        have fx := Fx.st (c := f) (i := 6) (v := x2) fx (by first | (dsimp only; omega) | omega | exact not_false)
        exact K_retV (pc := 94) (i := 60) rfl rfl ⟨fx, ⟨hI, DR.end hV4.2.2.2 (by omega) (by rw [hV4.2.2.1])⟩⟩
      · skip
        refine K_iload_n (pc := 12) (i := 8) rfl rfl ?_
        refine K_iload_n (pc := 13) (i := 9) rfl rfl ?_
        refine K_ishr (pc := 14) (i := 10) rfl ?_
        refine K_nm (fun v14 e14 => ?_)
        have r14 := kShr_R x1 x3
        rw [← e14] at r14
        refine K_iconst (pc := 15) (i := 11) rfl ?_
        refine K_iand (pc := 16) (i := 12) rfl ?_
        refine K_nm (fun v16 e16 => ?_)
        have r16 := kAnd_1 v14
        rw [← e16] at r16
        have t16 : v16 = if tb x1 x3 then 1 else 0 := by rw [e16, e14]; exact kbit (by omega)
        first | refine K_if_ne 83 (pc := 17) (i := 13) rfl rfl (by omega) (fun b17 => ?_) (fun b17 => ?_) | refine K_if_ne_an 83 (pc := 17) (i := 13) rfl rfl (fun b17 => ?_) (fun b17 => ?_)
        · skip
          refine K_inc (pc := 83) (i := 55) (q := 3) (lo' := [(0, _), (1, _), (2, _), (3, _)]) rfl rfl rfl rfl rfl ?_
          refine K_goto 4 (pc := 86) (i := 56) rfl rfl ?_
          exact ih4 x2 (x3 + 1) _ (by omega) hI fx (by first | exact hV4.no t16 (by omega) (by omega) (by omega) | exact hV4.yes t16 (by omega) (by omega) (by omega) rfl rfl t30 t42 t54 t66 t78)
        · skip
          refine K_aload_n (pc := 20) (i := 14) rfl rfl ?_
          refine K_getR (pc := 21) (i := 15) (j := 0) (d := f + 1) rfl (S_Fl hf) rfl (by decide) rfl fw_Fleet_9 ?_
          refine K_iload_n (pc := 24) (i := 16) rfl rfl ?_
          refine K_aload_n (pc := 25) (i := 17) rfl rfl ?_
          refine K_getR (pc := 26) (i := 18) (j := 0) (d := f + 1) rfl (S_Fl hf) rfl (by decide) rfl fw_Fleet_9 ?_
          refine K_iload_n (pc := 29) (i := 19) rfl rfl ?_
          refine K_iald (pc := 30) (i := 20) rfl (S_Fl1 hf) (by omega) (by omega) (by decide) ?_
          refine K_nm (fun v30 e30 => ?_)
          have r30 := rd_town hI hf (x3).toNat
          rw [← e30] at r30
          have t30 : v30 = ha (f + 1) x3.toNat := by rw [e30]
          refine K_iast (pc := 31) (i := 21) rfl (S_Fl1 hf) (by omega) (by omega) (by decide) ?_
          have hI := st_town hI hf (i := (x2).toNat) (v := v30) (by omega)
          have fx := Fx.st (c := f + 1) (i := (x2).toNat) (v := v30) fx (by first | (dsimp only; omega) | omega | exact not_false)
          refine K_aload_n (pc := 32) (i := 22) rfl rfl ?_
          refine K_getR (pc := 33) (i := 23) (j := 1) (d := f + 2) rfl (S_Fl hf) rfl (by decide) rfl fw_Fleet_15 ?_
          refine K_iload_n (pc := 36) (i := 24) rfl rfl ?_
          refine K_aload_n (pc := 37) (i := 25) rfl rfl ?_
          refine K_getR (pc := 38) (i := 26) (j := 1) (d := f + 2) rfl (S_Fl hf) rfl (by decide) rfl fw_Fleet_15 ?_
          refine K_iload_n (pc := 41) (i := 27) rfl rfl ?_
          refine K_iald (pc := 42) (i := 28) rfl (S_Fl2 hf) (by omega) (by omega) (by decide) ?_
          refine K_nm (fun v42 e42 => ?_)
          have r42 := rd_stake hI hf (x3).toNat
          rw [← e42] at r42
          have t42 : v42 = ha (f + 2) x3.toNat := by rw [e42]; rw [kU_c _ _ _ _ (by omega)]
          refine K_iast (pc := 43) (i := 29) rfl (S_Fl2 hf) (by omega) (by omega) (by decide) ?_
          have hI := st_stake hI hf (i := (x2).toNat) (v := v42) (by omega)
          have fx := Fx.st (c := f + 2) (i := (x2).toNat) (v := v42) fx (by first | (dsimp only; omega) | omega | exact not_false)
          refine K_aload_n (pc := 44) (i := 30) rfl rfl ?_
          refine K_getR (pc := 45) (i := 31) (j := 2) (d := f + 3) rfl (S_Fl hf) rfl (by decide) rfl fw_Fleet_18 ?_
          refine K_iload_n (pc := 48) (i := 32) rfl rfl ?_
          refine K_aload_n (pc := 49) (i := 33) rfl rfl ?_
          refine K_getR (pc := 50) (i := 34) (j := 2) (d := f + 3) rfl (S_Fl hf) rfl (by decide) rfl fw_Fleet_18 ?_
          refine K_iload_n (pc := 53) (i := 35) rfl rfl ?_
          refine K_iald (pc := 54) (i := 36) rfl (S_Fl3 hf) (by omega) (by omega) (by decide) ?_
          refine K_nm (fun v54 e54 => ?_)
          have r54 := rd_x hI hf (x3).toNat
          rw [← e54] at r54
          have t54 : v54 = ha (f + 3) x3.toNat := by rw [e54]; rw [kU_c _ _ _ _ (by omega)]; rw [kU_c _ _ _ _ (by omega)]
          refine K_iast (pc := 55) (i := 37) rfl (S_Fl3 hf) (by omega) (by omega) (by decide) ?_
          have hI := st_x hI hf (i := (x2).toNat) (v := v54) (by omega)
          have fx := Fx.st (c := f + 3) (i := (x2).toNat) (v := v54) fx (by first | (dsimp only; omega) | omega | exact not_false)
          refine K_aload_n (pc := 56) (i := 38) rfl rfl ?_
          refine K_getR (pc := 57) (i := 39) (j := 3) (d := f + 4) rfl (S_Fl hf) rfl (by decide) rfl fw_Fleet_21 ?_
          refine K_iload_n (pc := 60) (i := 40) rfl rfl ?_
          refine K_aload_n (pc := 61) (i := 41) rfl rfl ?_
          refine K_getR (pc := 62) (i := 42) (j := 3) (d := f + 4) rfl (S_Fl hf) rfl (by decide) rfl fw_Fleet_21 ?_
          refine K_iload_n (pc := 65) (i := 43) rfl rfl ?_
          refine K_iald (pc := 66) (i := 44) rfl (S_Fl4 hf) (by omega) (by omega) (by decide) ?_
          refine K_nm (fun v66 e66 => ?_)
          have r66 := rd_height hI hf (x3).toNat
          rw [← e66] at r66
          have t66 : v66 = ha (f + 4) x3.toNat := by rw [e66]; rw [kU_c _ _ _ _ (by omega)]; rw [kU_c _ _ _ _ (by omega)]; rw [kU_c _ _ _ _ (by omega)]
          refine K_iast (pc := 67) (i := 45) rfl (S_Fl4 hf) (by omega) (by omega) (by decide) ?_
          have hI := st_height hI hf (i := (x2).toNat) (v := v66) (by omega)
          have fx := Fx.st (c := f + 4) (i := (x2).toNat) (v := v66) fx (by first | (dsimp only; omega) | omega | exact not_false)
          refine K_aload_n (pc := 68) (i := 46) rfl rfl ?_
          refine K_getR (pc := 69) (i := 47) (j := 4) (d := f + 5) rfl (S_Fl hf) rfl (by decide) rfl fw_Fleet_24 ?_
          refine K_iload_n (pc := 72) (i := 48) rfl rfl ?_
          refine K_aload_n (pc := 73) (i := 49) rfl rfl ?_
          refine K_getR (pc := 74) (i := 50) (j := 4) (d := f + 5) rfl (S_Fl hf) rfl (by decide) rfl fw_Fleet_24 ?_
          refine K_iload_n (pc := 77) (i := 51) rfl rfl ?_
          refine K_iald (pc := 78) (i := 52) rfl (S_Fl5 hf) (by omega) (by omega) (by decide) ?_
          refine K_nm (fun v78 e78 => ?_)
          have r78 := rd_glass hI hf (x3).toNat
          rw [← e78] at r78
          have t78 : v78 = ha (f + 5) x3.toNat := by rw [e78]; rw [kU_c _ _ _ _ (by omega)]; rw [kU_c _ _ _ _ (by omega)]; rw [kU_c _ _ _ _ (by omega)]; rw [kU_c _ _ _ _ (by omega)]
          refine K_iast (pc := 79) (i := 53) rfl (S_Fl5 hf) (by omega) (by omega) (by decide) ?_
          have hI := st_glass hI hf (i := (x2).toNat) (v := v78) (by omega)
          have fx := Fx.st (c := f + 5) (i := (x2).toNat) (v := v78) fx (by first | (dsimp only; omega) | omega | exact not_false)
          refine K_inc (pc := 80) (i := 54) (q := 2) (lo' := [(0, _), (1, _), (2, _), (3, _)]) rfl rfl rfl rfl rfl ?_
          refine K_inc (pc := 83) (i := 55) (q := 3) (lo' := [(0, _), (1, _), (2, _), (3, _)]) rfl rfl rfl rfl rfl ?_
          refine K_goto 4 (pc := 86) (i := 56) rfl rfl ?_
          exact ih4 (x2 + 1) (x3 + 1) _ (by omega) hI fx (by first | exact hV4.no t16 (by omega) (by omega) (by omega) | exact hV4.yes t16 (by omega) (by omega) (by omega) rfl rfl t30 t42 t54 t66 t78)
  exact L4 _ 0 0 _ (Nat.lt_succ_self _) hI fx ⟨by omega, by have := rd_kites hI hf; omega, rfl, DR.z⟩
set_option maxHeartbeats 4000000 in
set_option maxRecDepth 100000 in
theorem c_Fleet_ofTown (G : kG) {g : kGh} {h : kH} {f : Nat} (hf : f ∈ FL) {x1 : Int} (s1 : kR x1) (hI : Gd g h) : Ctr G y_Fleet_ofTown X_Fleet_ofTown 1 [.ref (G.2.2.2 f), kI x1] h (kQi (fun z h' => h' = h ∧ (0 ≤ z ∧ z ≤ 8) ∧ z = cnt (h (f + 1)) x1 (h f 6).toNat)) := by
  refine Ctr.ofK (by decide) rfl T_Fleet_ofTown (Nat.le_of_ble_eq_true rfl) (lo := [(0, .ref (G.2.2.2 f)), (1, kI x1)]) rfl ?_
  refine K_iconst (pc := 0) (i := 0) rfl ?_
  refine K_ist_n (pc := 1) (i := 1) (lo' := [(0, _), (1, _), (2, _)]) rfl rfl rfl rfl ?_
  refine K_iconst (pc := 2) (i := 2) rfl ?_
  refine K_ist_n (pc := 3) (i := 3) (lo' := [(0, _), (1, _), (2, _), (3, _)]) rfl rfl rfl rfl ?_
  have L4 : ∀ (n : Nat) (x2 : Int) (x3 : Int), (8 - x3).toNat < n → ((0 ≤ x2 ∧ x2 ≤ x3 ∧ x3 ≤ 8) ∧ x3 ≤ h f 6 ∧ x2 = cnt (h (f + 1)) x1 x3.toNat) → K X_Fleet_ofTown G (kZm G 1 (kQi (fun z h' => h' = h ∧ (0 ≤ z ∧ z ≤ 8) ∧ z = cnt (h (f + 1)) x1 (h f 6).toNat))) 4 [(0, .ref (G.2.2.2 f)), (1, kI x1), (2, kI x2), (3, kI x3)] [] h := by
    intro n
    induction n with
    | zero => intro x2 x3 hm; exact absurd hm (Nat.not_lt_zero _)
    | succ n ih4 =>
      intro x2 x3 hm4 hV4
      refine K_iload_n (pc := 4) (i := 4) rfl rfl ?_
      refine K_aload_n (pc := 5) (i := 5) rfl rfl ?_
      refine K_getI (pc := 6) (i := 6) (j := 6) rfl (S_Fl hf) rfl (by decide) rfl fw_Fleet_30 ?_
      refine K_nm (fun v6 e6 => ?_)
      have r6 := rd_kites hI hf
      rw [← e6] at r6
      first | refine K_icmp_ge 31 (pc := 9) (i := 7) rfl rfl (by omega) (by omega) (fun b9 => ?_) (fun b9 => ?_) | refine K_icmp_ge_an 31 (pc := 9) (i := 7) rfl rfl (fun b9 => ?_) (fun b9 => ?_)
      · skip
        refine K_iload_n (pc := 31) (i := 17) rfl rfl ?_
        exact K_retI (pc := 32) (i := 18) rfl rfl ⟨rfl, by omega, by rw [show (h f 6).toNat = x3.toNat by omega]; exact hV4.2.2⟩
      · skip
        refine K_aload_n (pc := 12) (i := 8) rfl rfl ?_
        refine K_getR (pc := 13) (i := 9) (j := 0) (d := f + 1) rfl (S_Fl hf) rfl (by decide) rfl fw_Fleet_9 ?_
        refine K_iload_n (pc := 16) (i := 10) rfl rfl ?_
        refine K_iald (pc := 17) (i := 11) rfl (S_Fl1 hf) (by omega) (by omega) (by decide) ?_
        refine K_nm (fun v17 e17 => ?_)
        have r17 := rd_town hI hf (x3).toNat
        rw [← e17] at r17
        refine K_iload_n (pc := 18) (i := 12) rfl rfl ?_
        first | refine K_icmp_ne 25 (pc := 19) (i := 13) rfl rfl (by omega) (by omega) (fun b19 => ?_) (fun b19 => ?_) | refine K_icmp_ne_an 25 (pc := 19) (i := 13) rfl rfl (fun b19 => ?_) (fun b19 => ?_)
        · skip
          refine K_inc (pc := 25) (i := 15) (q := 3) (lo' := [(0, _), (1, _), (2, _), (3, _)]) rfl rfl rfl rfl rfl ?_
          refine K_goto 4 (pc := 28) (i := 16) rfl rfl ?_
          exact ih4 x2 (x3 + 1) (by omega) ⟨by omega, by omega, by rw [show (x3 + 1).toNat = x3.toNat + 1 by omega, cnt, ← e17]; split <;> omega⟩
        · skip
          refine K_inc (pc := 22) (i := 14) (q := 2) (lo' := [(0, _), (1, _), (2, _), (3, _)]) rfl rfl rfl rfl rfl ?_
          refine K_inc (pc := 25) (i := 15) (q := 3) (lo' := [(0, _), (1, _), (2, _), (3, _)]) rfl rfl rfl rfl rfl ?_
          refine K_goto 4 (pc := 28) (i := 16) rfl rfl ?_
          exact ih4 (x2 + 1) (x3 + 1) (by omega) ⟨by omega, by omega, by rw [show (x3 + 1).toNat = x3.toNat + 1 by omega, cnt, ← e17]; split <;> omega⟩
  exact L4 _ 0 0 (Nat.lt_succ_self _) ⟨by omega, by have := rd_kites hI hf; omega, rfl⟩
set_option maxHeartbeats 4000000 in
set_option maxRecDepth 100000 in
theorem c_Fleet_hasStake (G : kG) {g : kGh} {h : kH} {f : Nat} (hf : f ∈ FL) {x1 : Int} (s1 : kR x1) (hI : Gd g h) : Ctr G y_Fleet_hasStake X_Fleet_hasStake 1 [.ref (G.2.2.2 f), kI x1] h (kQi (fun z h' => h' = h ∧ ((z = 1 ∧ hsF h f x1) ∨ (z = 0 ∧ ¬ hsF h f x1)))) := by
  refine Ctr.ofK (by decide) rfl T_Fleet_hasStake (Nat.le_of_ble_eq_true rfl) (lo := [(0, .ref (G.2.2.2 f)), (1, kI x1)]) rfl ?_
  refine K_iconst (pc := 0) (i := 0) rfl ?_
  refine K_ist_n (pc := 1) (i := 1) (lo' := [(0, _), (1, _), (2, _)]) rfl rfl rfl rfl ?_
  have L2 : ∀ (n : Nat) (x2 : Int), (8 - x2).toNat < n → ((0 ≤ x2 ∧ x2 ≤ 8) ∧ ∀ i : Nat, (i : Int) < x2 → h (f + 2) i ≠ x1) → K X_Fleet_hasStake G (kZm G 1 (kQi (fun z h' => h' = h ∧ ((z = 1 ∧ hsF h f x1) ∨ (z = 0 ∧ ¬ hsF h f x1))))) 2 [(0, .ref (G.2.2.2 f)), (1, kI x1), (2, kI x2)] [] h := by
    intro n
    induction n with
    | zero => intro x2 hm; exact absurd hm (Nat.not_lt_zero _)
    | succ n ih2 =>
      intro x2 hm2 hV2
      refine K_iload_n (pc := 2) (i := 2) rfl rfl ?_
      refine K_aload_n (pc := 3) (i := 3) rfl rfl ?_
      refine K_getI (pc := 4) (i := 4) (j := 6) rfl (S_Fl hf) rfl (by decide) rfl fw_Fleet_30 ?_
      refine K_nm (fun v4 e4 => ?_)
      have r4 := rd_kites hI hf
      rw [← e4] at r4
      first | refine K_icmp_ge 28 (pc := 7) (i := 5) rfl rfl (by omega) (by omega) (fun b7 => ?_) (fun b7 => ?_) | refine K_icmp_ge_an 28 (pc := 7) (i := 5) rfl rfl (fun b7 => ?_) (fun b7 => ?_)
      · skip
        refine K_iconst (pc := 28) (i := 16) rfl ?_
        exact K_retZ (pc := 29) (i := 17) rfl rfl (by omega) ⟨rfl, Or.inr ⟨rfl, fun ⟨i, a, b⟩ => hV2.2 i (by omega) b⟩⟩
      · skip
        refine K_aload_n (pc := 10) (i := 6) rfl rfl ?_
        refine K_getR (pc := 11) (i := 7) (j := 1) (d := f + 2) rfl (S_Fl hf) rfl (by decide) rfl fw_Fleet_15 ?_
        refine K_iload_n (pc := 14) (i := 8) rfl rfl ?_
        refine K_iald (pc := 15) (i := 9) rfl (S_Fl2 hf) (by omega) (by omega) (by decide) ?_
        refine K_nm (fun v15 e15 => ?_)
        have r15 := rd_stake hI hf (x2).toNat
        rw [← e15] at r15
        refine K_iload_n (pc := 16) (i := 10) rfl rfl ?_
        first | refine K_icmp_ne 22 (pc := 17) (i := 11) rfl rfl (by omega) (by omega) (fun b17 => ?_) (fun b17 => ?_) | refine K_icmp_ne_an 22 (pc := 17) (i := 11) rfl rfl (fun b17 => ?_) (fun b17 => ?_)
        · skip
          refine K_inc (pc := 22) (i := 14) (q := 2) (lo' := [(0, _), (1, _), (2, _)]) rfl rfl rfl rfl rfl ?_
          refine K_goto 2 (pc := 25) (i := 15) rfl rfl ?_
          exact ih2 (x2 + 1) (by omega) ⟨by omega, fun i hi => if q : i = x2.toNat then (by rw [q, ← e15]; omega) else hV2.2 i (by omega)⟩
        · skip
          refine K_iconst (pc := 20) (i := 12) rfl ?_
          exact K_retZ (pc := 21) (i := 13) rfl rfl (by omega) ⟨rfl, Or.inl ⟨rfl, x2.toNat, by omega, by rw [← e15]; omega⟩⟩
  exact L2 _ 0 (Nat.lt_succ_self _) ⟨by omega, fun i hi => absurd hi (by omega)⟩
set_option maxHeartbeats 4000000 in
set_option maxRecDepth 100000 in
theorem c_Fleet_linesMeet (G : kG)  {h : kH} {x0 : Int} {x1 : Int} {x2 : Int} {x3 : Int} {x4 : Int} {x5 : Int} (s0 : 0 ≤ x0 ∧ x0 ≤ 40) (s1 : 0 ≤ x1 ∧ x1 ≤ 40) (s2 : 0 ≤ x2 ∧ x2 ≤ 9) (s3 : 0 ≤ x3 ∧ x3 ≤ 40) (s4 : 0 ≤ x4 ∧ x4 ≤ 40) (s5 : 0 ≤ x5 ∧ x5 ≤ 9) : Ctr G y_Fleet_linesMeet X_Fleet_linesMeet 2 [kI x0, kI x1, kI x2, kI x3, kI x4, kI x5] h (kQi (fun z h' => h' = h ∧ ((z = 1 ∧ crC x0 x1 x2 x3 x4 x5) ∨ (z = 0 ∧ ¬ crC x0 x1 x2 x3 x4 x5)))) := by
  refine Ctr.ofK (by decide) rfl T_Fleet_linesMeet (Nat.le_of_ble_eq_true rfl) (lo := [(0, kI x0), (1, kI x1), (2, kI x2), (3, kI x3), (4, kI x4), (5, kI x5)]) rfl ?_
  refine K_iload_n (pc := 0) (i := 0) rfl rfl ?_
  refine K_iload (pc := 1) (i := 1) rfl rfl ?_
  first | refine K_icmp_gt 24 (pc := 3) (i := 2) rfl rfl (by omega) (by omega) (fun b3 => ?_) (fun b3 => ?_) | refine K_icmp_gt_an 24 (pc := 3) (i := 2) rfl rfl (fun b3 => ?_) (fun b3 => ?_)
  · skip
    refine K_iload_n (pc := 24) (i := 16) rfl rfl ?_
    refine K_iload_n (pc := 25) (i := 17) rfl rfl ?_
    refine K_isub (pc := 26) (i := 18) rfl ?_
    refine K_iload (pc := 27) (i := 19) rfl rfl ?_
    refine K_imul (pc := 29) (i := 20) rfl ?_
    refine K_nm (fun v29 e29 => ?_)
    have u29 := mul_bd (A := 40) (B := 9) (a := x1 - x0) (b := x5) (by omega) (by omega)
    rw [← e29] at u29
    refine K_iload (pc := 30) (i := 21) rfl rfl ?_
    refine K_iload_n (pc := 32) (i := 22) rfl rfl ?_
    refine K_isub (pc := 33) (i := 23) rfl ?_
    refine K_iload_n (pc := 34) (i := 24) rfl rfl ?_
    refine K_imul (pc := 35) (i := 25) rfl ?_
    refine K_nm (fun v35 e35 => ?_)
    have u35 := mul_bd (A := 40) (B := 9) (a := x4 - x0) (b := x2) (by omega) (by omega)
    rw [← e35] at u35
    refine K_isub (pc := 36) (i := 26) rfl ?_
    refine K_ist (pc := 37) (i := 27) (lo' := [(0, _), (1, _), (2, _), (3, _), (4, _), (5, _), (6, _)]) rfl rfl rfl rfl ?_
    refine K_iload_n (pc := 39) (i := 28) rfl rfl ?_
    refine K_iload_n (pc := 40) (i := 29) rfl rfl ?_
    refine K_isub (pc := 41) (i := 30) rfl ?_
    refine K_cSI (pc := 42) (i := 31) rfl (c_Integer_signum G (x0 := x0 - x3)) (ls_Fleet_44 rfl) rfl rfl rfl rfl (fun v42 h42 q42 => ?_)
    obtain ⟨eh, r42⟩ := q42
    rw [eh]; clear eh
    have s42 : v42 = (x0 - x3).sign := r42.2 (by omega) (by omega)
    have t42 : v42 = -1 ∨ v42 = 0 ∨ v42 = 1 := by rw [s42]; exact sg3 _
    refine K_iload (pc := 45) (i := 32) rfl rfl ?_
    refine K_imul (pc := 47) (i := 33) rfl ?_
    refine K_nm (fun v47 e47 => ?_)
    have u47 : -2000 ≤ v47 ∧ v47 ≤ 2000 := by rw [e47]; rcases t42 with q | q | q <;> rw [q] <;> omega
    first | refine K_if_gt 55 (pc := 48) (i := 34) rfl rfl (by omega) (fun b48 => ?_) (fun b48 => ?_) | refine K_if_gt_an 55 (pc := 48) (i := 34) rfl rfl (fun b48 => ?_) (fun b48 => ?_)
    · skip
      refine K_iconst (pc := 55) (i := 37) rfl ?_
      exact K_retZ (pc := 56) (i := 38) rfl rfl (by omega) ⟨rfl, by first | exact Or.inl ⟨rfl, (crC_le (by omega)).2 (by rw [← s42, ← e11, ← e17, ← e47]; omega)⟩ | exact Or.inr ⟨rfl, fun q => absurd ((crC_le (by omega)).1 q) (by rw [← s42, ← e11, ← e17, ← e47]; omega)⟩ | exact Or.inl ⟨rfl, (crC_gt (by omega)).2 (by rw [← s42, ← e29, ← e35, ← e47]; omega)⟩ | exact Or.inr ⟨rfl, fun q => absurd ((crC_gt (by omega)).1 q) (by rw [← s42, ← e29, ← e35, ← e47]; omega)⟩⟩
    · skip
      refine K_iconst (pc := 51) (i := 35) rfl ?_
      refine K_goto 56 (pc := 52) (i := 36) rfl rfl ?_
      exact K_retZ (pc := 56) (i := 38) rfl rfl (by omega) ⟨rfl, by first | exact Or.inl ⟨rfl, (crC_le (by omega)).2 (by rw [← s42, ← e11, ← e17, ← e47]; omega)⟩ | exact Or.inr ⟨rfl, fun q => absurd ((crC_le (by omega)).1 q) (by rw [← s42, ← e11, ← e17, ← e47]; omega)⟩ | exact Or.inl ⟨rfl, (crC_gt (by omega)).2 (by rw [← s42, ← e29, ← e35, ← e47]; omega)⟩ | exact Or.inr ⟨rfl, fun q => absurd ((crC_gt (by omega)).1 q) (by rw [← s42, ← e29, ← e35, ← e47]; omega)⟩⟩
  · skip
    refine K_iload_n (pc := 6) (i := 3) rfl rfl ?_
    refine K_iload_n (pc := 7) (i := 4) rfl rfl ?_
    refine K_isub (pc := 8) (i := 5) rfl ?_
    refine K_iload (pc := 9) (i := 6) rfl rfl ?_
    refine K_imul (pc := 11) (i := 7) rfl ?_
    refine K_nm (fun v11 e11 => ?_)
    have u11 := mul_bd (A := 40) (B := 9) (a := x1 - x3) (b := x5) (by omega) (by omega)
    rw [← e11] at u11
    refine K_iload (pc := 12) (i := 8) rfl rfl ?_
    refine K_iload_n (pc := 14) (i := 9) rfl rfl ?_
    refine K_isub (pc := 15) (i := 10) rfl ?_
    refine K_iload_n (pc := 16) (i := 11) rfl rfl ?_
    refine K_imul (pc := 17) (i := 12) rfl ?_
    refine K_nm (fun v17 e17 => ?_)
    have u17 := mul_bd (A := 40) (B := 9) (a := x4 - x3) (b := x2) (by omega) (by omega)
    rw [← e17] at u17
    refine K_isub (pc := 18) (i := 13) rfl ?_
    refine K_ist (pc := 19) (i := 14) (lo' := [(0, _), (1, _), (2, _), (3, _), (4, _), (5, _), (6, _)]) rfl rfl rfl rfl ?_
    refine K_goto 39 (pc := 21) (i := 15) rfl rfl ?_
    refine K_iload_n (pc := 39) (i := 28) rfl rfl ?_
    refine K_iload_n (pc := 40) (i := 29) rfl rfl ?_
    refine K_isub (pc := 41) (i := 30) rfl ?_
    refine K_cSI (pc := 42) (i := 31) rfl (c_Integer_signum G (x0 := x0 - x3)) (ls_Fleet_44 rfl) rfl rfl rfl rfl (fun v42 h42 q42 => ?_)
    obtain ⟨eh, r42⟩ := q42
    rw [eh]; clear eh
    have s42 : v42 = (x0 - x3).sign := r42.2 (by omega) (by omega)
    have t42 : v42 = -1 ∨ v42 = 0 ∨ v42 = 1 := by rw [s42]; exact sg3 _
    refine K_iload (pc := 45) (i := 32) rfl rfl ?_
    refine K_imul (pc := 47) (i := 33) rfl ?_
    refine K_nm (fun v47 e47 => ?_)
    have u47 : -2000 ≤ v47 ∧ v47 ≤ 2000 := by rw [e47]; rcases t42 with q | q | q <;> rw [q] <;> omega
    first | refine K_if_gt 55 (pc := 48) (i := 34) rfl rfl (by omega) (fun b48 => ?_) (fun b48 => ?_) | refine K_if_gt_an 55 (pc := 48) (i := 34) rfl rfl (fun b48 => ?_) (fun b48 => ?_)
    · skip
      refine K_iconst (pc := 55) (i := 37) rfl ?_
      exact K_retZ (pc := 56) (i := 38) rfl rfl (by omega) ⟨rfl, by first | exact Or.inl ⟨rfl, (crC_le (by omega)).2 (by rw [← s42, ← e11, ← e17, ← e47]; omega)⟩ | exact Or.inr ⟨rfl, fun q => absurd ((crC_le (by omega)).1 q) (by rw [← s42, ← e11, ← e17, ← e47]; omega)⟩ | exact Or.inl ⟨rfl, (crC_gt (by omega)).2 (by rw [← s42, ← e29, ← e35, ← e47]; omega)⟩ | exact Or.inr ⟨rfl, fun q => absurd ((crC_gt (by omega)).1 q) (by rw [← s42, ← e29, ← e35, ← e47]; omega)⟩⟩
    · skip
      refine K_iconst (pc := 51) (i := 35) rfl ?_
      refine K_goto 56 (pc := 52) (i := 36) rfl rfl ?_
      exact K_retZ (pc := 56) (i := 38) rfl rfl (by omega) ⟨rfl, by first | exact Or.inl ⟨rfl, (crC_le (by omega)).2 (by rw [← s42, ← e11, ← e17, ← e47]; omega)⟩ | exact Or.inr ⟨rfl, fun q => absurd ((crC_le (by omega)).1 q) (by rw [← s42, ← e11, ← e17, ← e47]; omega)⟩ | exact Or.inl ⟨rfl, (crC_gt (by omega)).2 (by rw [← s42, ← e29, ← e35, ← e47]; omega)⟩ | exact Or.inr ⟨rfl, fun q => absurd ((crC_gt (by omega)).1 q) (by rw [← s42, ← e29, ← e35, ← e47]; omega)⟩⟩
set_option maxHeartbeats 4000000 in
set_option maxRecDepth 100000 in
theorem c_Fleet_meet (G : kG) {g : kGh} {h : kH} {f : Nat} (hf : f ∈ FL) {x1 : Int} {x2 : Int} (s1 : 0 ≤ x1 ∧ x1 ≤ 7) (s2 : 0 ≤ x2 ∧ x2 ≤ 7) (hI : Gd g h) : Ctr G y_Fleet_meet X_Fleet_meet 3 [.ref (G.2.2.2 f), kI x1, kI x2] h (kQi (fun z h' => h' = h ∧ ((z = 1 ∧ mt h f x1.toNat x2.toNat) ∨ (z = 0 ∧ ¬ mt h f x1.toNat x2.toNat)))) := by
  refine Ctr.ofK (by decide) rfl T_Fleet_meet (Nat.le_of_ble_eq_true rfl) (lo := [(0, .ref (G.2.2.2 f)), (1, kI x1), (2, kI x2)]) rfl ?_
  refine K_aload_n (pc := 0) (i := 0) rfl rfl ?_
  refine K_getR (pc := 1) (i := 1) (j := 1) (d := f + 2) rfl (S_Fl hf) rfl (by decide) rfl fw_Fleet_15 ?_
  refine K_iload_n (pc := 4) (i := 2) rfl rfl ?_
  refine K_iald (pc := 5) (i := 3) rfl (S_Fl2 hf) (by omega) (by omega) (by decide) ?_
  refine K_nm (fun v5 e5 => ?_)
  have r5 := rd_stake hI hf (x1).toNat
  rw [← e5] at r5
  refine K_aload_n (pc := 6) (i := 4) rfl rfl ?_
  refine K_getR (pc := 7) (i := 5) (j := 2) (d := f + 3) rfl (S_Fl hf) rfl (by decide) rfl fw_Fleet_18 ?_
  refine K_iload_n (pc := 10) (i := 6) rfl rfl ?_
  refine K_iald (pc := 11) (i := 7) rfl (S_Fl3 hf) (by omega) (by omega) (by decide) ?_
  refine K_nm (fun v11 e11 => ?_)
  have r11 := rd_x hI hf (x1).toNat
  rw [← e11] at r11
  refine K_aload_n (pc := 12) (i := 8) rfl rfl ?_
  refine K_getR (pc := 13) (i := 9) (j := 3) (d := f + 4) rfl (S_Fl hf) rfl (by decide) rfl fw_Fleet_21 ?_
  refine K_iload_n (pc := 16) (i := 10) rfl rfl ?_
  refine K_iald (pc := 17) (i := 11) rfl (S_Fl4 hf) (by omega) (by omega) (by decide) ?_
  refine K_nm (fun v17 e17 => ?_)
  have r17 := rd_height hI hf (x1).toNat
  rw [← e17] at r17
  refine K_aload_n (pc := 18) (i := 12) rfl rfl ?_
  refine K_getR (pc := 19) (i := 13) (j := 1) (d := f + 2) rfl (S_Fl hf) rfl (by decide) rfl fw_Fleet_15 ?_
  refine K_iload_n (pc := 22) (i := 14) rfl rfl ?_
  refine K_iald (pc := 23) (i := 15) rfl (S_Fl2 hf) (by omega) (by omega) (by decide) ?_
  refine K_nm (fun v23 e23 => ?_)
  have r23 := rd_stake hI hf (x2).toNat
  rw [← e23] at r23
  refine K_aload_n (pc := 24) (i := 16) rfl rfl ?_
  refine K_getR (pc := 25) (i := 17) (j := 2) (d := f + 3) rfl (S_Fl hf) rfl (by decide) rfl fw_Fleet_18 ?_
  refine K_iload_n (pc := 28) (i := 18) rfl rfl ?_
  refine K_iald (pc := 29) (i := 19) rfl (S_Fl3 hf) (by omega) (by omega) (by decide) ?_
  refine K_nm (fun v29 e29 => ?_)
  have r29 := rd_x hI hf (x2).toNat
  rw [← e29] at r29
  refine K_aload_n (pc := 30) (i := 20) rfl rfl ?_
  refine K_getR (pc := 31) (i := 21) (j := 3) (d := f + 4) rfl (S_Fl hf) rfl (by decide) rfl fw_Fleet_21 ?_
  refine K_iload_n (pc := 34) (i := 22) rfl rfl ?_
  refine K_iald (pc := 35) (i := 23) rfl (S_Fl4 hf) (by omega) (by omega) (by decide) ?_
  refine K_nm (fun v35 e35 => ?_)
  have r35 := rd_height hI hf (x2).toNat
  rw [← e35] at r35
  refine K_cSI (pc := 36) (i := 24) rfl (c_Fleet_linesMeet G (x0 := v5) (x1 := v11) (x2 := v17) (x3 := v23) (x4 := v29) (x5 := v35) (s0 := by omega) (s1 := by omega) (s2 := by omega) (s3 := by omega) (s4 := by omega) (s5 := by omega)) (ls_Fleet_40 rfl) rfl rfl rfl rfl (fun v36 h36 q36 => ?_)
  obtain ⟨eh, r36⟩ := q36
  rw [eh]; clear eh
  exact K_retZ (pc := 39) (i := 25) rfl rfl (by omega) ⟨rfl, by unfold mt; rw [← e5, ← e11, ← e17, ← e23, ← e29, ← e35]; exact r36⟩
end
section
def trC (h : kH) (f a b : Nat) : Int := (h (f + 3) a - h (f + 2) a) * h (f + 4) b - (h (f + 3) b - h (f + 2) b) * h (f + 4) a
def mhC (h : kH) (f a b : Nat) : Int := kAbs (h (f + 2) b - h (f + 2) a) * h (f + 4) a * h (f + 4) b
def mxC (h : kH) (f a b : Nat) : Int := (h (f + 2) a * trC h f a b + (h (f + 3) a - h (f + 2) a) * (h (f + 2) b - h (f + 2) a) * h (f + 4) b) * (trC h f a b).sign
set_option maxHeartbeats 4000000 in
set_option maxRecDepth 100000 in
theorem c_Fleet_turn (G : kG) {g : kGh} {h : kH} {f : Nat} (hf : f ∈ FL) {x1 : Int} {x2 : Int} (s1 : 0 ≤ x1 ∧ x1 ≤ 7) (s2 : 0 ≤ x2 ∧ x2 ≤ 7) (hI : Gd g h) : Ctr G y_Fleet_turn X_Fleet_turn 1 [.ref (G.2.2.2 f), kI x1, kI x2] h (kQi (fun z h' => h' = h ∧ z = trC h f x1.toNat x2.toNat ∧ -720 ≤ z ∧ z ≤ 720)) := by
  refine Ctr.ofK (by decide) rfl T_Fleet_turn (Nat.le_of_ble_eq_true rfl) (lo := [(0, .ref (G.2.2.2 f)), (1, kI x1), (2, kI x2)]) rfl ?_
  refine K_aload_n (pc := 0) (i := 0) rfl rfl ?_
  refine K_getR (pc := 1) (i := 1) (j := 2) (d := f + 3) rfl (S_Fl hf) rfl (by decide) rfl fw_Fleet_18 ?_
  refine K_iload_n (pc := 4) (i := 2) rfl rfl ?_
  refine K_iald (pc := 5) (i := 3) rfl (S_Fl3 hf) (by omega) (by omega) (by decide) ?_
  refine K_nm (fun v5 e5 => ?_)
  have r5 := rd_x hI hf (x1).toNat
  rw [← e5] at r5
  refine K_aload_n (pc := 6) (i := 4) rfl rfl ?_
  refine K_getR (pc := 7) (i := 5) (j := 1) (d := f + 2) rfl (S_Fl hf) rfl (by decide) rfl fw_Fleet_15 ?_
  refine K_iload_n (pc := 10) (i := 6) rfl rfl ?_
  refine K_iald (pc := 11) (i := 7) rfl (S_Fl2 hf) (by omega) (by omega) (by decide) ?_
  refine K_nm (fun v11 e11 => ?_)
  have r11 := rd_stake hI hf (x1).toNat
  rw [← e11] at r11
  refine K_isub (pc := 12) (i := 8) rfl ?_
  refine K_aload_n (pc := 13) (i := 9) rfl rfl ?_
  refine K_getR (pc := 14) (i := 10) (j := 3) (d := f + 4) rfl (S_Fl hf) rfl (by decide) rfl fw_Fleet_21 ?_
  refine K_iload_n (pc := 17) (i := 11) rfl rfl ?_
  refine K_iald (pc := 18) (i := 12) rfl (S_Fl4 hf) (by omega) (by omega) (by decide) ?_
  refine K_nm (fun v18 e18 => ?_)
  have r18 := rd_height hI hf (x2).toNat
  rw [← e18] at r18
  refine K_imul (pc := 19) (i := 13) rfl ?_
  refine K_nm (fun v19 e19 => ?_)
  have u19 := mul_bd (A := 40) (B := 9) (a := v5 - v11) (b := v18) (by omega) (by omega)
  rw [← e19] at u19
  refine K_aload_n (pc := 20) (i := 14) rfl rfl ?_
  refine K_getR (pc := 21) (i := 15) (j := 2) (d := f + 3) rfl (S_Fl hf) rfl (by decide) rfl fw_Fleet_18 ?_
  refine K_iload_n (pc := 24) (i := 16) rfl rfl ?_
  refine K_iald (pc := 25) (i := 17) rfl (S_Fl3 hf) (by omega) (by omega) (by decide) ?_
  refine K_nm (fun v25 e25 => ?_)
  have r25 := rd_x hI hf (x2).toNat
  rw [← e25] at r25
  refine K_aload_n (pc := 26) (i := 18) rfl rfl ?_
  refine K_getR (pc := 27) (i := 19) (j := 1) (d := f + 2) rfl (S_Fl hf) rfl (by decide) rfl fw_Fleet_15 ?_
  refine K_iload_n (pc := 30) (i := 20) rfl rfl ?_
  refine K_iald (pc := 31) (i := 21) rfl (S_Fl2 hf) (by omega) (by omega) (by decide) ?_
  refine K_nm (fun v31 e31 => ?_)
  have r31 := rd_stake hI hf (x2).toNat
  rw [← e31] at r31
  refine K_isub (pc := 32) (i := 22) rfl ?_
  refine K_aload_n (pc := 33) (i := 23) rfl rfl ?_
  refine K_getR (pc := 34) (i := 24) (j := 3) (d := f + 4) rfl (S_Fl hf) rfl (by decide) rfl fw_Fleet_21 ?_
  refine K_iload_n (pc := 37) (i := 25) rfl rfl ?_
  refine K_iald (pc := 38) (i := 26) rfl (S_Fl4 hf) (by omega) (by omega) (by decide) ?_
  refine K_nm (fun v38 e38 => ?_)
  have r38 := rd_height hI hf (x1).toNat
  rw [← e38] at r38
  refine K_imul (pc := 39) (i := 27) rfl ?_
  refine K_nm (fun v39 e39 => ?_)
  have u39 := mul_bd (A := 40) (B := 9) (a := v25 - v31) (b := v38) (by omega) (by omega)
  rw [← e39] at u39
  refine K_isub (pc := 40) (i := 28) rfl ?_
  exact K_retI (pc := 41) (i := 29) rfl rfl ⟨rfl, by unfold trC; rw [← e5, ← e11, ← e18, ← e25, ← e31, ← e38, e19, e39], by omega⟩
set_option maxHeartbeats 4000000 in
set_option maxRecDepth 100000 in
theorem c_Fleet_meetingBelow (G : kG) {g : kGh} {h : kH} {f : Nat} (hf : f ∈ FL) {x1 : Int} {x2 : Int} (s1 : 0 ≤ x1 ∧ x1 ≤ 7) (s2 : 0 ≤ x2 ∧ x2 ≤ 7) (hI : Gd g h) : Ctr G y_Fleet_meetingBelow X_Fleet_meetingBelow 2 [.ref (G.2.2.2 f), kI x1, kI x2] h (kQi (fun z h' => h' = h ∧ z = kAbs (trC h f x1.toNat x2.toNat) ∧ 0 ≤ z ∧ z ≤ 720)) := by
  refine Ctr.ofK (by decide) rfl T_Fleet_meetingBelow (Nat.le_of_ble_eq_true rfl) (lo := [(0, .ref (G.2.2.2 f)), (1, kI x1), (2, kI x2)]) rfl ?_
  refine K_aload_n (pc := 0) (i := 0) rfl rfl ?_
  refine K_iload_n (pc := 1) (i := 1) rfl rfl ?_
  refine K_iload_n (pc := 2) (i := 2) rfl rfl ?_
  refine K_cVI (pc := 3) (i := 3) rfl (c_Fleet_turn G (f := f) (hf := hf) (x1 := x1) (x2 := x2) (hI := hI) (s1 := by omega) (s2 := by omega)) (S_Fl hf) rfl (lv_Fleet_50 rfl) rfl rfl rfl rfl rfl (fun v3 h3 q3 => ?_)
  obtain ⟨eh, r3⟩ := q3
  rw [eh]; clear eh
  refine K_mabs (pc := 6) (i := 4) rfl mw_Fleet_54 (by omega) (Nat.le_of_ble_eq_true rfl) ⟨Nat.le_of_ble_eq_true rfl, Nat.le_of_ble_eq_true rfl⟩ ⟨Nat.le_of_ble_eq_true rfl, Nat.le_of_ble_eq_true rfl⟩ ?_
  refine K_nm (fun v6 e6 => ?_)
  have r6 := kAbs_r (a := v3) (by omega)
  rw [← e6] at r6
  exact K_retI (pc := 9) (i := 5) rfl rfl ⟨rfl, by rw [e6, r3.1], by omega⟩
set_option maxHeartbeats 4000000 in
set_option maxRecDepth 100000 in
theorem c_Fleet_meetingHeight (G : kG) {g : kGh} {h : kH} {f : Nat} (hf : f ∈ FL) {x1 : Int} {x2 : Int} (s1 : 0 ≤ x1 ∧ x1 ≤ 7) (s2 : 0 ≤ x2 ∧ x2 ≤ 7) (hI : Gd g h) : Ctr G y_Fleet_meetingHeight X_Fleet_meetingHeight 2 [.ref (G.2.2.2 f), kI x1, kI x2] h (kQi (fun z h' => h' = h ∧ z = mhC h f x1.toNat x2.toNat ∧ 0 ≤ z ∧ z ≤ 3240)) := by
  refine Ctr.ofK (by decide) rfl T_Fleet_meetingHeight (Nat.le_of_ble_eq_true rfl) (lo := [(0, .ref (G.2.2.2 f)), (1, kI x1), (2, kI x2)]) rfl ?_
  refine K_aload_n (pc := 0) (i := 0) rfl rfl ?_
  refine K_getR (pc := 1) (i := 1) (j := 1) (d := f + 2) rfl (S_Fl hf) rfl (by decide) rfl fw_Fleet_15 ?_
  refine K_iload_n (pc := 4) (i := 2) rfl rfl ?_
  refine K_iald (pc := 5) (i := 3) rfl (S_Fl2 hf) (by omega) (by omega) (by decide) ?_
  refine K_nm (fun v5 e5 => ?_)
  have r5 := rd_stake hI hf (x2).toNat
  rw [← e5] at r5
  refine K_aload_n (pc := 6) (i := 4) rfl rfl ?_
  refine K_getR (pc := 7) (i := 5) (j := 1) (d := f + 2) rfl (S_Fl hf) rfl (by decide) rfl fw_Fleet_15 ?_
  refine K_iload_n (pc := 10) (i := 6) rfl rfl ?_
  refine K_iald (pc := 11) (i := 7) rfl (S_Fl2 hf) (by omega) (by omega) (by decide) ?_
  refine K_nm (fun v11 e11 => ?_)
  have r11 := rd_stake hI hf (x1).toNat
  rw [← e11] at r11
  refine K_isub (pc := 12) (i := 8) rfl ?_
  refine K_mabs (pc := 13) (i := 9) rfl mw_Fleet_54 (by omega) (Nat.le_of_ble_eq_true rfl) ⟨Nat.le_of_ble_eq_true rfl, Nat.le_of_ble_eq_true rfl⟩ ⟨Nat.le_of_ble_eq_true rfl, Nat.le_of_ble_eq_true rfl⟩ ?_
  refine K_nm (fun v13 e13 => ?_)
  have r13 := kAbs_r (a := v5 - v11) (by omega)
  rw [← e13] at r13
  refine K_aload_n (pc := 16) (i := 10) rfl rfl ?_
  refine K_getR (pc := 17) (i := 11) (j := 3) (d := f + 4) rfl (S_Fl hf) rfl (by decide) rfl fw_Fleet_21 ?_
  refine K_iload_n (pc := 20) (i := 12) rfl rfl ?_
  refine K_iald (pc := 21) (i := 13) rfl (S_Fl4 hf) (by omega) (by omega) (by decide) ?_
  refine K_nm (fun v21 e21 => ?_)
  have r21 := rd_height hI hf (x1).toNat
  rw [← e21] at r21
  refine K_imul (pc := 22) (i := 14) rfl ?_
  refine K_nm (fun v22 e22 => ?_)
  have u22 := mul_bd (A := 40) (B := 9) (a := v13) (b := v21) (by omega) (by omega)
  rw [← e22] at u22
  have p22 := Int.mul_nonneg (a := v13) (b := v21) (by omega) (by omega)
  rw [← e22] at p22
  refine K_aload_n (pc := 23) (i := 15) rfl rfl ?_
  refine K_getR (pc := 24) (i := 16) (j := 3) (d := f + 4) rfl (S_Fl hf) rfl (by decide) rfl fw_Fleet_21 ?_
  refine K_iload_n (pc := 27) (i := 17) rfl rfl ?_
  refine K_iald (pc := 28) (i := 18) rfl (S_Fl4 hf) (by omega) (by omega) (by decide) ?_
  refine K_nm (fun v28 e28 => ?_)
  have r28 := rd_height hI hf (x2).toNat
  rw [← e28] at r28
  refine K_imul (pc := 29) (i := 19) rfl ?_
  refine K_nm (fun v29 e29 => ?_)
  have u29 := mul_bd (A := 360) (B := 9) (a := v22) (b := v28) (by omega) (by omega)
  rw [← e29] at u29
  have p29 := Int.mul_nonneg (a := v22) (b := v28) (by omega) (by omega)
  rw [← e29] at p29
  exact K_retI (pc := 30) (i := 20) rfl rfl ⟨rfl, by unfold mhC; rw [← e5, ← e11, ← e21, ← e28, ← e13, ← e22, ← e29], by omega⟩
set_option maxHeartbeats 4000000 in
set_option maxRecDepth 100000 in
theorem c_Fleet_meetingX (G : kG) {g : kGh} {h : kH} {f : Nat} (hf : f ∈ FL) {x1 : Int} {x2 : Int} (s1 : 0 ≤ x1 ∧ x1 ≤ 7) (s2 : 0 ≤ x2 ∧ x2 ≤ 7) (hI : Gd g h) : Ctr G y_Fleet_meetingX X_Fleet_meetingX 2 [.ref (G.2.2.2 f), kI x1, kI x2] h (kQi (fun z h' => h' = h ∧ z = mxC h f x1.toNat x2.toNat ∧ -43200 ≤ z ∧ z ≤ 43200)) := by
  refine Ctr.ofK (by decide) rfl T_Fleet_meetingX (Nat.le_of_ble_eq_true rfl) (lo := [(0, .ref (G.2.2.2 f)), (1, kI x1), (2, kI x2)]) rfl ?_
  refine K_aload_n (pc := 0) (i := 0) rfl rfl ?_
  refine K_iload_n (pc := 1) (i := 1) rfl rfl ?_
  refine K_iload_n (pc := 2) (i := 2) rfl rfl ?_
  refine K_cVI (pc := 3) (i := 3) rfl (c_Fleet_turn G (f := f) (hf := hf) (x1 := x1) (x2 := x2) (hI := hI) (s1 := by omega) (s2 := by omega)) (S_Fl hf) rfl (lv_Fleet_50 rfl) rfl rfl rfl rfl rfl (fun v3 h3 q3 => ?_)
  obtain ⟨eh, r3⟩ := q3
  rw [eh]; clear eh
  refine K_ist_n (pc := 6) (i := 4) (lo' := [(0, _), (1, _), (2, _), (3, _)]) rfl rfl rfl rfl ?_
  refine K_aload_n (pc := 7) (i := 5) rfl rfl ?_
  refine K_getR (pc := 8) (i := 6) (j := 2) (d := f + 3) rfl (S_Fl hf) rfl (by decide) rfl fw_Fleet_18 ?_
  refine K_iload_n (pc := 11) (i := 7) rfl rfl ?_
  refine K_iald (pc := 12) (i := 8) rfl (S_Fl3 hf) (by omega) (by omega) (by decide) ?_
  refine K_nm (fun v12 e12 => ?_)
  have r12 := rd_x hI hf (x1).toNat
  rw [← e12] at r12
  refine K_aload_n (pc := 13) (i := 9) rfl rfl ?_
  refine K_getR (pc := 14) (i := 10) (j := 1) (d := f + 2) rfl (S_Fl hf) rfl (by decide) rfl fw_Fleet_15 ?_
  refine K_iload_n (pc := 17) (i := 11) rfl rfl ?_
  refine K_iald (pc := 18) (i := 12) rfl (S_Fl2 hf) (by omega) (by omega) (by decide) ?_
  refine K_nm (fun v18 e18 => ?_)
  have r18 := rd_stake hI hf (x1).toNat
  rw [← e18] at r18
  refine K_isub (pc := 19) (i := 13) rfl ?_
  refine K_aload_n (pc := 20) (i := 14) rfl rfl ?_
  refine K_getR (pc := 21) (i := 15) (j := 1) (d := f + 2) rfl (S_Fl hf) rfl (by decide) rfl fw_Fleet_15 ?_
  refine K_iload_n (pc := 24) (i := 16) rfl rfl ?_
  refine K_iald (pc := 25) (i := 17) rfl (S_Fl2 hf) (by omega) (by omega) (by decide) ?_
  refine K_nm (fun v25 e25 => ?_)
  have r25 := rd_stake hI hf (x2).toNat
  rw [← e25] at r25
  refine K_aload_n (pc := 26) (i := 18) rfl rfl ?_
  refine K_getR (pc := 27) (i := 19) (j := 1) (d := f + 2) rfl (S_Fl hf) rfl (by decide) rfl fw_Fleet_15 ?_
  refine K_iload_n (pc := 30) (i := 20) rfl rfl ?_
  refine K_iald (pc := 31) (i := 21) rfl (S_Fl2 hf) (by omega) (by omega) (by decide) ?_
  refine K_nm (fun v31 e31 => ?_)
  have r31 := rd_stake hI hf (x1).toNat
  rw [← e31] at r31
  refine K_isub (pc := 32) (i := 22) rfl ?_
  refine K_imul (pc := 33) (i := 23) rfl ?_
  refine K_nm (fun v33 e33 => ?_)
  have u33 := mul_bd (A := 40) (B := 40) (a := v12 - v18) (b := v25 - v31) (by omega) (by omega)
  rw [← e33] at u33
  refine K_aload_n (pc := 34) (i := 24) rfl rfl ?_
  refine K_getR (pc := 35) (i := 25) (j := 3) (d := f + 4) rfl (S_Fl hf) rfl (by decide) rfl fw_Fleet_21 ?_
  refine K_iload_n (pc := 38) (i := 26) rfl rfl ?_
  refine K_iald (pc := 39) (i := 27) rfl (S_Fl4 hf) (by omega) (by omega) (by decide) ?_
  refine K_nm (fun v39 e39 => ?_)
  have r39 := rd_height hI hf (x2).toNat
  rw [← e39] at r39
  refine K_imul (pc := 40) (i := 28) rfl ?_
  refine K_nm (fun v40 e40 => ?_)
  have u40 := mul_bd (A := 1600) (B := 9) (a := v33) (b := v39) (by omega) (by omega)
  rw [← e40] at u40
  refine K_ist (pc := 41) (i := 29) (lo' := [(0, _), (1, _), (2, _), (3, _), (4, _)]) rfl rfl rfl rfl ?_
  refine K_aload_n (pc := 43) (i := 30) rfl rfl ?_
  refine K_getR (pc := 44) (i := 31) (j := 1) (d := f + 2) rfl (S_Fl hf) rfl (by decide) rfl fw_Fleet_15 ?_
  refine K_iload_n (pc := 47) (i := 32) rfl rfl ?_
  refine K_iald (pc := 48) (i := 33) rfl (S_Fl2 hf) (by omega) (by omega) (by decide) ?_
  refine K_nm (fun v48 e48 => ?_)
  have r48 := rd_stake hI hf (x1).toNat
  rw [← e48] at r48
  refine K_iload_n (pc := 49) (i := 34) rfl rfl ?_
  refine K_imul (pc := 50) (i := 35) rfl ?_
  refine K_nm (fun v50 e50 => ?_)
  have u50 := mul_bd (A := 40) (B := 720) (a := v48) (b := v3) (by omega) (by omega)
  rw [← e50] at u50
  refine K_iload (pc := 51) (i := 36) rfl rfl ?_
  refine K_iadd (pc := 53) (i := 37) rfl ?_
  refine K_iload_n (pc := 54) (i := 38) rfl rfl ?_
  refine K_cSI (pc := 55) (i := 39) rfl (c_Integer_signum G (x0 := v3)) (ls_Fleet_44 rfl) rfl rfl rfl rfl (fun v55 h55 q55 => ?_)
  obtain ⟨eh, r55⟩ := q55
  rw [eh]; clear eh
  have s55 : v55 = v3.sign := r55.2 (by omega) (by omega)
  have t55 : v55 = -1 ∨ v55 = 0 ∨ v55 = 1 := by rw [s55]; exact sg3 _
  refine K_imul (pc := 58) (i := 40) rfl ?_
  refine K_nm (fun v58 e58 => ?_)
  have u58 : -43200 ≤ v58 ∧ v58 ≤ 43200 := by rw [e58]; rcases t55 with q | q | q <;> rw [q] <;> omega
  exact K_retI (pc := 59) (i := 41) rfl rfl ⟨rfl, by unfold mxC; rw [e58, s55, e50, e40, e33, r3.1, e12, e18, e25, e31, e39, e48], by omega⟩
end
section
set_option maxHeartbeats 4000000 in
set_option maxRecDepth 100000 in
theorem c_War_isWithin (G : kG)  {h : kH} {x0 : Int} {x1 : Int} {x2 : Int} (s0 : kR x0) (s1 : kR x1) (s2 : kR x2) : Ctr G y_War_isWithin X_War_isWithin 1 [kI x0, kI x1, kI x2] h (kQi (fun z h' => h' = h ∧ ((z = 1 ∧ x1 ≤ x0 ∧ x0 ≤ x2) ∨ (z = 0 ∧ (x0 < x1 ∨ x2 < x0))))) := by
  refine Ctr.ofK (by decide) rfl T_War_isWithin (Nat.le_of_ble_eq_true rfl) (lo := [(0, kI x0), (1, kI x1), (2, kI x2)]) rfl ?_
  refine K_iload_n (pc := 0) (i := 0) rfl rfl ?_
  refine K_iload_n (pc := 1) (i := 1) rfl rfl ?_
  first | refine K_icmp_lt 14 (pc := 2) (i := 2) rfl rfl (by omega) (by omega) (fun b2 => ?_) (fun b2 => ?_) | refine K_icmp_lt_an 14 (pc := 2) (i := 2) rfl rfl (fun b2 => ?_) (fun b2 => ?_)
  · skip
    refine K_iconst (pc := 14) (i := 8) rfl ?_
    exact K_retZ (pc := 15) (i := 9) rfl rfl (by omega) ⟨rfl, by omega⟩
  · skip
    refine K_iload_n (pc := 5) (i := 3) rfl rfl ?_
    refine K_iload_n (pc := 6) (i := 4) rfl rfl ?_
    first | refine K_icmp_gt 14 (pc := 7) (i := 5) rfl rfl (by omega) (by omega) (fun b7 => ?_) (fun b7 => ?_) | refine K_icmp_gt_an 14 (pc := 7) (i := 5) rfl rfl (fun b7 => ?_) (fun b7 => ?_)
    · skip
      refine K_iconst (pc := 14) (i := 8) rfl ?_
      exact K_retZ (pc := 15) (i := 9) rfl rfl (by omega) ⟨rfl, by omega⟩
    · skip
      refine K_iconst (pc := 10) (i := 6) rfl ?_
      refine K_goto 15 (pc := 11) (i := 7) rfl rfl ?_
      exact K_retZ (pc := 15) (i := 9) rfl rfl (by omega) ⟨rfl, by omega⟩
set_option maxHeartbeats 4000000 in
set_option maxRecDepth 100000 in
theorem c_War_isTown (G : kG)  {h : kH} {x0 : Int} (s0 : kR x0) : Ctr G y_War_isTown X_War_isTown 2 [kI x0] h (kQi (fun z h' => h' = h ∧ ((z = 1 ∧ 0 ≤ x0 ∧ x0 ≤ 1) ∨ (z = 0 ∧ (x0 < 0 ∨ 1 < x0))))) := by
  refine Ctr.ofK (by decide) rfl T_War_isTown (Nat.le_of_ble_eq_true rfl) (lo := [(0, kI x0)]) rfl ?_
  refine K_iload_n (pc := 0) (i := 0) rfl rfl ?_
  refine K_iconst (pc := 1) (i := 1) rfl ?_
  refine K_iconst (pc := 2) (i := 2) rfl ?_
  refine K_cSI (pc := 3) (i := 3) rfl (c_War_isWithin G (x0 := x0) (x1 := 0) (x2 := 1) (s0 := by omega) (s1 := by omega) (s2 := by omega)) (ls_War_124 rfl) rfl rfl rfl rfl (fun v3 h3 q3 => ?_)
  obtain ⟨eh, r3⟩ := q3
  rw [eh]; clear eh
  exact K_retZ (pc := 6) (i := 4) rfl rfl (by omega) ⟨rfl, by omega⟩
set_option maxHeartbeats 4000000 in
set_option maxRecDepth 100000 in
theorem c_War_isStake (G : kG)  {h : kH} {x0 : Int} (s0 : kR x0) : Ctr G y_War_isStake X_War_isStake 2 [kI x0] h (kQi (fun z h' => h' = h ∧ ((z = 1 ∧ 0 ≤ x0 ∧ x0 ≤ 40) ∨ (z = 0 ∧ (x0 < 0 ∨ 40 < x0))))) := by
  refine Ctr.ofK (by decide) rfl T_War_isStake (Nat.le_of_ble_eq_true rfl) (lo := [(0, kI x0)]) rfl ?_
  refine K_iload_n (pc := 0) (i := 0) rfl rfl ?_
  refine K_iconst (pc := 1) (i := 1) rfl ?_
  refine K_bipush (pc := 2) (i := 2) rfl rfl ?_
  refine K_cSI (pc := 4) (i := 3) rfl (c_War_isWithin G (x0 := x0) (x1 := 0) (x2 := 40) (s0 := by omega) (s1 := by omega) (s2 := by omega)) (ls_War_124 rfl) rfl rfl rfl rfl (fun v4 h4 q4 => ?_)
  obtain ⟨eh, r4⟩ := q4
  rw [eh]; clear eh
  exact K_retZ (pc := 7) (i := 4) rfl rfl (by omega) ⟨rfl, by omega⟩
set_option maxHeartbeats 4000000 in
set_option maxRecDepth 100000 in
theorem c_War_isHeight (G : kG)  {h : kH} {x0 : Int} (s0 : kR x0) : Ctr G y_War_isHeight X_War_isHeight 2 [kI x0] h (kQi (fun z h' => h' = h ∧ ((z = 1 ∧ 1 ≤ x0 ∧ x0 ≤ 9) ∨ (z = 0 ∧ (x0 < 1 ∨ 9 < x0))))) := by
  refine Ctr.ofK (by decide) rfl T_War_isHeight (Nat.le_of_ble_eq_true rfl) (lo := [(0, kI x0)]) rfl ?_
  refine K_iload_n (pc := 0) (i := 0) rfl rfl ?_
  refine K_iconst (pc := 1) (i := 1) rfl ?_
  refine K_bipush (pc := 2) (i := 2) rfl rfl ?_
  refine K_cSI (pc := 4) (i := 3) rfl (c_War_isWithin G (x0 := x0) (x1 := 1) (x2 := 9) (s0 := by omega) (s1 := by omega) (s2 := by omega)) (ls_War_124 rfl) rfl rfl rfl rfl (fun v4 h4 q4 => ?_)
  obtain ⟨eh, r4⟩ := q4
  rw [eh]; clear eh
  exact K_retZ (pc := 7) (i := 4) rfl rfl (by omega) ⟨rfl, by omega⟩
set_option maxHeartbeats 4000000 in
set_option maxRecDepth 100000 in
theorem c_War_isGlass (G : kG)  {h : kH} {x0 : Int} (s0 : kR x0) : Ctr G y_War_isGlass X_War_isGlass 2 [kI x0] h (kQi (fun z h' => h' = h ∧ ((z = 1 ∧ 0 ≤ x0 ∧ x0 ≤ 9) ∨ (z = 0 ∧ (x0 < 0 ∨ 9 < x0))))) := by
  refine Ctr.ofK (by decide) rfl T_War_isGlass (Nat.le_of_ble_eq_true rfl) (lo := [(0, kI x0)]) rfl ?_
  refine K_iload_n (pc := 0) (i := 0) rfl rfl ?_
  refine K_iconst (pc := 1) (i := 1) rfl ?_
  refine K_bipush (pc := 2) (i := 2) rfl rfl ?_
  refine K_cSI (pc := 4) (i := 3) rfl (c_War_isWithin G (x0 := x0) (x1 := 0) (x2 := 9) (s0 := by omega) (s1 := by omega) (s2 := by omega)) (ls_War_124 rfl) rfl rfl rfl rfl (fun v4 h4 q4 => ?_)
  obtain ⟨eh, r4⟩ := q4
  rw [eh]; clear eh
  exact K_retZ (pc := 7) (i := 4) rfl rfl (by omega) ⟨rfl, by omega⟩
set_option maxHeartbeats 4000000 in
set_option maxRecDepth 100000 in
theorem c_Text_figure (G : kG) {g : kGh} {h : kH} {x1 : Int} (s1 : 0 ≤ x1 ∧ x1 ≤ 73) (hI : Gd g h) : Ctr G y_Text_figure X_Text_figure 1 [.ref (G.2.2.2 1), kI x1] h (kQi (fun z h' => h' = h ∧ z = h 2 x1.toNat - 48 ∧ -48 ≤ z ∧ z ≤ 207)) := by
  refine Ctr.ofK (by decide) rfl T_Text_figure (Nat.le_of_ble_eq_true rfl) (lo := [(0, .ref (G.2.2.2 1)), (1, kI x1)]) rfl ?_
  refine K_aload_n (pc := 0) (i := 0) rfl rfl ?_
  refine K_getR (pc := 1) (i := 1) (j := 0) (d := 2) rfl S_1 rfl (by decide) rfl fw_Text_11 ?_
  refine K_iload_n (pc := 4) (i := 2) rfl rfl ?_
  refine K_iald (pc := 5) (i := 3) rfl S_2 (by omega) (by omega) (by decide) ?_
  refine K_nm (fun v5 e5 => ?_)
  have r5 := rd_bytes hI (x1).toNat
  rw [← e5] at r5
  refine K_bipush (pc := 6) (i := 4) rfl rfl ?_
  refine K_isub (pc := 8) (i := 5) rfl ?_
  exact K_retI (pc := 9) (i := 6) rfl rfl ⟨rfl, by rw [e5], by omega⟩
set_option maxHeartbeats 4000000 in
set_option maxRecDepth 100000 in
theorem c_Text_pair (G : kG) {g : kGh} {h : kH} {x1 : Int} (s1 : 0 ≤ x1 ∧ x1 ≤ 72) (hI : Gd g h) : Ctr G y_Text_pair X_Text_pair 2 [.ref (G.2.2.2 1), kI x1] h (kQi (fun z h' => h' = h ∧ z = prI (h 2) x1 ∧ -528 ≤ z ∧ z ≤ 2277)) := by
  refine Ctr.ofK (by decide) rfl T_Text_pair (Nat.le_of_ble_eq_true rfl) (lo := [(0, .ref (G.2.2.2 1)), (1, kI x1)]) rfl ?_
  refine K_bipush (pc := 0) (i := 0) rfl rfl ?_
  refine K_aload_n (pc := 2) (i := 1) rfl rfl ?_
  refine K_iload_n (pc := 3) (i := 2) rfl rfl ?_
  refine K_cVI (pc := 4) (i := 3) rfl (c_Text_figure G (x1 := x1) (hI := hI) (s1 := by omega)) S_1 rfl (lv_Text_27 rfl) rfl rfl rfl rfl rfl (fun v4 h4 q4 => ?_)
  obtain ⟨eh, r4⟩ := q4
  rw [eh]; clear eh
  refine K_imul (pc := 7) (i := 4) rfl ?_
  refine K_aload_n (pc := 8) (i := 5) rfl rfl ?_
  refine K_iload_n (pc := 9) (i := 6) rfl rfl ?_
  refine K_iconst (pc := 10) (i := 7) rfl ?_
  refine K_iadd (pc := 11) (i := 8) rfl ?_
  refine K_cVI (pc := 12) (i := 9) rfl (c_Text_figure G (x1 := x1 + 1) (hI := hI) (s1 := by omega)) S_1 rfl (lv_Text_27 rfl) rfl rfl rfl rfl rfl (fun v12 h12 q12 => ?_)
  obtain ⟨eh, r12⟩ := q12
  rw [eh]; clear eh
  refine K_iadd (pc := 15) (i := 10) rfl ?_
  exact K_retI (pc := 16) (i := 11) rfl rfl ⟨rfl, by unfold prI; omega, by omega⟩
set_option maxHeartbeats 4000000 in
set_option maxRecDepth 100000 in
theorem c_Text_placeOf (G : kG)  {h : kH} {x0 : Int} : Ctr G y_Text_placeOf X_Text_placeOf 1 [kI x0] h (kQi (fun z h' => h' = h ∧ z = 10 + x0 * 8)) := by
  refine Ctr.ofK (by decide) rfl T_Text_placeOf (Nat.le_of_ble_eq_true rfl) (lo := [(0, kI x0)]) rfl ?_
  refine K_bipush (pc := 0) (i := 0) rfl rfl ?_
  refine K_iload_n (pc := 2) (i := 1) rfl rfl ?_
  refine K_bipush (pc := 3) (i := 2) rfl rfl ?_
  refine K_imul (pc := 5) (i := 3) rfl ?_
  refine K_iadd (pc := 6) (i := 4) rfl ?_
  exact K_retI (pc := 7) (i := 5) rfl rfl ⟨rfl, rfl⟩
set_option maxHeartbeats 4000000 in
set_option maxRecDepth 100000 in
theorem c_Text_isFigure (G : kG) {g : kGh} {h : kH} {x1 : Int} {x2 : Int} {x3 : Int} (s1 : 0 ≤ x1 ∧ x1 ≤ 73) (s2 : kR x2) (s3 : kR x3) (hI : Gd g h) : Ctr G y_Text_isFigure X_Text_isFigure 2 [.ref (G.2.2.2 1), kI x1, kI x2, kI x3] h (kQi (fun z h' => h' = h ∧ ((z = 1 ∧ x2 ≤ h 2 x1.toNat - 48 ∧ h 2 x1.toNat - 48 ≤ x3) ∨ (z = 0 ∧ (h 2 x1.toNat - 48 < x2 ∨ x3 < h 2 x1.toNat - 48))))) := by
  refine Ctr.ofK (by decide) rfl T_Text_isFigure (Nat.le_of_ble_eq_true rfl) (lo := [(0, .ref (G.2.2.2 1)), (1, kI x1), (2, kI x2), (3, kI x3)]) rfl ?_
  refine K_aload_n (pc := 0) (i := 0) rfl rfl ?_
  refine K_iload_n (pc := 1) (i := 1) rfl rfl ?_
  refine K_cVI (pc := 2) (i := 2) rfl (c_Text_figure G (x1 := x1) (hI := hI) (s1 := by omega)) S_1 rfl (lv_Text_27 rfl) rfl rfl rfl rfl rfl (fun v2 h2 q2 => ?_)
  obtain ⟨eh, r2⟩ := q2
  rw [eh]; clear eh
  refine K_iload_n (pc := 5) (i := 3) rfl rfl ?_
  refine K_iload_n (pc := 6) (i := 4) rfl rfl ?_
  refine K_cNI (pc := 7) (i := 5) rfl (c_War_isWithin G (x0 := v2) (x1 := x2) (x2 := x3) (s0 := by omega) (s1 := by omega) (s2 := by omega)) (ls_Text_65 rfl) rfl rfl rfl rfl (fun v7 h7 q7 => ?_)
  obtain ⟨eh, r7⟩ := q7
  rw [eh]; clear eh
  exact K_retZ (pc := 10) (i := 6) rfl rfl (by omega) ⟨rfl, by omega⟩
set_option maxHeartbeats 4000000 in
set_option maxRecDepth 100000 in
theorem c_Text_isFreeStake (G : kG) {g : kGh} {h : kH} {x1 : Int} {x2 : Int} (s1 : 0 ≤ x1 ∧ x1 ≤ 8) (s2 : kR x2) (hI : Gd g h) : Ctr G y_Text_isFreeStake X_Text_isFreeStake 3 [.ref (G.2.2.2 1), kI x1, kI x2] h (kQi (fun z h' => h' = h ∧ ((z = 1 ∧ frS (h 2) x1 x2) ∨ (z = 0 ∧ ¬ frS (h 2) x1 x2)))) := by
  refine Ctr.ofK (by decide) rfl T_Text_isFreeStake (Nat.le_of_ble_eq_true rfl) (lo := [(0, .ref (G.2.2.2 1)), (1, kI x1), (2, kI x2)]) rfl ?_
  refine K_iload_n (pc := 0) (i := 0) rfl rfl ?_
  refine K_cNI (pc := 1) (i := 1) rfl (c_War_isStake G (x0 := x2) (s0 := by omega)) (ls_Text_41 rfl) rfl rfl rfl rfl (fun v1 h1 q1 => ?_)
  obtain ⟨eh, r1⟩ := q1
  rw [eh]; clear eh
  first | refine K_if_ne 9 (pc := 4) (i := 2) rfl rfl (by omega) (fun b4 => ?_) (fun b4 => ?_) | refine K_if_ne_an 9 (pc := 4) (i := 2) rfl rfl (fun b4 => ?_) (fun b4 => ?_)
  · skip
    refine K_iconst (pc := 9) (i := 5) rfl ?_
    refine K_ist_n (pc := 10) (i := 6) (lo' := [(0, _), (1, _), (2, _), (3, _)]) rfl rfl rfl rfl ?_
    have L11 : ∀ (n : Nat) (x3 : Int), (8 - x3).toNat < n → ((0 ≤ x3 ∧ x3 ≤ x1) ∧ ∀ e : Int, 0 ≤ e → e < x3 → prI (h 2) (10 + e * 8 + 2) ≠ x2) → K X_Text_isFreeStake G (kZm G 3 (kQi (fun z h' => h' = h ∧ ((z = 1 ∧ frS (h 2) x1 x2) ∨ (z = 0 ∧ ¬ frS (h 2) x1 x2))))) 11 [(0, .ref (G.2.2.2 1)), (1, kI x1), (2, kI x2), (3, kI x3)] [] h := by
      intro n
      induction n with
      | zero => intro x3 hm; exact absurd hm (Nat.not_lt_zero _)
      | succ n ih11 =>
        intro x3 hm11 hV11
        refine K_iload_n (pc := 11) (i := 7) rfl rfl ?_
        refine K_iload_n (pc := 12) (i := 8) rfl rfl ?_
        first | refine K_icmp_ge 38 (pc := 13) (i := 9) rfl rfl (by omega) (by omega) (fun b13 => ?_) (fun b13 => ?_) | refine K_icmp_ge_an 38 (pc := 13) (i := 9) rfl rfl (fun b13 => ?_) (fun b13 => ?_)
        · skip
          refine K_iconst (pc := 38) (i := 22) rfl ?_
          exact K_retZ (pc := 39) (i := 23) rfl rfl (by omega) ⟨rfl, Or.inl ⟨rfl, ⟨by omega, fun e a b => hV11.2 e a (by omega)⟩⟩⟩
        · skip
          refine K_aload_n (pc := 16) (i := 10) rfl rfl ?_
          refine K_iload_n (pc := 17) (i := 11) rfl rfl ?_
          refine K_cSI (pc := 18) (i := 12) rfl (c_Text_placeOf G (x0 := x3)) (ls_Text_44 rfl) rfl rfl rfl rfl (fun v18 h18 q18 => ?_)
          obtain ⟨eh, r18⟩ := q18
          rw [eh]; clear eh
          refine K_iconst (pc := 21) (i := 13) rfl ?_
          refine K_iadd (pc := 22) (i := 14) rfl ?_
          refine K_cVI (pc := 23) (i := 15) rfl (c_Text_pair G (x1 := v18 + 2) (hI := hI) (s1 := by omega)) S_1 rfl (lv_Text_35 rfl) rfl rfl rfl rfl rfl (fun v23 h23 q23 => ?_)
          obtain ⟨eh, r23⟩ := q23
          rw [eh]; clear eh
          refine K_iload_n (pc := 26) (i := 16) rfl rfl ?_
          first | refine K_icmp_ne 32 (pc := 27) (i := 17) rfl rfl (by omega) (by omega) (fun b27 => ?_) (fun b27 => ?_) | refine K_icmp_ne_an 32 (pc := 27) (i := 17) rfl rfl (fun b27 => ?_) (fun b27 => ?_)
          · skip
            refine K_inc (pc := 32) (i := 20) (q := 3) (lo' := [(0, _), (1, _), (2, _), (3, _)]) rfl rfl rfl rfl rfl ?_
            refine K_goto 11 (pc := 35) (i := 21) rfl rfl ?_
            exact ih11 (x3 + 1) (by omega) ⟨by omega, fun e a b => if q : e = x3 then (by rw [q]; rw [show (10 : Int) + x3 * 8 + 2 = v18 + 2 by omega, ← r23.1]; omega) else hV11.2 e a (by omega)⟩
          · skip
            refine K_iconst (pc := 30) (i := 18) rfl ?_
            exact K_retZ (pc := 31) (i := 19) rfl rfl (by omega) ⟨rfl, Or.inr ⟨rfl, fun q => q.2 x3 (by omega) (by omega) (by rw [show (10 : Int) + x3 * 8 + 2 = v18 + 2 by omega, ← r23.1]; omega)⟩⟩
    exact L11 _ 0 (Nat.lt_succ_self _) ⟨by omega, fun e a b => absurd a (by omega)⟩
  · skip
    refine K_iconst (pc := 7) (i := 3) rfl ?_
    exact K_retZ (pc := 8) (i := 4) rfl rfl (by omega) ⟨rfl, Or.inr ⟨rfl, fun q => absurd q.1 (by omega)⟩⟩
set_option maxHeartbeats 4000000 in
set_option maxRecDepth 100000 in
theorem c_Text_hasFreeStake (G : kG) {g : kGh} {h : kH} {x1 : Int} {x2 : Int} (s1 : 0 ≤ x1 ∧ x1 ≤ 8) (s2 : -1000 ≤ x2 ∧ x2 ≤ 1000) (hI : Gd g h) : Ctr G y_Text_hasFreeStake X_Text_hasFreeStake 4 [.ref (G.2.2.2 1), kI x1, kI x2] h (kQi (fun z h' => h' = h ∧ ((z = 1 ∧ hfS (h 2) x1 x2) ∨ (z = 0 ∧ ¬ hfS (h 2) x1 x2)))) := by
  refine Ctr.ofK (by decide) rfl T_Text_hasFreeStake (Nat.le_of_ble_eq_true rfl) (lo := [(0, .ref (G.2.2.2 1)), (1, kI x1), (2, kI x2)]) rfl ?_
  refine K_iconst (pc := 0) (i := 0) rfl ?_
  refine K_ist_n (pc := 1) (i := 1) (lo' := [(0, _), (1, _), (2, _), (3, _)]) rfl rfl rfl rfl ?_
  have L2 : ∀ (n : Nat) (x3 : Int), (10 - x3).toNat < n → ((0 ≤ x3 ∧ x3 ≤ 10) ∧ ∀ o : Int, 0 ≤ o → o < x3 → ¬ frS (h 2) x1 (10 * x2 + o)) → K X_Text_hasFreeStake G (kZm G 4 (kQi (fun z h' => h' = h ∧ ((z = 1 ∧ hfS (h 2) x1 x2) ∨ (z = 0 ∧ ¬ hfS (h 2) x1 x2))))) 2 [(0, .ref (G.2.2.2 1)), (1, kI x1), (2, kI x2), (3, kI x3)] [] h := by
    intro n
    induction n with
    | zero => intro x3 hm; exact absurd hm (Nat.not_lt_zero _)
    | succ n ih2 =>
      intro x3 hm2 hV2
      refine K_iload_n (pc := 2) (i := 2) rfl rfl ?_
      refine K_bipush (pc := 3) (i := 3) rfl rfl ?_
      first | refine K_icmp_gt 30 (pc := 5) (i := 4) rfl rfl (by omega) (by omega) (fun b5 => ?_) (fun b5 => ?_) | refine K_icmp_gt_an 30 (pc := 5) (i := 4) rfl rfl (fun b5 => ?_) (fun b5 => ?_)
      · skip
        refine K_iconst (pc := 30) (i := 18) rfl ?_
        exact K_retZ (pc := 31) (i := 19) rfl rfl (by omega) ⟨rfl, Or.inr ⟨rfl, fun ⟨o, a, b⟩ => hV2.2 o a.1 (by omega) b⟩⟩
      · skip
        refine K_aload_n (pc := 8) (i := 5) rfl rfl ?_
        refine K_iload_n (pc := 9) (i := 6) rfl rfl ?_
        refine K_bipush (pc := 10) (i := 7) rfl rfl ?_
        refine K_iload_n (pc := 12) (i := 8) rfl rfl ?_
        refine K_imul (pc := 13) (i := 9) rfl ?_
        refine K_iload_n (pc := 14) (i := 10) rfl rfl ?_
        refine K_iadd (pc := 15) (i := 11) rfl ?_
        refine K_cVI (pc := 16) (i := 12) rfl (c_Text_isFreeStake G (x1 := x1) (x2 := (10 * x2) + x3) (hI := hI) (s1 := by omega) (s2 := by omega)) S_1 rfl (lv_Text_38 rfl) rfl rfl rfl rfl rfl (fun v16 h16 q16 => ?_)
        obtain ⟨eh, r16⟩ := q16
        rw [eh]; clear eh
        first | refine K_if_eq 24 (pc := 19) (i := 13) rfl rfl (by omega) (fun b19 => ?_) (fun b19 => ?_) | refine K_if_eq_an 24 (pc := 19) (i := 13) rfl rfl (fun b19 => ?_) (fun b19 => ?_)
        · skip
          refine K_inc (pc := 24) (i := 16) (q := 3) (lo' := [(0, _), (1, _), (2, _), (3, _)]) rfl rfl rfl rfl rfl ?_
          refine K_goto 2 (pc := 27) (i := 17) rfl rfl ?_
          exact ih2 (x3 + 1) (by omega) ⟨by omega, fun o a b => if q : o = x3 then (by rw [q]; exact r16.elim (fun e => absurd e.1 (by omega)) (fun e => e.2)) else hV2.2 o a (by omega)⟩
        · skip
          refine K_iconst (pc := 22) (i := 14) rfl ?_
          exact K_retZ (pc := 23) (i := 15) rfl rfl (by omega) ⟨rfl, Or.inl ⟨rfl, x3, by omega, r16.elim (fun e => e.2) (fun e => absurd e.1 (by omega))⟩⟩
  exact L2 _ 0 (Nat.lt_succ_self _) ⟨by omega, fun e a b => absurd a (by omega)⟩
theorem may_of {z : Int} {P Q : Prop} (e : P ↔ Q) (h : (z = 1 ∧ Q) ∨ (z = 0 ∧ ¬ Q)) : (z = 1 ∧ P) ∨ (z = 0 ∧ ¬ P) := by rw [e]; exact h
set_option maxHeartbeats 4000000 in
set_option maxRecDepth 100000 in
theorem c_Text_mayStand (G : kG) {g : kGh} {h : kH} {x1 : Int} (s1 : 0 ≤ x1 ∧ x1 ≤ 73) (hI : Gd g h) : Ctr G y_Text_mayStand X_Text_mayStand 5 [.ref (G.2.2.2 1), kI x1] h (kQi (fun z h' => h' = h ∧ ((z = 1 ∧ mayS (h 2) x1) ∨ (z = 0 ∧ ¬ mayS (h 2) x1)))) := by
  refine Ctr.ofK (by decide) rfl T_Text_mayStand (Nat.le_of_ble_eq_true rfl) (lo := [(0, .ref (G.2.2.2 1)), (1, kI x1)]) rfl ?_
  refine K_iload_n (pc := 0) (i := 0) rfl rfl ?_
  first | refine K_if_ne 21 (pc := 1) (i := 1) rfl rfl (by omega) (fun b1 => ?_) (fun b1 => ?_) | refine K_if_ne_an 21 (pc := 1) (i := 1) rfl rfl (fun b1 => ?_) (fun b1 => ?_)
  · skip
    refine K_iload_n (pc := 21) (i := 12) rfl rfl ?_
    refine K_bipush (pc := 22) (i := 13) rfl rfl ?_
    first | refine K_icmp_ge 36 (pc := 24) (i := 14) rfl rfl (by omega) (by omega) (fun b24 => ?_) (fun b24 => ?_) | refine K_icmp_ge_an 36 (pc := 24) (i := 14) rfl rfl (fun b24 => ?_) (fun b24 => ?_)
    · skip
      refine K_iload_n (pc := 36) (i := 21) rfl rfl ?_
      refine K_bipush (pc := 37) (i := 22) rfl rfl ?_
      refine K_isub (pc := 39) (i := 23) rfl ?_
      refine K_bipush (pc := 40) (i := 24) rfl rfl ?_
      refine K_idiv (pc := 42) (i := 25) rfl (by omega) (by omega) ?_
      refine K_eq (kDiv_eq (by omega) (by omega) (by omega) (by omega)) ?_
      refine K_ist_n (pc := 43) (i := 26) (lo' := [(0, _), (1, _), (2, _)]) rfl rfl rfl rfl ?_
      refine K_iload_n (pc := 44) (i := 27) rfl rfl ?_
      refine K_bipush (pc := 45) (i := 28) rfl rfl ?_
      refine K_isub (pc := 47) (i := 29) rfl ?_
      refine K_bipush (pc := 48) (i := 30) rfl rfl ?_
      refine K_irem (pc := 50) (i := 31) rfl (by omega) (by omega) ?_
      refine K_eq (kRem_eq (by omega) (by omega) (by omega) (by omega)) ?_
      by_cases sw51 : (0 : Int) ≤ (x1 - 10) % 8 ∧ (x1 - 10) % 8 ≤ 6
      · skip
        rcases (show (x1 - 10) % 8 = 0 ∨ (x1 - 10) % 8 = 1 ∨ (x1 - 10) % 8 = 2 ∨ (x1 - 10) % 8 = 3 ∨ (x1 - 10) % 8 = 4 ∨ (x1 - 10) % 8 = 5 ∨ (x1 - 10) % 8 = 6 by omega) with sx51 | sx51 | sx51 | sx51 | sx51 | sx51 | sx51
        · refine K_tableIn 92 (by omega) (pc := 51) (i := 32) rfl (by omega) (by omega) (by rw [sx51]; rfl) rfl ?_
          refine K_aload_n (pc := 92) (i := 33) rfl rfl ?_
          refine K_getR (pc := 93) (i := 34) (j := 0) (d := 2) rfl S_1 rfl (by decide) rfl fw_Text_11 ?_
          refine K_iload_n (pc := 96) (i := 35) rfl rfl ?_
          refine K_iald (pc := 97) (i := 36) rfl S_2 (by omega) (by omega) (by decide) ?_
          refine K_nm (fun v97 e97 => ?_)
          have r97 := rd_bytes hI (x1).toNat
          rw [← e97] at r97
          refine K_bipush (pc := 98) (i := 37) rfl rfl ?_
          first | refine K_icmp_ne 107 (pc := 100) (i := 38) rfl rfl (by omega) (by omega) (fun b100 => ?_) (fun b100 => ?_) | refine K_icmp_ne_an 107 (pc := 100) (i := 38) rfl rfl (fun b100 => ?_) (fun b100 => ?_)
          · skip
            refine K_iconst (pc := 107) (i := 41) rfl ?_
            exact K_retZ (pc := 108) (i := 42) rfl rfl (by omega) ⟨rfl, may_of (mayS_r0 (by omega) (by omega)) (by omega)⟩
          · skip
            refine K_iconst (pc := 103) (i := 39) rfl ?_
            refine K_goto 108 (pc := 104) (i := 40) rfl rfl ?_
            exact K_retZ (pc := 108) (i := 42) rfl rfl (by omega) ⟨rfl, may_of (mayS_r0 (by omega) (by omega)) (by omega)⟩
        · refine K_tableIn 109 (by omega) (pc := 51) (i := 32) rfl (by omega) (by omega) (by rw [sx51]; rfl) rfl ?_
          refine K_aload_n (pc := 109) (i := 43) rfl rfl ?_
          refine K_iload_n (pc := 110) (i := 44) rfl rfl ?_
          refine K_iconst (pc := 111) (i := 45) rfl ?_
          refine K_iconst (pc := 112) (i := 46) rfl ?_
          refine K_cVI (pc := 113) (i := 47) rfl (c_Text_isFigure G (x1 := x1) (x2 := 0) (x3 := 1) (hI := hI) (s1 := by omega) (s2 := by omega) (s3 := by omega)) S_1 rfl (lv_Text_23 rfl) rfl rfl rfl rfl rfl (fun v113 h113 q113 => ?_)
          obtain ⟨eh, r113⟩ := q113
          rw [eh]; clear eh
          exact K_retZ (pc := 116) (i := 48) rfl rfl (by omega) ⟨rfl, may_of (mayS_r1 (by omega) (by omega)) (by omega)⟩
        · refine K_tableIn 117 (by omega) (pc := 51) (i := 32) rfl (by omega) (by omega) (by rw [sx51]; rfl) rfl ?_
          refine K_aload_n (pc := 117) (i := 49) rfl rfl ?_
          refine K_iload_n (pc := 118) (i := 50) rfl rfl ?_
          refine K_iconst (pc := 119) (i := 51) rfl ?_
          refine K_iconst (pc := 120) (i := 52) rfl ?_
          refine K_cVI (pc := 121) (i := 53) rfl (c_Text_isFigure G (x1 := x1) (x2 := 0) (x3 := 4) (hI := hI) (s1 := by omega) (s2 := by omega) (s3 := by omega)) S_1 rfl (lv_Text_23 rfl) rfl rfl rfl rfl rfl (fun v121 h121 q121 => ?_)
          obtain ⟨eh, r121⟩ := q121
          rw [eh]; clear eh
          first | refine K_if_eq 144 (pc := 124) (i := 54) rfl rfl (by omega) (fun b124 => ?_) (fun b124 => ?_) | refine K_if_eq_an 144 (pc := 124) (i := 54) rfl rfl (fun b124 => ?_) (fun b124 => ?_)
          · skip
            refine K_iconst (pc := 144) (i := 64) rfl ?_
            exact K_retZ (pc := 145) (i := 65) rfl rfl (by omega) ⟨rfl, may_of (mayS_r2 (by omega) (by omega)) (by first | exact Or.inl ⟨rfl, by omega, r134.elim (fun e => e.2) (fun e => absurd e.1 (by omega))⟩ | exact Or.inr ⟨rfl, fun q => r134.elim (fun e => absurd e.1 (by omega)) (fun e => e.2 q.2)⟩ | exact Or.inr ⟨rfl, fun q => absurd q.1 (by omega)⟩)⟩
          · skip
            refine K_aload_n (pc := 127) (i := 55) rfl rfl ?_
            refine K_iload_n (pc := 128) (i := 56) rfl rfl ?_
            refine K_aload_n (pc := 129) (i := 57) rfl rfl ?_
            refine K_iload_n (pc := 130) (i := 58) rfl rfl ?_
            refine K_cVI (pc := 131) (i := 59) rfl (c_Text_figure G (x1 := x1) (hI := hI) (s1 := by omega)) S_1 rfl (lv_Text_27 rfl) rfl rfl rfl rfl rfl (fun v131 h131 q131 => ?_)
            obtain ⟨eh, r131⟩ := q131
            rw [eh]; clear eh
            refine K_cVI (pc := 134) (i := 60) rfl (c_Text_hasFreeStake G (x1 := (x1 - 10) / 8) (x2 := v131) (hI := hI) (s1 := by omega) (s2 := by omega)) S_1 rfl (lv_Text_31 rfl) rfl rfl rfl rfl rfl (fun v134 h134 q134 => ?_)
            obtain ⟨eh, r134⟩ := q134
            rw [eh]; clear eh
            rw [r131.1] at r134
            first | refine K_if_eq 144 (pc := 137) (i := 61) rfl rfl (by omega) (fun b137 => ?_) (fun b137 => ?_) | refine K_if_eq_an 144 (pc := 137) (i := 61) rfl rfl (fun b137 => ?_) (fun b137 => ?_)
            · skip
              refine K_iconst (pc := 144) (i := 64) rfl ?_
              exact K_retZ (pc := 145) (i := 65) rfl rfl (by omega) ⟨rfl, may_of (mayS_r2 (by omega) (by omega)) (by first | exact Or.inl ⟨rfl, by omega, r134.elim (fun e => e.2) (fun e => absurd e.1 (by omega))⟩ | exact Or.inr ⟨rfl, fun q => r134.elim (fun e => absurd e.1 (by omega)) (fun e => e.2 q.2)⟩ | exact Or.inr ⟨rfl, fun q => absurd q.1 (by omega)⟩)⟩
            · skip
              refine K_iconst (pc := 140) (i := 62) rfl ?_
              refine K_goto 145 (pc := 141) (i := 63) rfl rfl ?_
              exact K_retZ (pc := 145) (i := 65) rfl rfl (by omega) ⟨rfl, may_of (mayS_r2 (by omega) (by omega)) (by first | exact Or.inl ⟨rfl, by omega, r134.elim (fun e => e.2) (fun e => absurd e.1 (by omega))⟩ | exact Or.inr ⟨rfl, fun q => r134.elim (fun e => absurd e.1 (by omega)) (fun e => e.2 q.2)⟩ | exact Or.inr ⟨rfl, fun q => absurd q.1 (by omega)⟩)⟩
        · refine K_tableIn 146 (by omega) (pc := 51) (i := 32) rfl (by omega) (by omega) (by rw [sx51]; rfl) rfl ?_
          refine K_aload_n (pc := 146) (i := 66) rfl rfl ?_
          refine K_iload_n (pc := 147) (i := 67) rfl rfl ?_
          refine K_iconst (pc := 148) (i := 68) rfl ?_
          refine K_bipush (pc := 149) (i := 69) rfl rfl ?_
          refine K_cVI (pc := 151) (i := 70) rfl (c_Text_isFigure G (x1 := x1) (x2 := 0) (x3 := 9) (hI := hI) (s1 := by omega) (s2 := by omega) (s3 := by omega)) S_1 rfl (lv_Text_23 rfl) rfl rfl rfl rfl rfl (fun v151 h151 q151 => ?_)
          obtain ⟨eh, r151⟩ := q151
          rw [eh]; clear eh
          first | refine K_if_eq 176 (pc := 154) (i := 71) rfl rfl (by omega) (fun b154 => ?_) (fun b154 => ?_) | refine K_if_eq_an 176 (pc := 154) (i := 71) rfl rfl (fun b154 => ?_) (fun b154 => ?_)
          · skip
            refine K_iconst (pc := 176) (i := 83) rfl ?_
            exact K_retZ (pc := 177) (i := 84) rfl rfl (by omega) ⟨rfl, may_of (mayS_r3 (by omega) (by omega)) (by first | exact Or.inl ⟨rfl, by omega, r166.elim (fun e => e.2) (fun e => absurd e.1 (by omega))⟩ | exact Or.inr ⟨rfl, fun q => r166.elim (fun e => absurd e.1 (by omega)) (fun e => e.2 q.2)⟩ | exact Or.inr ⟨rfl, fun q => absurd q.1 (by omega)⟩)⟩
          · skip
            refine K_aload_n (pc := 157) (i := 72) rfl rfl ?_
            refine K_iload_n (pc := 158) (i := 73) rfl rfl ?_
            refine K_aload_n (pc := 159) (i := 74) rfl rfl ?_
            refine K_iload_n (pc := 160) (i := 75) rfl rfl ?_
            refine K_iconst (pc := 161) (i := 76) rfl ?_
            refine K_isub (pc := 162) (i := 77) rfl ?_
            refine K_cVI (pc := 163) (i := 78) rfl (c_Text_pair G (x1 := x1 - 1) (hI := hI) (s1 := by omega)) S_1 rfl (lv_Text_35 rfl) rfl rfl rfl rfl rfl (fun v163 h163 q163 => ?_)
            obtain ⟨eh, r163⟩ := q163
            rw [eh]; clear eh
            refine K_cVI (pc := 166) (i := 79) rfl (c_Text_isFreeStake G (x1 := (x1 - 10) / 8) (x2 := v163) (hI := hI) (s1 := by omega) (s2 := by omega)) S_1 rfl (lv_Text_38 rfl) rfl rfl rfl rfl rfl (fun v166 h166 q166 => ?_)
            obtain ⟨eh, r166⟩ := q166
            rw [eh]; clear eh
            rw [r163.1] at r166
            first | refine K_if_eq 176 (pc := 169) (i := 80) rfl rfl (by omega) (fun b169 => ?_) (fun b169 => ?_) | refine K_if_eq_an 176 (pc := 169) (i := 80) rfl rfl (fun b169 => ?_) (fun b169 => ?_)
            · skip
              refine K_iconst (pc := 176) (i := 83) rfl ?_
              exact K_retZ (pc := 177) (i := 84) rfl rfl (by omega) ⟨rfl, may_of (mayS_r3 (by omega) (by omega)) (by first | exact Or.inl ⟨rfl, by omega, r166.elim (fun e => e.2) (fun e => absurd e.1 (by omega))⟩ | exact Or.inr ⟨rfl, fun q => r166.elim (fun e => absurd e.1 (by omega)) (fun e => e.2 q.2)⟩ | exact Or.inr ⟨rfl, fun q => absurd q.1 (by omega)⟩)⟩
            · skip
              refine K_iconst (pc := 172) (i := 81) rfl ?_
              refine K_goto 177 (pc := 173) (i := 82) rfl rfl ?_
              exact K_retZ (pc := 177) (i := 84) rfl rfl (by omega) ⟨rfl, may_of (mayS_r3 (by omega) (by omega)) (by first | exact Or.inl ⟨rfl, by omega, r166.elim (fun e => e.2) (fun e => absurd e.1 (by omega))⟩ | exact Or.inr ⟨rfl, fun q => r166.elim (fun e => absurd e.1 (by omega)) (fun e => e.2 q.2)⟩ | exact Or.inr ⟨rfl, fun q => absurd q.1 (by omega)⟩)⟩
        · refine K_tableIn 178 (by omega) (pc := 51) (i := 32) rfl (by omega) (by omega) (by rw [sx51]; rfl) rfl ?_
          refine K_aload_n (pc := 178) (i := 85) rfl rfl ?_
          refine K_iload_n (pc := 179) (i := 86) rfl rfl ?_
          refine K_iconst (pc := 180) (i := 87) rfl ?_
          refine K_iconst (pc := 181) (i := 88) rfl ?_
          refine K_cVI (pc := 182) (i := 89) rfl (c_Text_isFigure G (x1 := x1) (x2 := 0) (x3 := 4) (hI := hI) (s1 := by omega) (s2 := by omega) (s3 := by omega)) S_1 rfl (lv_Text_23 rfl) rfl rfl rfl rfl rfl (fun v182 h182 q182 => ?_)
          obtain ⟨eh, r182⟩ := q182
          rw [eh]; clear eh
          exact K_retZ (pc := 185) (i := 90) rfl rfl (by omega) ⟨rfl, may_of (mayS_r4 (by omega) (by omega)) (by omega)⟩
        · refine K_tableIn 186 (by omega) (pc := 51) (i := 32) rfl (by omega) (by omega) (by rw [sx51]; rfl) rfl ?_
          refine K_aload_n (pc := 186) (i := 91) rfl rfl ?_
          refine K_iload_n (pc := 187) (i := 92) rfl rfl ?_
          refine K_iconst (pc := 188) (i := 93) rfl ?_
          refine K_bipush (pc := 189) (i := 94) rfl rfl ?_
          refine K_cVI (pc := 191) (i := 95) rfl (c_Text_isFigure G (x1 := x1) (x2 := 0) (x3 := 9) (hI := hI) (s1 := by omega) (s2 := by omega) (s3 := by omega)) S_1 rfl (lv_Text_23 rfl) rfl rfl rfl rfl rfl (fun v191 h191 q191 => ?_)
          obtain ⟨eh, r191⟩ := q191
          rw [eh]; clear eh
          first | refine K_if_eq 213 (pc := 194) (i := 96) rfl rfl (by omega) (fun b194 => ?_) (fun b194 => ?_) | refine K_if_eq_an 213 (pc := 194) (i := 96) rfl rfl (fun b194 => ?_) (fun b194 => ?_)
          · skip
            refine K_iconst (pc := 213) (i := 106) rfl ?_
            exact K_retZ (pc := 214) (i := 107) rfl rfl (by omega) ⟨rfl, may_of (mayS_r5 (by omega) (by omega)) (by omega)⟩
          · skip
            refine K_aload_n (pc := 197) (i := 97) rfl rfl ?_
            refine K_iload_n (pc := 198) (i := 98) rfl rfl ?_
            refine K_iconst (pc := 199) (i := 99) rfl ?_
            refine K_isub (pc := 200) (i := 100) rfl ?_
            refine K_cVI (pc := 201) (i := 101) rfl (c_Text_pair G (x1 := x1 - 1) (hI := hI) (s1 := by omega)) S_1 rfl (lv_Text_35 rfl) rfl rfl rfl rfl rfl (fun v201 h201 q201 => ?_)
            obtain ⟨eh, r201⟩ := q201
            rw [eh]; clear eh
            refine K_bipush (pc := 204) (i := 102) rfl rfl ?_
            first | refine K_icmp_gt 213 (pc := 206) (i := 103) rfl rfl (by omega) (by omega) (fun b206 => ?_) (fun b206 => ?_) | refine K_icmp_gt_an 213 (pc := 206) (i := 103) rfl rfl (fun b206 => ?_) (fun b206 => ?_)
            · skip
              refine K_iconst (pc := 213) (i := 106) rfl ?_
              exact K_retZ (pc := 214) (i := 107) rfl rfl (by omega) ⟨rfl, may_of (mayS_r5 (by omega) (by omega)) (by omega)⟩
            · skip
              refine K_iconst (pc := 209) (i := 104) rfl ?_
              refine K_goto 214 (pc := 210) (i := 105) rfl rfl ?_
              exact K_retZ (pc := 214) (i := 107) rfl rfl (by omega) ⟨rfl, may_of (mayS_r5 (by omega) (by omega)) (by omega)⟩
        · refine K_tableIn 215 (by omega) (pc := 51) (i := 32) rfl (by omega) (by omega) (by rw [sx51]; rfl) rfl ?_
          refine K_aload_n (pc := 215) (i := 108) rfl rfl ?_
          refine K_iload_n (pc := 216) (i := 109) rfl rfl ?_
          refine K_iconst (pc := 217) (i := 110) rfl ?_
          refine K_bipush (pc := 218) (i := 111) rfl rfl ?_
          refine K_cVI (pc := 220) (i := 112) rfl (c_Text_isFigure G (x1 := x1) (x2 := 1) (x3 := 9) (hI := hI) (s1 := by omega) (s2 := by omega) (s3 := by omega)) S_1 rfl (lv_Text_23 rfl) rfl rfl rfl rfl rfl (fun v220 h220 q220 => ?_)
          obtain ⟨eh, r220⟩ := q220
          rw [eh]; clear eh
          exact K_retZ (pc := 223) (i := 113) rfl rfl (by omega) ⟨rfl, may_of (mayS_r6 (by omega) (by omega)) (by omega)⟩
      · refine K_tableOut 224 (by omega) (pc := 51) (i := 32) rfl (by omega) rfl ?_
        refine K_aload_n (pc := 224) (i := 114) rfl rfl ?_
        refine K_iload_n (pc := 225) (i := 115) rfl rfl ?_
        refine K_iconst (pc := 226) (i := 116) rfl ?_
        refine K_bipush (pc := 227) (i := 117) rfl rfl ?_
        refine K_cVI (pc := 229) (i := 118) rfl (c_Text_isFigure G (x1 := x1) (x2 := 0) (x3 := 9) (hI := hI) (s1 := by omega) (s2 := by omega) (s3 := by omega)) S_1 rfl (lv_Text_23 rfl) rfl rfl rfl rfl rfl (fun v229 h229 q229 => ?_)
        obtain ⟨eh, r229⟩ := q229
        rw [eh]; clear eh
        exact K_retZ (pc := 232) (i := 119) rfl rfl (by omega) ⟨rfl, may_of (mayS_r7 (by omega) (by omega)) (by omega)⟩
    · skip
      refine K_aload_n (pc := 27) (i := 15) rfl rfl ?_
      refine K_iload_n (pc := 28) (i := 16) rfl rfl ?_
      refine K_iconst (pc := 29) (i := 17) rfl ?_
      refine K_bipush (pc := 30) (i := 18) rfl rfl ?_
      refine K_cVI (pc := 32) (i := 19) rfl (c_Text_isFigure G (x1 := x1) (x2 := 0) (x3 := 6) (hI := hI) (s1 := by omega) (s2 := by omega) (s3 := by omega)) S_1 rfl (lv_Text_23 rfl) rfl rfl rfl rfl rfl (fun v32 h32 q32 => ?_)
      obtain ⟨eh, r32⟩ := q32
      rw [eh]; clear eh
      exact K_retZ (pc := 35) (i := 20) rfl rfl (by omega) ⟨rfl, may_of (mayS_h (by omega) (by omega)) (by omega)⟩
  · skip
    refine K_aload_n (pc := 4) (i := 2) rfl rfl ?_
    refine K_getR (pc := 5) (i := 3) (j := 0) (d := 2) rfl S_1 rfl (by decide) rfl fw_Text_11 ?_
    refine K_iload_n (pc := 8) (i := 4) rfl rfl ?_
    refine K_iald (pc := 9) (i := 5) rfl S_2 (by omega) (by omega) (by decide) ?_
    refine K_nm (fun v9 e9 => ?_)
    have r9 := rd_bytes hI (x1).toNat
    rw [← e9] at r9
    refine K_bipush (pc := 10) (i := 6) rfl rfl ?_
    first | refine K_icmp_ne 19 (pc := 12) (i := 7) rfl rfl (by omega) (by omega) (fun b12 => ?_) (fun b12 => ?_) | refine K_icmp_ne_an 19 (pc := 12) (i := 7) rfl rfl (fun b12 => ?_) (fun b12 => ?_)
    · skip
      refine K_iconst (pc := 19) (i := 10) rfl ?_
      exact K_retZ (pc := 20) (i := 11) rfl rfl (by omega) ⟨rfl, may_of (mayS_0 (by omega)) (by omega)⟩
    · skip
      refine K_iconst (pc := 15) (i := 8) rfl ?_
      refine K_goto 20 (pc := 16) (i := 9) rfl rfl ?_
      exact K_retZ (pc := 20) (i := 11) rfl rfl (by omega) ⟨rfl, may_of (mayS_0 (by omega)) (by omega)⟩
/-- the text's bytes may stand, as far as n -/
def TxOk (h : kH) (n : Int) : Prop := ∀ x1 : Int, 0 ≤ x1 → x1 < n → mayS (h 2) x1
theorem FaultIs.none {b : Nat → Int} {len z : Int} (a : FaultIs b len z) (hz : z = -9) : (10 ≤ len ∧ (len - 10) % 8 = 0) ∧ ∀ j, 0 ≤ j → j < len → mayS b j := by
  rcases a with a | a
  · omega
  · exact ⟨a.2.2, a.2.1⟩
set_option maxHeartbeats 4000000 in
set_option maxRecDepth 100000 in
theorem c_Text_firstFault (G : kG) {g : kGh} {h : kH}  (hI : Gd g h) : Ctr G y_Text_firstFault X_Text_firstFault 6 [.ref (G.2.2.2 1)] h (kQi (fun z h' => h' = h ∧ (-9 ≤ z ∧ z ≤ 74) ∧ FaultIs (h 2) (h 1 1) z)) := by
  refine Ctr.ofK (by decide) rfl T_Text_firstFault (Nat.le_of_ble_eq_true rfl) (lo := [(0, .ref (G.2.2.2 1))]) rfl ?_
  refine K_iconst (pc := 0) (i := 0) rfl ?_
  refine K_ist_n (pc := 1) (i := 1) (lo' := [(0, _), (1, _)]) rfl rfl rfl rfl ?_
  have L2 : ∀ (n : Nat) (x1 : Int), (74 - x1).toNat < n → ((0 ≤ x1 ∧ x1 ≤ h 1 1) ∧ ∀ x : Int, 0 ≤ x → x < x1 → mayS (h 2) x) → K X_Text_firstFault G (kZm G 6 (kQi (fun z h' => h' = h ∧ (-9 ≤ z ∧ z ≤ 74) ∧ FaultIs (h 2) (h 1 1) z))) 2 [(0, .ref (G.2.2.2 1)), (1, kI x1)] [] h := by
    intro n
    induction n with
    | zero => intro x1 hm; exact absurd hm (Nat.not_lt_zero _)
    | succ n ih2 =>
      intro x1 hm2 hV2
      refine K_iload_n (pc := 2) (i := 2) rfl rfl ?_
      refine K_aload_n (pc := 3) (i := 3) rfl rfl ?_
      refine K_getI (pc := 4) (i := 4) (j := 1) rfl S_1 rfl (by decide) rfl fw_Text_15 ?_
      refine K_nm (fun v4 e4 => ?_)
      have r4 := rd_len hI
      rw [← e4] at r4
      first | refine K_icmp_ge 26 (pc := 7) (i := 5) rfl rfl (by omega) (by omega) (fun b7 => ?_) (fun b7 => ?_) | refine K_icmp_ge_an 26 (pc := 7) (i := 5) rfl rfl (fun b7 => ?_) (fun b7 => ?_)
      · skip
        refine K_aload_n (pc := 26) (i := 14) rfl rfl ?_
        refine K_getI (pc := 27) (i := 15) (j := 1) rfl S_1 rfl (by decide) rfl fw_Text_15 ?_
        refine K_nm (fun v27 e27 => ?_)
        have r27 := rd_len hI
        rw [← e27] at r27
        refine K_bipush (pc := 30) (i := 16) rfl rfl ?_
        first | refine K_icmp_lt 52 (pc := 32) (i := 17) rfl rfl (by omega) (by omega) (fun b32 => ?_) (fun b32 => ?_) | refine K_icmp_lt_an 52 (pc := 32) (i := 17) rfl rfl (fun b32 => ?_) (fun b32 => ?_)
        · skip
          refine K_iconst (pc := 52) (i := 27) rfl ?_
          refine K_ist_n (pc := 53) (i := 28) (lo' := [(0, _), (1, _)]) rfl rfl rfl rfl ?_
          refine K_iload_n (pc := 54) (i := 29) rfl rfl ?_
          refine K_if_eq 63 (pc := 55) (i := 30) rfl rfl (by omega) (fun _ => ?_) (fun b55 => False.elim (by omega))
          refine K_aload_n (pc := 63) (i := 33) rfl rfl ?_
          refine K_getI (pc := 64) (i := 34) (j := 1) rfl S_1 rfl (by decide) rfl fw_Text_15 ?_
          refine K_nm (fun v64 e64 => ?_)
          have r64 := rd_len hI
          rw [← e64] at r64
          exact K_retI (pc := 67) (i := 35) rfl rfl ⟨rfl, by omega, by first | exact Or.inr ⟨rfl, fun j a b => hV2.2 j a (by omega), by omega, by omega⟩ | exact Or.inl ⟨⟨by omega, by omega⟩, fun j a b => hV2.2 j a (by omega), Or.inr ⟨by omega, by omega⟩⟩⟩
        · skip
          refine K_aload_n (pc := 35) (i := 18) rfl rfl ?_
          refine K_getI (pc := 36) (i := 19) (j := 1) rfl S_1 rfl (by decide) rfl fw_Text_15 ?_
          refine K_nm (fun v36 e36 => ?_)
          have r36 := rd_len hI
          rw [← e36] at r36
          refine K_bipush (pc := 39) (i := 20) rfl rfl ?_
          refine K_isub (pc := 41) (i := 21) rfl ?_
          refine K_bipush (pc := 42) (i := 22) rfl rfl ?_
          refine K_irem (pc := 44) (i := 23) rfl (by omega) (by omega) ?_
          refine K_eq (kRem_eq (by omega) (by omega) (by omega) (by omega)) ?_
          first | refine K_if_ne 52 (pc := 45) (i := 24) rfl rfl (by omega) (fun b45 => ?_) (fun b45 => ?_) | refine K_if_ne_an 52 (pc := 45) (i := 24) rfl rfl (fun b45 => ?_) (fun b45 => ?_)
          · skip
            refine K_iconst (pc := 52) (i := 27) rfl ?_
            refine K_ist_n (pc := 53) (i := 28) (lo' := [(0, _), (1, _)]) rfl rfl rfl rfl ?_
            refine K_iload_n (pc := 54) (i := 29) rfl rfl ?_
            refine K_if_eq 63 (pc := 55) (i := 30) rfl rfl (by omega) (fun _ => ?_) (fun b55 => False.elim (by omega))
            refine K_aload_n (pc := 63) (i := 33) rfl rfl ?_
            refine K_getI (pc := 64) (i := 34) (j := 1) rfl S_1 rfl (by decide) rfl fw_Text_15 ?_
            refine K_nm (fun v64 e64 => ?_)
            have r64 := rd_len hI
            rw [← e64] at r64
            exact K_retI (pc := 67) (i := 35) rfl rfl ⟨rfl, by omega, by first | exact Or.inr ⟨rfl, fun j a b => hV2.2 j a (by omega), by omega, by omega⟩ | exact Or.inl ⟨⟨by omega, by omega⟩, fun j a b => hV2.2 j a (by omega), Or.inr ⟨by omega, by omega⟩⟩⟩
          · skip
            refine K_iconst (pc := 48) (i := 25) rfl ?_
            refine K_goto 53 (pc := 49) (i := 26) rfl rfl ?_
            refine K_ist_n (pc := 53) (i := 28) (lo' := [(0, _), (1, _)]) rfl rfl rfl rfl ?_
            refine K_iload_n (pc := 54) (i := 29) rfl rfl ?_
            refine K_if_eq 63 (pc := 55) (i := 30) rfl rfl (by omega) (fun b55 => False.elim (by omega)) (fun _ => ?_)
            refine K_bipush (pc := 58) (i := 31) rfl rfl ?_
            refine K_goto 67 (pc := 60) (i := 32) rfl rfl ?_
            exact K_retI (pc := 67) (i := 35) rfl rfl ⟨rfl, by omega, by first | exact Or.inr ⟨rfl, fun j a b => hV2.2 j a (by omega), by omega, by omega⟩ | exact Or.inl ⟨⟨by omega, by omega⟩, fun j a b => hV2.2 j a (by omega), Or.inr ⟨by omega, by omega⟩⟩⟩
      · skip
        refine K_aload_n (pc := 10) (i := 6) rfl rfl ?_
        refine K_iload_n (pc := 11) (i := 7) rfl rfl ?_
        refine K_cVI (pc := 12) (i := 8) rfl (c_Text_mayStand G (x1 := x1) (hI := hI) (s1 := by omega)) S_1 rfl (lv_Text_19 rfl) rfl rfl rfl rfl rfl (fun v12 h12 q12 => ?_)
        obtain ⟨eh, r12⟩ := q12
        rw [eh]; clear eh
        first | refine K_if_ne 20 (pc := 15) (i := 9) rfl rfl (by omega) (fun b15 => ?_) (fun b15 => ?_) | refine K_if_ne_an 20 (pc := 15) (i := 9) rfl rfl (fun b15 => ?_) (fun b15 => ?_)
        · skip
          refine K_inc (pc := 20) (i := 12) (q := 1) (lo' := [(0, _), (1, _)]) rfl rfl rfl rfl rfl ?_
          refine K_goto 2 (pc := 23) (i := 13) rfl rfl ?_
          exact ih2 (x1 + 1) (by omega) ⟨by omega, fun x a b => if q : x = x1 then (by rw [q]; exact r12.elim (fun e => e.2) (fun e => absurd e.1 (by omega))) else hV2.2 x a (by omega)⟩
        · skip
          refine K_iload_n (pc := 18) (i := 10) rfl rfl ?_
          exact K_retI (pc := 19) (i := 11) rfl rfl ⟨rfl, by omega, Or.inl ⟨⟨by omega, by omega⟩, hV2.2, Or.inl ⟨by omega, r12.elim (fun e => absurd e.1 (by omega)) (fun e => e.2)⟩⟩⟩
  exact L2 _ 0 (Nat.lt_succ_self _) ⟨by have := rd_len hI; omega, fun x a b => absurd a (by omega)⟩
end
section
set_option maxHeartbeats 4000000 in
set_option maxRecDepth 100000 in
theorem c_Text_loadInto (G : kG) {g : kGh} {h : kH} (hT : TxOk h (h 1 1)) (hl : 10 ≤ h 1 1 ∧ (h 1 1 - 10) % 8 = 0) (hI : Gd g h) : Ctr G y_Text_loadInto X_Text_loadInto 3 [.ref (G.2.2.2 1), .ref (G.2.2.2 3)] h (kQv (fun h' => Fx (fun c i => c = 4 ∨ (6 ≤ c ∧ c ≤ 12)) h h' ∧ (Gd g h' ∧ LW h h' 10 ∧ LF h h' ((h 1 1 - 10) / 8)))) := by
  refine Ctr.ofK (by decide) rfl T_Text_loadInto (Nat.le_of_ble_eq_true rfl) (lo := [(0, .ref (G.2.2.2 1)), (1, .ref (G.2.2.2 3))]) rfl ?_
  have fx : Fx (fun c i => c = 4 ∨ (6 ≤ c ∧ c ≤ 12)) h h := Fx.rf
  have hI0 := hI
  have u00 := rd_len hI
  refine K_iconst (pc := 0) (i := 0) rfl ?_
  refine K_ist_n (pc := 1) (i := 1) (lo' := [(0, _), (1, _), (2, _)]) rfl rfl rfl rfl ?_
  have L2 : ∀ (n : Nat) (x2 : Int) (ha : kH), (10 - x2).toNat < n → (Gd g ha) → (Fx (fun c i => c = 4 ∨ (6 ≤ c ∧ c ≤ 12)) h ha) → ((1 ≤ x2 ∧ x2 ≤ 10) ∧ ha 2 = h 2 ∧ ha 1 = h 1 ∧ LW h ha x2) → K X_Text_loadInto G (kZm G 3 (kQv (fun h' => Fx (fun c i => c = 4 ∨ (6 ≤ c ∧ c ≤ 12)) h h' ∧ (Gd g h' ∧ LW h h' 10 ∧ LF h h' ((h 1 1 - 10) / 8))))) 2 [(0, .ref (G.2.2.2 1)), (1, .ref (G.2.2.2 3)), (2, kI x2)] [] ha := by
    intro n
    induction n with
    | zero => intro x2 ha hm; exact absurd hm (Nat.not_lt_zero _)
    | succ n ih2 =>
      intro x2 ha hm2 hI fx hV2
      refine K_iload_n (pc := 2) (i := 2) rfl rfl ?_
      refine K_bipush (pc := 3) (i := 3) rfl rfl ?_
      first | refine K_icmp_gt 27 (pc := 5) (i := 4) rfl rfl (by omega) (by omega) (fun b5 => ?_) (fun b5 => ?_) | refine K_icmp_gt_an 27 (pc := 5) (i := 4) rfl rfl (fun b5 => ?_) (fun b5 => ?_)
      · skip
        refine K_aload_n (pc := 27) (i := 16) rfl rfl ?_
        refine K_getR (pc := 28) (i := 17) (j := 0) (d := 6) rfl (S_Sk sk3) rfl (by decide) rfl fw_Text_52 ?_
        refine K_ast_n (pc := 31) (i := 18) (lo' := [(0, _), (1, _), (2, _)]) rfl rfl rfl rfl ?_
        refine K_aload_n (pc := 32) (i := 19) rfl rfl ?_
        refine K_cVV (pc := 33) (i := 20) rfl (c_Fleet_clear G (f := 6) (hf := fl6) (hI := hI)) (S_Fl fl6) rfl (lv_Text_56 rfl) rfl rfl rfl rfl rfl (fun h33 q33 => ?_)
        obtain ⟨fx33, q33⟩ := q33
        obtain ⟨hI, fr33, cl33⟩ := q33
        have fx := fx.tr fx33 (fun c i q => (by first | (dsimp only at q ⊢; omega) | omega))
        have lw33 : LW h h33 10 := by have q := hV2.2.2.2; rw [show x2 = 10 by omega] at q; exact q.of (fr33 4 (by omega))
        have lf33 : LF h h33 0 := ⟨cl33.1, fun k hk => absurd hk (by omega), cl33.2.1, cl33.2.2⟩
        refine K_aload_n (pc := 36) (i := 21) rfl rfl ?_
        refine K_getI (pc := 37) (i := 22) (j := 1) rfl S_1 rfl (by decide) rfl fw_Text_15 ?_
        refine K_nm (fun v37 e37 => ?_)
        have r37 := rd_len hI
        rw [← e37] at r37
        have t37 : v37 = h 1 1 := by rw [e37, fr33 1 (by omega), hV2.2.2.1]
        have u37 := rd_len hI0
        refine K_bipush (pc := 40) (i := 23) rfl rfl ?_
        refine K_isub (pc := 42) (i := 24) rfl ?_
        refine K_bipush (pc := 43) (i := 25) rfl rfl ?_
        refine K_idiv (pc := 45) (i := 26) rfl (by omega) (by omega) ?_
        refine K_eq (kDiv_eq (by omega) (by omega) (by omega) (by omega)) ?_
        refine K_ist_n (pc := 46) (i := 27) (lo' := [(0, _), (1, _), (2, _), (3, _)]) rfl rfl rfl rfl ?_
        refine K_iconst (pc := 47) (i := 28) rfl ?_
        refine K_ist (pc := 48) (i := 29) (lo' := [(0, _), (1, _), (2, _), (3, _), (4, _)]) rfl rfl rfl rfl ?_
        have L50 : ∀ (n : Nat) (x4 : Int) (ha : kH), (8 - x4).toNat < n → (Gd g ha) → (Fx (fun c i => c = 4 ∨ (6 ≤ c ∧ c ≤ 12)) h ha) → ((0 ≤ x4 ∧ x4 ≤ (h 1 1 - 10) / 8) ∧ ha 2 = h 2 ∧ LW h ha 10 ∧ LF h ha x4) → K X_Text_loadInto G (kZm G 3 (kQv (fun h' => Fx (fun c i => c = 4 ∨ (6 ≤ c ∧ c ≤ 12)) h h' ∧ (Gd g h' ∧ LW h h' 10 ∧ LF h h' ((h 1 1 - 10) / 8))))) 50 [(0, .ref (G.2.2.2 1)), (1, .ref (G.2.2.2 3)), (2, .ref (G.2.2.2 6)), (3, kI ((v37 - 10) / 8)), (4, kI x4)] [] ha := by
          intro n
          induction n with
          | zero => intro x4 ha hm; exact absurd hm (Nat.not_lt_zero _)
          | succ n ih50 =>
            intro x4 ha hm50 hI fx hV50
            refine K_iload (pc := 50) (i := 30) rfl rfl ?_
            refine K_iload_n (pc := 52) (i := 31) rfl rfl ?_
            first | refine K_icmp_ge 115 (pc := 53) (i := 32) rfl rfl (by omega) (by omega) (fun b53 => ?_) (fun b53 => ?_) | refine K_icmp_ge_an 115 (pc := 53) (i := 32) rfl rfl (fun b53 => ?_) (fun b53 => ?_)
            · skip
              exact K_retV (pc := 115) (i := 65) rfl rfl ⟨fx, ⟨hI, hV50.2.2.1, by have q := hV50.2.2.2; rwa [show x4 = (h 1 1 - 10) / 8 by omega] at q⟩⟩
            · skip
              refine K_iload (pc := 56) (i := 33) rfl rfl ?_
              refine K_cSI (pc := 58) (i := 34) rfl (c_Text_placeOf G (x0 := x4)) (ls_Text_44 rfl) rfl rfl rfl rfl (fun v58 h58 q58 => ?_)
              obtain ⟨eh, r58⟩ := q58
              rw [eh]; clear eh
              have u58 := (mayS_r1 (by omega) (by omega)).1 (hT (v58 + 1) (by omega) (by omega))
              have w58 := (mayS_r6 (by omega) (by omega)).1 (hT (v58 + 6) (by omega) (by omega))
              have x58 := ((mayS_r3 (by omega) (by omega)).1 (hT (v58 + 3) (by omega) (by omega))).2.1
              rw [show v58 + 3 - 1 = v58 + 2 by omega] at x58
              have y58 := (mayS_r5 (by omega) (by omega)).1 (hT (v58 + 5) (by omega) (by omega))
              have y2 := y58.2
              rw [show v58 + 5 - 1 = v58 + 4 by omega] at y2
              have y4 := (mayS_r4 (by omega) (by omega)).1 (hT (v58 + 4) (by omega) (by omega))
              have y3 : 0 ≤ prI (h 2) (v58 + 4) := by unfold prI; rw [show v58 + 4 + 1 = v58 + 5 by omega]; omega
              have z58 := (mayS_r7 (by omega) (by omega)).1 (hT (v58 + 7) (by omega) (by omega))
              rw [← hV50.2.1] at u58 w58 x58 y2 y3 z58
              have h66 : ha 6 6 = x4 := hV50.2.2.2.1
              refine K_ist (pc := 61) (i := 35) (lo' := [(0, _), (1, _), (2, _), (3, _), (4, _), (5, _)]) rfl rfl rfl rfl ?_
              refine K_aload_n (pc := 63) (i := 36) rfl rfl ?_
              refine K_aload_n (pc := 64) (i := 37) rfl rfl ?_
              refine K_iload (pc := 65) (i := 38) rfl rfl ?_
              refine K_iconst (pc := 67) (i := 39) rfl ?_
              refine K_iadd (pc := 68) (i := 40) rfl ?_
              refine K_cVI (pc := 69) (i := 41) rfl (c_Text_figure G (x1 := v58 + 1) (hI := hI) (s1 := by omega)) S_1 rfl (lv_Text_27 rfl) rfl rfl rfl rfl rfl (fun v69 h69 q69 => ?_)
              obtain ⟨eh, r69⟩ := q69
              rw [eh]; clear eh
              refine K_aload_n (pc := 72) (i := 42) rfl rfl ?_
              refine K_iload (pc := 73) (i := 43) rfl rfl ?_
              refine K_iconst (pc := 75) (i := 44) rfl ?_
              refine K_iadd (pc := 76) (i := 45) rfl ?_
              refine K_cVI (pc := 77) (i := 46) rfl (c_Text_pair G (x1 := v58 + 2) (hI := hI) (s1 := by omega)) S_1 rfl (lv_Text_35 rfl) rfl rfl rfl rfl rfl (fun v77 h77 q77 => ?_)
              obtain ⟨eh, r77⟩ := q77
              rw [eh]; clear eh
              refine K_aload_n (pc := 80) (i := 47) rfl rfl ?_
              refine K_iload (pc := 81) (i := 48) rfl rfl ?_
              refine K_iconst (pc := 83) (i := 49) rfl ?_
              refine K_iadd (pc := 84) (i := 50) rfl ?_
              refine K_cVI (pc := 85) (i := 51) rfl (c_Text_pair G (x1 := v58 + 4) (hI := hI) (s1 := by omega)) S_1 rfl (lv_Text_35 rfl) rfl rfl rfl rfl rfl (fun v85 h85 q85 => ?_)
              obtain ⟨eh, r85⟩ := q85
              rw [eh]; clear eh
              refine K_aload_n (pc := 88) (i := 52) rfl rfl ?_
              refine K_iload (pc := 89) (i := 53) rfl rfl ?_
              refine K_bipush (pc := 91) (i := 54) rfl rfl ?_
              refine K_iadd (pc := 93) (i := 55) rfl ?_
              refine K_cVI (pc := 94) (i := 56) rfl (c_Text_figure G (x1 := v58 + 6) (hI := hI) (s1 := by omega)) S_1 rfl (lv_Text_27 rfl) rfl rfl rfl rfl rfl (fun v94 h94 q94 => ?_)
              obtain ⟨eh, r94⟩ := q94
              rw [eh]; clear eh
              refine K_aload_n (pc := 97) (i := 57) rfl rfl ?_
              refine K_iload (pc := 98) (i := 58) rfl rfl ?_
              refine K_bipush (pc := 100) (i := 59) rfl rfl ?_
              refine K_iadd (pc := 102) (i := 60) rfl ?_
              refine K_cVI (pc := 103) (i := 61) rfl (c_Text_figure G (x1 := v58 + 7) (hI := hI) (s1 := by omega)) S_1 rfl (lv_Text_27 rfl) rfl rfl rfl rfl rfl (fun v103 h103 q103 => ?_)
              obtain ⟨eh, r103⟩ := q103
              rw [eh]; clear eh
              refine K_cVV (pc := 106) (i := 62) rfl (c_Fleet_add G (f := 6) (hf := fl6) (x1 := v69) (x2 := v77) (x3 := v85) (x4 := v94) (x5 := v103) (hI := hI) (s1 := by omega) (s2 := by omega) (s3 := by omega) (s4 := by omega) (s5 := by omega)) (S_Fl fl6) rfl (lv_Text_61 rfl) rfl rfl rfl rfl rfl (fun h106 q106 => ?_)
              obtain ⟨fx106, q106⟩ := q106
              obtain ⟨hI, fr106, fa106⟩ := q106
              have fx := fx.tr fx106 (fun c i q => (by first | (dsimp only at q ⊢; omega) | omega))
              have lf106 := LF.add hV50.2.2.2 (by omega) (fa106 (by rw [h66]; omega)) (by rw [← r58, ← hV50.2.1]; exact r69.1) (by rw [← r58, ← hV50.2.1]; exact r77.1) (by rw [← r58, ← hV50.2.1]; exact r85.1) (by rw [← r58, ← hV50.2.1]; exact r94.1) (by rw [← r58, ← hV50.2.1]; exact r103.1)
              refine K_inc (pc := 109) (i := 63) (q := 4) (lo' := [(0, _), (1, _), (2, _), (3, _), (4, _), (5, _)]) rfl rfl rfl rfl rfl ?_
              refine K_goto 50 (pc := 112) (i := 64) rfl rfl ?_
              refine K_drop (lo' := [(0, .ref (G.2.2.2 1)), (1, .ref (G.2.2.2 3)), (2, .ref (G.2.2.2 6)), (3, kI ((v37 - 10) / 8)), (4, kI (x4 + 1))]) [0, 1, 2, 3, 4] rfl ?_
              exact ih50 (x4 + 1) _ (by omega) hI fx ⟨by omega, (fr106 2 (by omega)).trans hV50.2.1, hV50.2.2.1.of (fr106 4 (by omega)), lf106⟩
        exact L50 _ 0 _ (Nat.lt_succ_self _) hI fx ⟨by omega, (fr33 2 (by omega)).trans hV2.2.1, lw33, lf33⟩
      · skip
        refine K_aload_n (pc := 8) (i := 5) rfl rfl ?_
        refine K_getR (pc := 9) (i := 6) (j := 1) (d := 4) rfl (S_Sk sk3) rfl (by decide) rfl fw_Text_47 ?_
        refine K_iload_n (pc := 12) (i := 7) rfl rfl ?_
        refine K_aload_n (pc := 13) (i := 8) rfl rfl ?_
        refine K_iload_n (pc := 14) (i := 9) rfl rfl ?_
        refine K_cVI (pc := 15) (i := 10) rfl (c_Text_figure G (x1 := x2) (hI := hI) (s1 := by omega)) S_1 rfl (lv_Text_27 rfl) rfl rfl rfl rfl rfl (fun v15 h15 q15 => ?_)
        obtain ⟨eh, r15⟩ := q15
        rw [eh]; clear eh
        have m15 := (mayS_h (by omega) (by omega)).1 (hT x2 (by omega) (by omega))
        rw [← hV2.2.1] at m15
        refine K_iconst (pc := 18) (i := 11) rfl ?_
        refine K_isub (pc := 19) (i := 12) rfl ?_
        refine K_iast (pc := 20) (i := 13) rfl (S_Sk1 sk3) (by omega) (by omega) (by decide) ?_
        have hI := st_wind hI sk3 (i := (x2).toNat) (v := v15 - 3) (by omega)
        have fx := Fx.st (c := 4) (i := (x2).toNat) (v := v15 - 3) fx (by first | (dsimp only; omega) | omega | exact not_false)
        have lw20 : LW h (kU ha 4 ((x2).toNat) (v15 - 3)) (x2 + 1) := LW.st hV2.2.2.2 (by omega) (by rw [← hV2.2.1]; omega)
        refine K_inc (pc := 21) (i := 14) (q := 2) (lo' := [(0, _), (1, _), (2, _)]) rfl rfl rfl rfl rfl ?_
        refine K_goto 2 (pc := 24) (i := 15) rfl rfl ?_
        exact ih2 (x2 + 1) _ (by omega) hI fx ⟨by omega, (kU_c _ _ _ _ (by decide)).trans hV2.2.1, (kU_c _ _ _ _ (by decide)).trans hV2.2.2.1, lw20⟩
  exact L2 _ 1 _ (Nat.lt_succ_self _) hI fx ⟨by omega, rfl, rfl, LW.z⟩
theorem WCp {h h8 : kH} {s s2 : Nat} (e1 : h8 (s2 + 1) = h (s2 + 1)) (e2 : h8 (s + 1) = h (s + 1)) (i : Nat) : kCpy h8 (s2 + 1) (s + 1) (0 : Int).toNat (0 : Int).toNat (10 : Int).toNat (s + 1) i = if i < 10 then h (s2 + 1) i else h (s + 1) i := by
  rw [kCpy_at]
  by_cases q : i < 10
  · rw [if_pos ⟨rfl, Nat.zero_le _, by omega⟩, if_pos q, e1]
    congr 1
    simp
  · rw [if_neg (by omega), if_neg q, e2]
set_option maxHeartbeats 4000000 in
set_option maxRecDepth 100000 in
theorem c_Sky_copyFrom (G : kG) {g : kGh} {h : kH} {s : Nat} (hs : s ∈ SK) {s2 : Nat} (hs2 : s2 ∈ SK) (dj : s + 10 ≤ s2 ∨ s2 + 10 ≤ s) (hI : Gd g h) : Ctr G y_Sky_copyFrom X_Sky_copyFrom 3 [.ref (G.2.2.2 s), .ref (G.2.2.2 s2)] h (kQv (fun h' => Fx (fun c i => c = s + 1 ∨ (s + 3 ≤ c ∧ c ≤ s + 9)) h h' ∧ (Gd g h' ∧ FC h' (s + 3) h (s2 + 3) ∧ ∀ i, h' (s + 1) i = if i < 10 then h (s2 + 1) i else h (s + 1) i))) := by
  refine Ctr.ofK (by decide) rfl T_Sky_copyFrom (Nat.le_of_ble_eq_true rfl) (lo := [(0, .ref (G.2.2.2 s)), (1, .ref (G.2.2.2 s2))]) rfl ?_
  have fx : Fx (fun c i => c = s + 1 ∨ (s + 3 ≤ c ∧ c ≤ s + 9)) h h := Fx.rf
  refine K_aload_n (pc := 0) (i := 0) rfl rfl ?_
  refine K_getR (pc := 1) (i := 1) (j := 0) (d := s + 3) rfl (S_Sk hs) rfl (by decide) rfl fw_Sky_12 ?_
  refine K_aload_n (pc := 4) (i := 2) rfl rfl ?_
  refine K_getR (pc := 5) (i := 3) (j := 0) (d := s2 + 3) rfl (S_Sk hs2) rfl (by decide) rfl fw_Sky_12 ?_
  refine K_cVV (pc := 8) (i := 4) rfl (c_Fleet_copyFrom G (f := s + 3) (hf := (sk_fl hs)) (f2 := s2 + 3) (hf2 := (sk_fl hs2)) (hI := hI) (dj := by omega)) (S_Fl (sk_fl hs)) rfl (lv_Sky_25 rfl) rfl rfl rfl rfl rfl (fun h8 q8 => ?_)
  obtain ⟨fx8, q8⟩ := q8
  obtain ⟨hI, fr8, fc8⟩ := q8
  have fx := fx.tr fx8 (fun c i q => (by first | (dsimp only at q ⊢; omega) | omega))
  refine K_aload_n (pc := 11) (i := 5) rfl rfl ?_
  refine K_getR (pc := 12) (i := 6) (j := 1) (d := s2 + 1) rfl (S_Sk hs2) rfl (by decide) rfl fw_Sky_18 ?_
  refine K_iconst (pc := 15) (i := 7) rfl ?_
  refine K_aload_n (pc := 16) (i := 8) rfl rfl ?_
  refine K_getR (pc := 17) (i := 9) (j := 1) (d := s + 1) rfl (S_Sk hs) rfl (by decide) rfl fw_Sky_18 ?_
  refine K_iconst (pc := 20) (i := 10) rfl ?_
  refine K_bipush (pc := 21) (i := 11) rfl rfl ?_
  refine K_copy (pc := 23) (i := 12) rfl (S_Sk1 hs2) (S_Sk1 hs) (by omega) (by omega) (by omega) (by omega) (by omega) (by decide) (by decide) mw_Sky_29 (Nat.le_of_ble_eq_true rfl) ⟨Nat.le_of_ble_eq_true rfl, Nat.le_of_ble_eq_true rfl⟩ ?_
  have hI := cp_wind (sp := (0 : Int).toNat) (dp := (0 : Int).toNat) (n := (10 : Int).toNat) hI hs2 hs
  have fx := Fx.cp (c0 := s2 + 1) (c1 := s + 1) (sp := (0 : Int).toNat) (dp := (0 : Int).toNat) (n := (10 : Int).toNat) fx (fun i => (by first | (dsimp only; omega) | omega | exact not_false))
  exact K_retV (pc := 26) (i := 13) rfl rfl ⟨fx, ⟨hI, fc8.tr (FC.same (fun c a b => kCpy_c _ _ _ _ _ _ (by omega))), WCp (fr8 (s2 + 1) (by omega)) (fr8 (s + 1) (by omega))⟩⟩
set_option maxHeartbeats 4000000 in
set_option maxRecDepth 100000 in
theorem c_Sky_edgeAt (G : kG) {g : kGh} {h : kH} {s : Nat} (hs : s ∈ SK){x1 : Int} {x2 : Int} (s1 : 0 ≤ x1 ∧ x1 ≤ 9) (s2 : 0 ≤ x2 ∧ x2 ≤ 9) (hI : Gd g h) : Ctr G y_Sky_edgeAt X_Sky_edgeAt 2 [.ref (G.2.2.2 s), kI x1, kI x2] h (kQi (fun z h' => h' = h ∧ (0 ≤ z ∧ z ≤ 36) ∧ z = x1 * (kAbs (h (s + 1) x2.toNat) + 1))) := by
  refine Ctr.ofK (by decide) rfl T_Sky_edgeAt (Nat.le_of_ble_eq_true rfl) (lo := [(0, .ref (G.2.2.2 s)), (1, kI x1), (2, kI x2)]) rfl ?_
  refine K_iload_n (pc := 0) (i := 0) rfl rfl ?_
  refine K_aload_n (pc := 1) (i := 1) rfl rfl ?_
  refine K_getR (pc := 2) (i := 2) (j := 1) (d := s + 1) rfl (S_Sk hs) rfl (by decide) rfl fw_Sky_18 ?_
  refine K_iload_n (pc := 5) (i := 3) rfl rfl ?_
  refine K_iald (pc := 6) (i := 4) rfl (S_Sk1 hs) (by omega) (by omega) (by decide) ?_
  refine K_nm (fun v6 e6 => ?_)
  have r6 := rd_wind hI hs (x2).toNat
  rw [← e6] at r6
  refine K_mabs (pc := 7) (i := 5) rfl mw_Sky_45 (by omega) (Nat.le_of_ble_eq_true rfl) ⟨Nat.le_of_ble_eq_true rfl, Nat.le_of_ble_eq_true rfl⟩ ⟨Nat.le_of_ble_eq_true rfl, Nat.le_of_ble_eq_true rfl⟩ ?_
  refine K_nm (fun v7 e7 => ?_)
  have r7 := kAbs_r (a := v6) (by omega)
  rw [← e7] at r7
  refine K_iconst (pc := 10) (i := 6) rfl ?_
  refine K_iadd (pc := 11) (i := 7) rfl ?_
  refine K_imul (pc := 12) (i := 8) rfl ?_
  refine K_nm (fun v12 e12 => ?_)
  have u12 := mul_bd (A := 9) (B := 4) (a := x1) (b := v7 + 1) (by omega) (by omega)
  have w12 := Int.mul_nonneg (a := x1) (b := v7 + 1) (by omega) (by omega)
  rw [← e12] at u12 w12
  exact K_retI (pc := 13) (i := 9) rfl rfl ⟨rfl, by omega, by rw [← e6, ← e7, ← e12]⟩
set_option maxHeartbeats 4000000 in
set_option maxRecDepth 100000 in
theorem c_Sky_edge (G : kG) {g : kGh} {h : kH} {s : Nat} (hs : s ∈ SK){x1 : Int} (s1 : 0 ≤ x1 ∧ x1 ≤ 7) (hI : Gd g h) : Ctr G y_Sky_edge X_Sky_edge 3 [.ref (G.2.2.2 s), kI x1] h (kQi (fun z h' => h' = h ∧ (0 ≤ z ∧ z ≤ 36) ∧ z = eg h s x1.toNat)) := by
  refine Ctr.ofK (by decide) rfl T_Sky_edge (Nat.le_of_ble_eq_true rfl) (lo := [(0, .ref (G.2.2.2 s)), (1, kI x1)]) rfl ?_
  refine K_aload_n (pc := 0) (i := 0) rfl rfl ?_
  refine K_aload_n (pc := 1) (i := 1) rfl rfl ?_
  refine K_getR (pc := 2) (i := 2) (j := 0) (d := s + 3) rfl (S_Sk hs) rfl (by decide) rfl fw_Sky_12 ?_
  refine K_getR (pc := 5) (i := 3) (j := 4) (d := s + 3 + 5) rfl (S_Fl (sk_fl hs)) rfl (by decide) rfl fw_Sky_35 ?_
  refine K_iload_n (pc := 8) (i := 4) rfl rfl ?_
  refine K_iald (pc := 9) (i := 5) rfl (S_Fl5 (sk_fl hs)) (by omega) (by omega) (by decide) ?_
  refine K_nm (fun v9 e9 => ?_)
  have r9 := rd_glass hI (sk_fl hs) (x1).toNat
  rw [← e9] at r9
  refine K_aload_n (pc := 10) (i := 6) rfl rfl ?_
  refine K_getR (pc := 11) (i := 7) (j := 0) (d := s + 3) rfl (S_Sk hs) rfl (by decide) rfl fw_Sky_12 ?_
  refine K_getR (pc := 14) (i := 8) (j := 3) (d := s + 3 + 4) rfl (S_Fl (sk_fl hs)) rfl (by decide) rfl fw_Sky_38 ?_
  refine K_iload_n (pc := 17) (i := 9) rfl rfl ?_
  refine K_iald (pc := 18) (i := 10) rfl (S_Fl4 (sk_fl hs)) (by omega) (by omega) (by decide) ?_
  refine K_nm (fun v18 e18 => ?_)
  have r18 := rd_height hI (sk_fl hs) (x1).toNat
  rw [← e18] at r18
  refine K_cVI (pc := 19) (i := 11) rfl (c_Sky_edgeAt G (s := s) (hs := hs) (x1 := v9) (x2 := v18) (hI := hI) (s1 := by omega) (s2 := by omega)) (S_Sk hs) rfl (lv_Sky_41 rfl) rfl rfl rfl rfl rfl (fun v19 h19 q19 => ?_)
  obtain ⟨eh, r19⟩ := q19
  rw [eh]; clear eh
  exact K_retI (pc := 22) (i := 12) rfl rfl ⟨rfl, by omega, by unfold eg; rw [← e9, ← e18]; exact r19.2⟩
set_option maxHeartbeats 4000000 in
set_option maxRecDepth 100000 in
theorem c_Sky_blownX (G : kG) {g : kGh} {h : kH} {s : Nat} (hs : s ∈ SK){x1 : Int} {x2 : Int} (s1 : 0 ≤ x1 ∧ x1 ≤ 40) (s2 : 0 ≤ x2 ∧ x2 ≤ 9) (hI : Gd g h) : Ctr G y_Sky_blownX X_Sky_blownX 2 [.ref (G.2.2.2 s), kI x1, kI x2] h (kQi (fun z h' => h' = h ∧ (0 ≤ z ∧ z ≤ 40) ∧ z = max 0 (min 40 (x1 + h (s + 1) x2.toNat)))) := by
  refine Ctr.ofK (by decide) rfl T_Sky_blownX (Nat.le_of_ble_eq_true rfl) (lo := [(0, .ref (G.2.2.2 s)), (1, kI x1), (2, kI x2)]) rfl ?_
  refine K_iconst (pc := 0) (i := 0) rfl ?_
  refine K_bipush (pc := 1) (i := 1) rfl rfl ?_
  refine K_iload_n (pc := 3) (i := 2) rfl rfl ?_
  refine K_aload_n (pc := 4) (i := 3) rfl rfl ?_
  refine K_getR (pc := 5) (i := 4) (j := 1) (d := s + 1) rfl (S_Sk hs) rfl (by decide) rfl fw_Sky_18 ?_
  refine K_iload_n (pc := 8) (i := 5) rfl rfl ?_
  refine K_iald (pc := 9) (i := 6) rfl (S_Sk1 hs) (by omega) (by omega) (by decide) ?_
  refine K_nm (fun v9 e9 => ?_)
  have r9 := rd_wind hI hs (x2).toNat
  rw [← e9] at r9
  refine K_iadd (pc := 10) (i := 7) rfl ?_
  refine K_mmin (pc := 11) (i := 8) rfl mw_Sky_51 (by omega) (by omega) (Nat.le_of_ble_eq_true rfl) ⟨Nat.le_of_ble_eq_true rfl, Nat.le_of_ble_eq_true rfl⟩ ⟨Nat.le_of_ble_eq_true rfl, Nat.le_of_ble_eq_true rfl⟩ ?_
  refine K_nm (fun v11 e11 => ?_)
  refine K_mmax (pc := 14) (i := 9) rfl mw_Sky_54 (by omega) (by omega) (Nat.le_of_ble_eq_true rfl) ⟨Nat.le_of_ble_eq_true rfl, Nat.le_of_ble_eq_true rfl⟩ ⟨Nat.le_of_ble_eq_true rfl, Nat.le_of_ble_eq_true rfl⟩ ?_
  refine K_nm (fun v14 e14 => ?_)
  exact K_retI (pc := 17) (i := 10) rfl rfl ⟨rfl, by omega, by rw [← e9, ← e11, ← e14]⟩
set_option maxHeartbeats 4000000 in
set_option maxRecDepth 100000 in
theorem c_Sky_fight (G : kG) {g : kGh} {h : kH} {s : Nat} (hs : s ∈ SK) (hI : Gd g h) : Ctr G y_Sky_fight X_Sky_fight 4 [.ref (G.2.2.2 s)] h (kQi (fun z h' => Fx (fun c i => c = s + 2) h h' ∧ (Gd g h' ∧ kR z ∧ CtC h s (h (s + 3) 6) z))) := by
  refine Ctr.ofK (by decide) rfl T_Sky_fight (Nat.le_of_ble_eq_true rfl) (lo := [(0, .ref (G.2.2.2 s))]) rfl ?_
  have fx : Fx (fun c i => c = s + 2) h h := Fx.rf
  have hI0 := hI
  have n00 := rd_kites hI (sk_fl hs)
  refine K_iconst (pc := 0) (i := 0) rfl ?_
  refine K_ist_n (pc := 1) (i := 1) (lo' := [(0, _), (1, _)]) rfl rfl rfl rfl ?_
  have L2 : ∀ (n : Nat) (x1 : Int) (ha : kH), (8 - x1).toNat < n → (Gd g ha) → (Fx (fun c i => c = s + 2) h ha) → ((0 ≤ x1 ∧ x1 ≤ 8) ∧ ∀ k : Nat, (k : Int) < x1 → ha (s + 2) k = eg h s k) → K X_Sky_fight G (kZm G 4 (kQi (fun z h' => Fx (fun c i => c = s + 2) h h' ∧ (Gd g h' ∧ kR z ∧ CtC h s (h (s + 3) 6) z)))) 2 [(0, .ref (G.2.2.2 s)), (1, kI x1)] [] ha := by
    intro n
    induction n with
    | zero => intro x1 ha hm; exact absurd hm (Nat.not_lt_zero _)
    | succ n ih2 =>
      intro x1 ha hm2 hI fx hV2
      refine K_iload_n (pc := 2) (i := 2) rfl rfl ?_
      refine K_aload_n (pc := 3) (i := 3) rfl rfl ?_
      refine K_getR (pc := 4) (i := 4) (j := 0) (d := s + 3) rfl (S_Sk hs) rfl (by decide) rfl fw_Sky_12 ?_
      refine K_getI (pc := 7) (i := 5) (j := 6) rfl (S_Fl (sk_fl hs)) rfl (by decide) rfl fw_Sky_61 ?_
      refine K_nm (fun v7 e7 => ?_)
      have r7 := rd_kites hI (sk_fl hs)
      rw [← e7] at r7
      have en7 : v7 = h (s + 3) 6 := by rw [e7]; exact fx (s + 3) 6 (by first | (dsimp only; omega) | omega | exact not_false)
      first | refine K_icmp_ge 30 (pc := 10) (i := 6) rfl rfl (by omega) (by omega) (fun b10 => ?_) (fun b10 => ?_) | refine K_icmp_ge_an 30 (pc := 10) (i := 6) rfl rfl (fun b10 => ?_) (fun b10 => ?_)
      · skip
        have edA : ∀ k : Nat, (k : Int) < h (s + 3) 6 → ha (s + 2) k = eg h s k := fun k hk => hV2.2 k (by omega)
        have en : ha (s + 3) 6 = h (s + 3) 6 := fx (s + 3) 6 (by first | (dsimp only; omega) | omega | exact not_false)
        refine K_iconst (pc := 30) (i := 16) rfl ?_
        refine K_ist_n (pc := 31) (i := 17) (lo' := [(0, _), (1, _)]) rfl rfl rfl rfl ?_
        refine K_iconst (pc := 32) (i := 18) rfl ?_
        refine K_ist_n (pc := 33) (i := 19) (lo' := [(0, _), (1, _), (2, _)]) rfl rfl rfl rfl ?_
        have L34 : ∀ (n : Nat) (x1 : Int) (x2 : Int), (8 - x2).toNat < n → ((0 ≤ x2 ∧ x2 ≤ 8) ∧ kR x1 ∧ CI h s (h (s + 3) 6) x1 x2 0) → K X_Sky_fight G (kZm G 4 (kQi (fun z h' => Fx (fun c i => c = s + 2) h h' ∧ (Gd g h' ∧ kR z ∧ CtC h s (h (s + 3) 6) z)))) 34 [(0, .ref (G.2.2.2 s)), (1, kI x1), (2, kI x2)] [] ha := by
          intro n
          induction n with
          | zero => intro x1 x2 hm; exact absurd hm (Nat.not_lt_zero _)
          | succ n ih34 =>
            intro x1 x2 hm34 hV34
            refine K_iload_n (pc := 34) (i := 20) rfl rfl ?_
            refine K_aload_n (pc := 35) (i := 21) rfl rfl ?_
            refine K_getR (pc := 36) (i := 22) (j := 0) (d := s + 3) rfl (S_Sk hs) rfl (by decide) rfl fw_Sky_12 ?_
            refine K_getI (pc := 39) (i := 23) (j := 6) rfl (S_Fl (sk_fl hs)) rfl (by decide) rfl fw_Sky_61 ?_
            refine K_nm (fun v39 e39 => ?_)
            have r39 := rd_kites hI (sk_fl hs)
            rw [← e39] at r39
            first | refine K_icmp_ge 147 (pc := 42) (i := 24) rfl rfl (by omega) (by omega) (fun b42 => ?_) (fun b42 => ?_) | refine K_icmp_ge_an 147 (pc := 42) (i := 24) rfl rfl (fun b42 => ?_) (fun b42 => ?_)
            · skip
              refine K_iload_n (pc := 147) (i := 83) rfl rfl ?_
              exact K_retI (pc := 148) (i := 84) rfl rfl ⟨fx, ⟨hI, by omega, hV34.2.2.end (by omega)⟩⟩
            · skip
              refine K_iload_n (pc := 45) (i := 25) rfl rfl ?_
              refine K_iconst (pc := 46) (i := 26) rfl ?_
              refine K_iadd (pc := 47) (i := 27) rfl ?_
              refine K_ist_n (pc := 48) (i := 28) (lo' := [(0, _), (1, _), (2, _), (3, _)]) rfl rfl rfl rfl ?_
              have L49 : ∀ (n : Nat) (x1 : Int) (x3 : Int), (8 - x3).toNat < n → ((0 ≤ x3 ∧ x3 ≤ 8) ∧ kR x1 ∧ x2 < x3 ∧ CI h s (h (s + 3) 6) x1 x2 x3) → K X_Sky_fight G (kZm G 4 (kQi (fun z h' => Fx (fun c i => c = s + 2) h h' ∧ (Gd g h' ∧ kR z ∧ CtC h s (h (s + 3) 6) z)))) 49 [(0, .ref (G.2.2.2 s)), (1, kI x1), (2, kI x2), (3, kI x3)] [] ha := by
                intro n
                induction n with
                | zero => intro x1 x3 hm; exact absurd hm (Nat.not_lt_zero _)
                | succ n ih49 =>
                  intro x1 x3 hm49 hV49
                  refine K_iload_n (pc := 49) (i := 29) rfl rfl ?_
                  refine K_aload_n (pc := 50) (i := 30) rfl rfl ?_
                  refine K_getR (pc := 51) (i := 31) (j := 0) (d := s + 3) rfl (S_Sk hs) rfl (by decide) rfl fw_Sky_12 ?_
                  refine K_getI (pc := 54) (i := 32) (j := 6) rfl (S_Fl (sk_fl hs)) rfl (by decide) rfl fw_Sky_61 ?_
                  refine K_nm (fun v54 e54 => ?_)
                  have r54 := rd_kites hI (sk_fl hs)
                  rw [← e54] at r54
                  first | refine K_icmp_ge 141 (pc := 57) (i := 33) rfl rfl (by omega) (by omega) (fun b57 => ?_) (fun b57 => ?_) | refine K_icmp_ge_an 141 (pc := 57) (i := 33) rfl rfl (fun b57 => ?_) (fun b57 => ?_)
                  · skip
                    refine K_inc (pc := 141) (i := 81) (q := 2) (lo' := [(0, _), (1, _), (2, _), (3, _)]) rfl rfl rfl rfl rfl ?_
                    refine K_goto 34 (pc := 144) (i := 82) rfl rfl ?_
                    refine K_drop (lo' := [(0, .ref (G.2.2.2 s)), (1, kI x1), (2, kI (x2 + 1))]) [0, 1, 2] rfl ?_
                    exact ih34 x1 (x2 + 1) (by omega) ⟨by omega, by omega, hV49.2.2.2.next (by omega)⟩
                  · skip
                    refine K_aload_n (pc := 60) (i := 34) rfl rfl ?_
                    refine K_getR (pc := 61) (i := 35) (j := 0) (d := s + 3) rfl (S_Sk hs) rfl (by decide) rfl fw_Sky_12 ?_
                    refine K_getR (pc := 64) (i := 36) (j := 0) (d := s + 3 + 1) rfl (S_Fl (sk_fl hs)) rfl (by decide) rfl fw_Sky_77 ?_
                    refine K_iload_n (pc := 67) (i := 37) rfl rfl ?_
                    refine K_iald (pc := 68) (i := 38) rfl (S_Fl1 (sk_fl hs)) (by omega) (by omega) (by decide) ?_
                    refine K_nm (fun v68 e68 => ?_)
                    have r68 := rd_town hI (sk_fl hs) (x2).toNat
                    rw [← e68] at r68
                    have w68 : v68 = h (s + 3 + 1) x2.toNat := by rw [e68, fx.cell (s + 3 + 1) (fun i => (by first | (dsimp only; omega) | omega | exact not_false))]
                    refine K_aload_n (pc := 69) (i := 39) rfl rfl ?_
                    refine K_getR (pc := 70) (i := 40) (j := 0) (d := s + 3) rfl (S_Sk hs) rfl (by decide) rfl fw_Sky_12 ?_
                    refine K_getR (pc := 73) (i := 41) (j := 0) (d := s + 3 + 1) rfl (S_Fl (sk_fl hs)) rfl (by decide) rfl fw_Sky_77 ?_
                    refine K_iload_n (pc := 76) (i := 42) rfl rfl ?_
                    refine K_iald (pc := 77) (i := 43) rfl (S_Fl1 (sk_fl hs)) (by omega) (by omega) (by decide) ?_
                    refine K_nm (fun v77 e77 => ?_)
                    have r77 := rd_town hI (sk_fl hs) (x3).toNat
                    rw [← e77] at r77
                    have w77 : v77 = h (s + 3 + 1) x3.toNat := by rw [e77, fx.cell (s + 3 + 1) (fun i => (by first | (dsimp only; omega) | omega | exact not_false))]
                    first | refine K_icmp_eq 135 (pc := 78) (i := 44) rfl rfl (by omega) (by omega) (fun b78 => ?_) (fun b78 => ?_) | refine K_icmp_eq_an 135 (pc := 78) (i := 44) rfl rfl (fun b78 => ?_) (fun b78 => ?_)
                    · skip
                      refine K_inc (pc := 135) (i := 79) (q := 3) (lo' := [(0, _), (1, _), (2, _), (3, _)]) rfl rfl rfl rfl rfl ?_
                      refine K_goto 49 (pc := 138) (i := 80) rfl rfl ?_
                      exact ih49 x1 (x3 + 1) (by omega) (by first | exact ⟨by omega, by omega, by omega, hV49.2.2.2.skip (by omega) (by omega) (fun q => q.1 (by rw [← w68, ← w77]; omega))⟩ | exact ⟨by omega, by omega, by omega, hV49.2.2.2.skip (by omega) (by omega) (fun q => q.2.1 (by rw [← w86, ← w92]; omega))⟩ | exact ⟨by omega, by omega, by omega, hV49.2.2.2.skip (by omega) (by omega) (fun q => r102.elim (fun e => absurd e.1 (by omega)) (fun e => e.2 q.2.2))⟩ | exact ⟨by omega, by omega, by omega, (by rw [e133, e126]; exact hV49.2.2.2.hit (by omega) (by omega) (by omega) ⟨by rw [← w68, ← w77]; omega, by rw [← w86, ← w92]; omega, r102.resolve_right (fun q => by omega) |>.2⟩ (by rw [lo_lt (by rw [← w114, ← w120]; omega)]; omega) (by omega))⟩ | exact ⟨by omega, by omega, by omega, (by rw [e133, e132]; exact hV49.2.2.2.hit (by omega) (by omega) (by omega) ⟨by rw [← w68, ← w77]; omega, by rw [← w86, ← w92]; omega, r102.resolve_right (fun q => by omega) |>.2⟩ (by rw [lo_ge (by rw [← w114, ← w120]; omega)]; omega) (by omega))⟩)
                    · skip
                      refine K_aload_n (pc := 81) (i := 45) rfl rfl ?_
                      refine K_getR (pc := 82) (i := 46) (j := 2) (d := s + 2) rfl (S_Sk hs) rfl (by decide) rfl fw_Sky_22 ?_
                      refine K_iload_n (pc := 85) (i := 47) rfl rfl ?_
                      refine K_iald (pc := 86) (i := 48) rfl (S_Sk2 hs) (by omega) (by omega) (by decide) ?_
                      refine K_nm (fun v86 e86 => ?_)
                      have w86 : v86 = eg h s x2.toNat := by rw [e86]; exact edA _ (by omega)
                      have u86 := eg_r hI0 hs x2.toNat
                      rw [← w86] at u86
                      refine K_aload_n (pc := 87) (i := 49) rfl rfl ?_
                      refine K_getR (pc := 88) (i := 50) (j := 2) (d := s + 2) rfl (S_Sk hs) rfl (by decide) rfl fw_Sky_22 ?_
                      refine K_iload_n (pc := 91) (i := 51) rfl rfl ?_
                      refine K_iald (pc := 92) (i := 52) rfl (S_Sk2 hs) (by omega) (by omega) (by decide) ?_
                      refine K_nm (fun v92 e92 => ?_)
                      have w92 : v92 = eg h s x3.toNat := by rw [e92]; exact edA _ (by omega)
                      have u92 := eg_r hI0 hs x3.toNat
                      rw [← w92] at u92
                      first | refine K_icmp_eq 135 (pc := 93) (i := 53) rfl rfl (by omega) (by omega) (fun b93 => ?_) (fun b93 => ?_) | refine K_icmp_eq_an 135 (pc := 93) (i := 53) rfl rfl (fun b93 => ?_) (fun b93 => ?_)
                      · skip
                        refine K_inc (pc := 135) (i := 79) (q := 3) (lo' := [(0, _), (1, _), (2, _), (3, _)]) rfl rfl rfl rfl rfl ?_
                        refine K_goto 49 (pc := 138) (i := 80) rfl rfl ?_
                        exact ih49 x1 (x3 + 1) (by omega) (by first | exact ⟨by omega, by omega, by omega, hV49.2.2.2.skip (by omega) (by omega) (fun q => q.1 (by rw [← w68, ← w77]; omega))⟩ | exact ⟨by omega, by omega, by omega, hV49.2.2.2.skip (by omega) (by omega) (fun q => q.2.1 (by rw [← w86, ← w92]; omega))⟩ | exact ⟨by omega, by omega, by omega, hV49.2.2.2.skip (by omega) (by omega) (fun q => r102.elim (fun e => absurd e.1 (by omega)) (fun e => e.2 q.2.2))⟩ | exact ⟨by omega, by omega, by omega, (by rw [e133, e126]; exact hV49.2.2.2.hit (by omega) (by omega) (by omega) ⟨by rw [← w68, ← w77]; omega, by rw [← w86, ← w92]; omega, r102.resolve_right (fun q => by omega) |>.2⟩ (by rw [lo_lt (by rw [← w114, ← w120]; omega)]; omega) (by omega))⟩ | exact ⟨by omega, by omega, by omega, (by rw [e133, e132]; exact hV49.2.2.2.hit (by omega) (by omega) (by omega) ⟨by rw [← w68, ← w77]; omega, by rw [← w86, ← w92]; omega, r102.resolve_right (fun q => by omega) |>.2⟩ (by rw [lo_ge (by rw [← w114, ← w120]; omega)]; omega) (by omega))⟩)
                      · skip
                        refine K_aload_n (pc := 96) (i := 54) rfl rfl ?_
                        refine K_getR (pc := 97) (i := 55) (j := 0) (d := s + 3) rfl (S_Sk hs) rfl (by decide) rfl fw_Sky_12 ?_
                        refine K_iload_n (pc := 100) (i := 56) rfl rfl ?_
                        refine K_iload_n (pc := 101) (i := 57) rfl rfl ?_
                        refine K_cVI (pc := 102) (i := 58) rfl (c_Fleet_meet G (f := s + 3) (hf := (sk_fl hs)) (x1 := x2) (x2 := x3) (hI := hI) (s1 := by omega) (s2 := by omega)) (S_Fl (sk_fl hs)) rfl (lv_Sky_87 rfl) rfl rfl rfl rfl rfl (fun v102 h102 q102 => ?_)
                        obtain ⟨eh, r102⟩ := q102
                        rw [eh]; clear eh
                        rw [mt_of (fun c hc => fx.cell c (fun i => (by first | (dsimp only; omega) | omega | exact not_false)))] at r102
                        first | refine K_if_eq 135 (pc := 105) (i := 59) rfl rfl (by omega) (fun b105 => ?_) (fun b105 => ?_) | refine K_if_eq_an 135 (pc := 105) (i := 59) rfl rfl (fun b105 => ?_) (fun b105 => ?_)
                        · skip
                          refine K_inc (pc := 135) (i := 79) (q := 3) (lo' := [(0, _), (1, _), (2, _), (3, _)]) rfl rfl rfl rfl rfl ?_
                          refine K_goto 49 (pc := 138) (i := 80) rfl rfl ?_
                          exact ih49 x1 (x3 + 1) (by omega) (by first | exact ⟨by omega, by omega, by omega, hV49.2.2.2.skip (by omega) (by omega) (fun q => q.1 (by rw [← w68, ← w77]; omega))⟩ | exact ⟨by omega, by omega, by omega, hV49.2.2.2.skip (by omega) (by omega) (fun q => q.2.1 (by rw [← w86, ← w92]; omega))⟩ | exact ⟨by omega, by omega, by omega, hV49.2.2.2.skip (by omega) (by omega) (fun q => r102.elim (fun e => absurd e.1 (by omega)) (fun e => e.2 q.2.2))⟩ | exact ⟨by omega, by omega, by omega, (by rw [e133, e126]; exact hV49.2.2.2.hit (by omega) (by omega) (by omega) ⟨by rw [← w68, ← w77]; omega, by rw [← w86, ← w92]; omega, r102.resolve_right (fun q => by omega) |>.2⟩ (by rw [lo_lt (by rw [← w114, ← w120]; omega)]; omega) (by omega))⟩ | exact ⟨by omega, by omega, by omega, (by rw [e133, e132]; exact hV49.2.2.2.hit (by omega) (by omega) (by omega) ⟨by rw [← w68, ← w77]; omega, by rw [← w86, ← w92]; omega, r102.resolve_right (fun q => by omega) |>.2⟩ (by rw [lo_ge (by rw [← w114, ← w120]; omega)]; omega) (by omega))⟩)
                        · skip
                          refine K_iload_n (pc := 108) (i := 60) rfl rfl ?_
                          refine K_aload_n (pc := 109) (i := 61) rfl rfl ?_
                          refine K_getR (pc := 110) (i := 62) (j := 2) (d := s + 2) rfl (S_Sk hs) rfl (by decide) rfl fw_Sky_22 ?_
                          refine K_iload_n (pc := 113) (i := 63) rfl rfl ?_
                          refine K_iald (pc := 114) (i := 64) rfl (S_Sk2 hs) (by omega) (by omega) (by decide) ?_
                          refine K_nm (fun v114 e114 => ?_)
                          have w114 : v114 = eg h s x2.toNat := by rw [e114]; exact edA _ (by omega)
                          have u114 := eg_r hI0 hs x2.toNat
                          rw [← w114] at u114
                          refine K_aload_n (pc := 115) (i := 65) rfl rfl ?_
                          refine K_getR (pc := 116) (i := 66) (j := 2) (d := s + 2) rfl (S_Sk hs) rfl (by decide) rfl fw_Sky_22 ?_
                          refine K_iload_n (pc := 119) (i := 67) rfl rfl ?_
                          refine K_iald (pc := 120) (i := 68) rfl (S_Sk2 hs) (by omega) (by omega) (by decide) ?_
                          refine K_nm (fun v120 e120 => ?_)
                          have w120 : v120 = eg h s x3.toNat := by rw [e120]; exact edA _ (by omega)
                          have u120 := eg_r hI0 hs x3.toNat
                          rw [← w120] at u120
                          first | refine K_icmp_ge 130 (pc := 121) (i := 69) rfl rfl (by omega) (by omega) (fun b121 => ?_) (fun b121 => ?_) | refine K_icmp_ge_an 130 (pc := 121) (i := 69) rfl rfl (fun b121 => ?_) (fun b121 => ?_)
                          · skip
                            refine K_iconst (pc := 130) (i := 74) rfl ?_
                            refine K_iload_n (pc := 131) (i := 75) rfl rfl ?_
                            refine K_ishl (pc := 132) (i := 76) rfl ?_
                            refine K_nm (fun v132 e132 => ?_)
                            have r132 := kShl_R 1 x3
                            rw [← e132] at r132
                            refine K_ior (pc := 133) (i := 77) rfl ?_
                            refine K_nm (fun v133 e133 => ?_)
                            have r133 := kOr_R x1 v132
                            rw [← e133] at r133
                            refine K_ist_n (pc := 134) (i := 78) (lo' := [(0, _), (1, _), (2, _), (3, _)]) rfl rfl rfl rfl ?_
                            refine K_inc (pc := 135) (i := 79) (q := 3) (lo' := [(0, _), (1, _), (2, _), (3, _)]) rfl rfl rfl rfl rfl ?_
                            refine K_goto 49 (pc := 138) (i := 80) rfl rfl ?_
                            exact ih49 v133 (x3 + 1) (by omega) (by first | exact ⟨by omega, by omega, by omega, hV49.2.2.2.skip (by omega) (by omega) (fun q => q.1 (by rw [← w68, ← w77]; omega))⟩ | exact ⟨by omega, by omega, by omega, hV49.2.2.2.skip (by omega) (by omega) (fun q => q.2.1 (by rw [← w86, ← w92]; omega))⟩ | exact ⟨by omega, by omega, by omega, hV49.2.2.2.skip (by omega) (by omega) (fun q => r102.elim (fun e => absurd e.1 (by omega)) (fun e => e.2 q.2.2))⟩ | exact ⟨by omega, by omega, by omega, (by rw [e133, e126]; exact hV49.2.2.2.hit (by omega) (by omega) (by omega) ⟨by rw [← w68, ← w77]; omega, by rw [← w86, ← w92]; omega, r102.resolve_right (fun q => by omega) |>.2⟩ (by rw [lo_lt (by rw [← w114, ← w120]; omega)]; omega) (by omega))⟩ | exact ⟨by omega, by omega, by omega, (by rw [e133, e132]; exact hV49.2.2.2.hit (by omega) (by omega) (by omega) ⟨by rw [← w68, ← w77]; omega, by rw [← w86, ← w92]; omega, r102.resolve_right (fun q => by omega) |>.2⟩ (by rw [lo_ge (by rw [← w114, ← w120]; omega)]; omega) (by omega))⟩)
                          · skip
                            refine K_iconst (pc := 124) (i := 70) rfl ?_
                            refine K_iload_n (pc := 125) (i := 71) rfl rfl ?_
                            refine K_ishl (pc := 126) (i := 72) rfl ?_
                            refine K_nm (fun v126 e126 => ?_)
                            have r126 := kShl_R 1 x2
                            rw [← e126] at r126
                            refine K_goto 133 (pc := 127) (i := 73) rfl rfl ?_
                            refine K_ior (pc := 133) (i := 77) rfl ?_
                            refine K_nm (fun v133 e133 => ?_)
                            have r133 := kOr_R x1 v126
                            rw [← e133] at r133
                            refine K_ist_n (pc := 134) (i := 78) (lo' := [(0, _), (1, _), (2, _), (3, _)]) rfl rfl rfl rfl ?_
                            refine K_inc (pc := 135) (i := 79) (q := 3) (lo' := [(0, _), (1, _), (2, _), (3, _)]) rfl rfl rfl rfl rfl ?_
                            refine K_goto 49 (pc := 138) (i := 80) rfl rfl ?_
                            exact ih49 v133 (x3 + 1) (by omega) (by first | exact ⟨by omega, by omega, by omega, hV49.2.2.2.skip (by omega) (by omega) (fun q => q.1 (by rw [← w68, ← w77]; omega))⟩ | exact ⟨by omega, by omega, by omega, hV49.2.2.2.skip (by omega) (by omega) (fun q => q.2.1 (by rw [← w86, ← w92]; omega))⟩ | exact ⟨by omega, by omega, by omega, hV49.2.2.2.skip (by omega) (by omega) (fun q => r102.elim (fun e => absurd e.1 (by omega)) (fun e => e.2 q.2.2))⟩ | exact ⟨by omega, by omega, by omega, (by rw [e133, e126]; exact hV49.2.2.2.hit (by omega) (by omega) (by omega) ⟨by rw [← w68, ← w77]; omega, by rw [← w86, ← w92]; omega, r102.resolve_right (fun q => by omega) |>.2⟩ (by rw [lo_lt (by rw [← w114, ← w120]; omega)]; omega) (by omega))⟩ | exact ⟨by omega, by omega, by omega, (by rw [e133, e132]; exact hV49.2.2.2.hit (by omega) (by omega) (by omega) ⟨by rw [← w68, ← w77]; omega, by rw [← w86, ← w92]; omega, r102.resolve_right (fun q => by omega) |>.2⟩ (by rw [lo_ge (by rw [← w114, ← w120]; omega)]; omega) (by omega))⟩)
              exact L49 _ x1 (x2 + 1) (Nat.lt_succ_self _) ⟨by omega, by omega, by omega, hV34.2.2.start⟩
        exact L34 _ 0 0 (Nat.lt_succ_self _) ⟨by omega, by omega, CI.zero⟩
      · skip
        have en : ha (s + 3) 6 = h (s + 3) 6 := fx (s + 3) 6 (by first | (dsimp only; omega) | omega | exact not_false)
        refine K_aload_n (pc := 13) (i := 7) rfl rfl ?_
        refine K_getR (pc := 14) (i := 8) (j := 2) (d := s + 2) rfl (S_Sk hs) rfl (by decide) rfl fw_Sky_22 ?_
        refine K_iload_n (pc := 17) (i := 9) rfl rfl ?_
        refine K_aload_n (pc := 18) (i := 10) rfl rfl ?_
        refine K_iload_n (pc := 19) (i := 11) rfl rfl ?_
        refine K_cVI (pc := 20) (i := 12) rfl (c_Sky_edge G (s := s) (hs := hs) (x1 := x1) (hI := hI) (s1 := by omega)) (S_Sk hs) rfl (lv_Sky_84 rfl) rfl rfl rfl rfl rfl (fun v20 h20 q20 => ?_)
        obtain ⟨eh, r20⟩ := q20
        rw [eh]; clear eh
        have fy := fx
        refine K_iast (pc := 23) (i := 13) rfl (S_Sk2 hs) (by omega) (by omega) (by decide) ?_
        have hI := st_edges hI hs (i := (x1).toNat) (v := v20)
        have fx := Fx.st (c := s + 2) (i := (x1).toNat) (v := v20) fx (by first | (dsimp only; omega) | omega | exact not_false)
        have ed23 : ∀ k : Nat, (k : Int) < x1 + 1 → (kU ha (s + 2) ((x1).toNat) v20) (s + 2) k = eg h s k := fun k hk => if q : k = x1.toNat then (by rw [kU_at, if_pos ⟨rfl, q⟩, r20.2, q]; exact eg_of (fun c hc => fy.cell c (fun i => (by first | (dsimp only; omega) | omega | exact not_false))) _) else (by rw [kU_at, if_neg (by omega)]; exact hV2.2 k (by omega))
        refine K_inc (pc := 24) (i := 14) (q := 1) (lo' := [(0, _), (1, _)]) rfl rfl rfl rfl rfl ?_
        refine K_goto 2 (pc := 27) (i := 15) rfl rfl ?_
        exact ih2 (x1 + 1) _ (by omega) hI fx ⟨by omega, ed23⟩
  exact L2 _ 0 _ (Nat.lt_succ_self _) hI fx ⟨by omega, fun k hk => absurd hk (by omega)⟩
set_option maxHeartbeats 4000000 in
set_option maxRecDepth 100000 in
theorem c_Sky_blow (G : kG) {g : kGh} {h : kH} {s : Nat} (hs : s ∈ SK) (hI : Gd g h) : Ctr G y_Sky_blow X_Sky_blow 5 [.ref (G.2.2.2 s)] h (kQi (fun z h' => Fx (fun c i => s + 2 ≤ c ∧ c ≤ s + 9) h h' ∧ (Gd g h' ∧ kR z ∧ BLW h h' s z))) := by
  refine Ctr.ofK (by decide) rfl T_Sky_blow (Nat.le_of_ble_eq_true rfl) (lo := [(0, .ref (G.2.2.2 s))]) rfl ?_
  have fx : Fx (fun c i => s + 2 ≤ c ∧ c ≤ s + 9) h h := Fx.rf
  have n00 := rd_kites hI (sk_fl hs)
  refine K_iconst (pc := 0) (i := 0) rfl ?_
  refine K_ist_n (pc := 1) (i := 1) (lo' := [(0, _), (1, _)]) rfl rfl rfl rfl ?_
  have L2 : ∀ (n : Nat) (x1 : Int) (ha : kH), (8 - x1).toNat < n → (Gd g ha) → (Fx (fun c i => s + 2 ≤ c ∧ c ≤ s + 9) h ha) → ((0 ≤ x1 ∧ x1 ≤ 8) ∧ BX h ha s x1) → K X_Sky_blow G (kZm G 5 (kQi (fun z h' => Fx (fun c i => s + 2 ≤ c ∧ c ≤ s + 9) h h' ∧ (Gd g h' ∧ kR z ∧ BLW h h' s z)))) 2 [(0, .ref (G.2.2.2 s)), (1, kI x1)] [] ha := by
    intro n
    induction n with
    | zero => intro x1 ha hm; exact absurd hm (Nat.not_lt_zero _)
    | succ n ih2 =>
      intro x1 ha hm2 hI fx hV2
      refine K_iload_n (pc := 2) (i := 2) rfl rfl ?_
      refine K_aload_n (pc := 3) (i := 3) rfl rfl ?_
      refine K_getR (pc := 4) (i := 4) (j := 0) (d := s + 3) rfl (S_Sk hs) rfl (by decide) rfl fw_Sky_12 ?_
      refine K_getI (pc := 7) (i := 5) (j := 6) rfl (S_Fl (sk_fl hs)) rfl (by decide) rfl fw_Sky_61 ?_
      refine K_nm (fun v7 e7 => ?_)
      have r7 := rd_kites hI (sk_fl hs)
      rw [← e7] at r7
      have en7 : v7 = h (s + 3) 6 := by rw [e7, hV2.2.1 _ (by omega)]
      first | refine K_icmp_ge 50 (pc := 10) (i := 6) rfl rfl (by omega) (by omega) (fun b10 => ?_) (fun b10 => ?_) | refine K_icmp_ge_an 50 (pc := 10) (i := 6) rfl rfl (fun b10 => ?_) (fun b10 => ?_)
      · skip
        refine K_aload_n (pc := 50) (i := 26) rfl rfl ?_
        refine K_cVI (pc := 51) (i := 27) rfl (c_Sky_fight G (s := s) (hs := hs) (hI := hI)) (S_Sk hs) rfl (lv_Sky_71 rfl) rfl rfl rfl rfl rfl (fun v51 h51 q51 => ?_)
        obtain ⟨fx51, q51⟩ := q51
        obtain ⟨hI, r51, ct51⟩ := q51
        have fx := fx.tr fx51 (fun c i q => (by first | (dsimp only at q ⊢; omega) | omega))
        have f51 : ∀ c, c ≠ s + 2 → h51 c = ha c := fun c hc => fx51.cell c (fun i => (by first | (dsimp only; omega) | omega | exact not_false))
        have b51 := hV2.2
        have c51 : h (s + 3) 6 ≤ x1 := by omega
        refine K_ist_n (pc := 54) (i := 28) (lo' := [(0, _), (1, _)]) rfl rfl rfl rfl ?_
        refine K_iconst (pc := 55) (i := 29) rfl ?_
        refine K_ist_n (pc := 56) (i := 30) (lo' := [(0, _), (1, _), (2, _)]) rfl rfl rfl rfl ?_
        have L57 : ∀ (n : Nat) (x2 : Int) (ha : kH), (8 - x2).toNat < n → (Gd g ha) → (Fx (fun c i => s + 2 ≤ c ∧ c ≤ s + 9) h ha) → ((0 ≤ x2 ∧ x2 ≤ h (s + 3) 6) ∧ WN h51 ha (s + 3) v51 x2) → K X_Sky_blow G (kZm G 5 (kQi (fun z h' => Fx (fun c i => s + 2 ≤ c ∧ c ≤ s + 9) h h' ∧ (Gd g h' ∧ kR z ∧ BLW h h' s z)))) 57 [(0, .ref (G.2.2.2 s)), (1, kI v51), (2, kI x2)] [] ha := by
          intro n
          induction n with
          | zero => intro x2 ha hm; exact absurd hm (Nat.not_lt_zero _)
          | succ n ih57 =>
            intro x2 ha hm57 hI fx hV57
            refine K_iload_n (pc := 57) (i := 31) rfl rfl ?_
            refine K_aload_n (pc := 58) (i := 32) rfl rfl ?_
            refine K_getR (pc := 59) (i := 33) (j := 0) (d := s + 3) rfl (S_Sk hs) rfl (by decide) rfl fw_Sky_12 ?_
            refine K_getI (pc := 62) (i := 34) (j := 6) rfl (S_Fl (sk_fl hs)) rfl (by decide) rfl fw_Sky_61 ?_
            refine K_nm (fun v62 e62 => ?_)
            have r62 := rd_kites hI (sk_fl hs)
            rw [← e62] at r62
            have en62 : v62 = h (s + 3) 6 := by rw [e62, hV57.2.1 _ (by omega), f51 _ (by omega), b51.1 _ (by omega)]
            first | refine K_icmp_ge 105 (pc := 65) (i := 35) rfl rfl (by omega) (by omega) (fun b65 => ?_) (fun b65 => ?_) | refine K_icmp_ge_an 105 (pc := 65) (i := 35) rfl rfl (fun b65 => ?_) (fun b65 => ?_)
            · skip
              refine K_aload_n (pc := 105) (i := 59) rfl rfl ?_
              refine K_getR (pc := 106) (i := 60) (j := 0) (d := s + 3) rfl (S_Sk hs) rfl (by decide) rfl fw_Sky_12 ?_
              refine K_iload_n (pc := 109) (i := 61) rfl rfl ?_
              refine K_cVV (pc := 110) (i := 62) rfl (c_Fleet_drop G (f := s + 3) (hf := (sk_fl hs)) (x1 := v51) (hI := hI)) (S_Fl (sk_fl hs)) rfl (lv_Sky_80 rfl) rfl rfl rfl rfl rfl (fun h110 q110 => ?_)
              obtain ⟨fx110, q110⟩ := q110
              obtain ⟨hI, fd110⟩ := q110
              have fx := fx.tr fx110 (fun c i q => (by first | (dsimp only at q ⊢; omega) | omega))
              refine K_iload_n (pc := 113) (i := 63) rfl rfl ?_
              exact K_retI (pc := 114) (i := 64) rfl rfl ⟨fx, ⟨hI, by omega, BLW.mk b51 c51 ct51 f51 hV57.2 (by omega) fd110⟩⟩
            · skip
              refine K_iload_n (pc := 68) (i := 36) rfl rfl ?_
              refine K_iload_n (pc := 69) (i := 37) rfl rfl ?_
              refine K_ishr (pc := 70) (i := 38) rfl ?_
              refine K_nm (fun v70 e70 => ?_)
              have r70 := kShr_R v51 x2
              rw [← e70] at r70
              refine K_iconst (pc := 71) (i := 39) rfl ?_
              refine K_iand (pc := 72) (i := 40) rfl ?_
              refine K_nm (fun v72 e72 => ?_)
              have r72 := kAnd_1 v70
              rw [← e72] at r72
              have t72 : v72 = if tb v51 x2 then 1 else 0 := by rw [e72, e70]; exact kbit (by omega)
              first | refine K_if_eq 99 (pc := 73) (i := 41) rfl rfl (by omega) (fun b73 => ?_) (fun b73 => ?_) | refine K_if_eq_an 99 (pc := 73) (i := 41) rfl rfl (fun b73 => ?_) (fun b73 => ?_)
              · skip
                refine K_inc (pc := 99) (i := 57) (q := 2) (lo' := [(0, _), (1, _), (2, _)]) rfl rfl rfl rfl rfl ?_
                refine K_goto 57 (pc := 102) (i := 58) rfl rfl ?_
                exact ih57 (x2 + 1) _ (by omega) hI fx (by first | exact ⟨by omega, wn98⟩ | exact ⟨by omega, hV57.2.no (by omega) (tbf t72 (by omega))⟩)
              · skip
                refine K_aload_n (pc := 76) (i := 42) rfl rfl ?_
                refine K_getR (pc := 77) (i := 43) (j := 0) (d := s + 3) rfl (S_Sk hs) rfl (by decide) rfl fw_Sky_12 ?_
                refine K_getR (pc := 80) (i := 44) (j := 5) (d := s + 3 + 6) rfl (S_Fl (sk_fl hs)) rfl (by decide) rfl fw_Sky_74 ?_
                refine K_iconst (pc := 83) (i := 45) rfl ?_
                refine K_aload_n (pc := 84) (i := 46) rfl rfl ?_
                refine K_getR (pc := 85) (i := 47) (j := 0) (d := s + 3) rfl (S_Sk hs) rfl (by decide) rfl fw_Sky_12 ?_
                refine K_getR (pc := 88) (i := 48) (j := 0) (d := s + 3 + 1) rfl (S_Fl (sk_fl hs)) rfl (by decide) rfl fw_Sky_77 ?_
                refine K_iload_n (pc := 91) (i := 49) rfl rfl ?_
                refine K_iald (pc := 92) (i := 50) rfl (S_Fl1 (sk_fl hs)) (by omega) (by omega) (by decide) ?_
                refine K_nm (fun v92 e92 => ?_)
                have r92 := rd_town hI (sk_fl hs) (x2).toNat
                rw [← e92] at r92
                have w92 : v92 = h51 (s + 3 + 1) x2.toNat := by rw [e92, hV57.2.1 _ (by omega)]
                refine K_isub (pc := 93) (i := 51) rfl ?_
                refine K_dup2 (pc := 94) (i := 52) rfl rfl rfl ?_
                refine K_iald (pc := 95) (i := 53) rfl (S_Fl6 (sk_fl hs)) (by omega) (by omega) (by decide) ?_
                refine K_nm (fun v95 e95 => ?_)
                refine K_iconst (pc := 96) (i := 54) rfl ?_
                refine K_iadd (pc := 97) (i := 55) rfl ?_
                refine K_iast (pc := 98) (i := 56) rfl (S_Fl6 (sk_fl hs)) (by omega) (by omega) (by decide) ?_
                have hI := st_won hI (sk_fl hs) (i := (1 - v92).toNat) (v := v95 + 1)
                have fx := Fx.st (c := s + 3 + 6) (i := (1 - v92).toNat) (v := v95 + 1) fx (by first | (dsimp only; omega) | omega | exact not_false)
                have wn98 := WN.yes (l := (1 - v92).toNat) (w := v95 + 1) hV57.2 (by omega) (tbx t72 (by omega)) (by omega) (by omega) e95 rfl
                refine K_inc (pc := 99) (i := 57) (q := 2) (lo' := [(0, _), (1, _), (2, _)]) rfl rfl rfl rfl rfl ?_
                refine K_goto 57 (pc := 102) (i := 58) rfl rfl ?_
                exact ih57 (x2 + 1) _ (by omega) hI fx (by first | exact ⟨by omega, wn98⟩ | exact ⟨by omega, hV57.2.no (by omega) (tbf t72 (by omega))⟩)
        exact L57 _ 0 _ (Nat.lt_succ_self _) hI fx ⟨by omega, WN.z⟩
      · skip
        refine K_aload_n (pc := 13) (i := 7) rfl rfl ?_
        refine K_getR (pc := 14) (i := 8) (j := 0) (d := s + 3) rfl (S_Sk hs) rfl (by decide) rfl fw_Sky_12 ?_
        refine K_getR (pc := 17) (i := 9) (j := 2) (d := s + 3 + 3) rfl (S_Fl (sk_fl hs)) rfl (by decide) rfl fw_Sky_65 ?_
        refine K_iload_n (pc := 20) (i := 10) rfl rfl ?_
        refine K_aload_n (pc := 21) (i := 11) rfl rfl ?_
        refine K_aload_n (pc := 22) (i := 12) rfl rfl ?_
        refine K_getR (pc := 23) (i := 13) (j := 0) (d := s + 3) rfl (S_Sk hs) rfl (by decide) rfl fw_Sky_12 ?_
        refine K_getR (pc := 26) (i := 14) (j := 2) (d := s + 3 + 3) rfl (S_Fl (sk_fl hs)) rfl (by decide) rfl fw_Sky_65 ?_
        refine K_iload_n (pc := 29) (i := 15) rfl rfl ?_
        refine K_iald (pc := 30) (i := 16) rfl (S_Fl3 (sk_fl hs)) (by omega) (by omega) (by decide) ?_
        refine K_nm (fun v30 e30 => ?_)
        have r30 := rd_x hI (sk_fl hs) (x1).toNat
        rw [← e30] at r30
        refine K_aload_n (pc := 31) (i := 17) rfl rfl ?_
        refine K_getR (pc := 32) (i := 18) (j := 0) (d := s + 3) rfl (S_Sk hs) rfl (by decide) rfl fw_Sky_12 ?_
        refine K_getR (pc := 35) (i := 19) (j := 3) (d := s + 3 + 4) rfl (S_Fl (sk_fl hs)) rfl (by decide) rfl fw_Sky_38 ?_
        refine K_iload_n (pc := 38) (i := 20) rfl rfl ?_
        refine K_iald (pc := 39) (i := 21) rfl (S_Fl4 (sk_fl hs)) (by omega) (by omega) (by decide) ?_
        refine K_nm (fun v39 e39 => ?_)
        have r39 := rd_height hI (sk_fl hs) (x1).toNat
        rw [← e39] at r39
        refine K_cVI (pc := 40) (i := 22) rfl (c_Sky_blownX G (s := s) (hs := hs) (x1 := v30) (x2 := v39) (hI := hI) (s1 := by omega) (s2 := by omega)) (S_Sk hs) rfl (lv_Sky_68 rfl) rfl rfl rfl rfl rfl (fun v40 h40 q40 => ?_)
        obtain ⟨eh, r40⟩ := q40
        rw [eh]; clear eh
        have bx40 : v40 = blX h s x1.toNat := by unfold blX; rw [r40.2, e30, e39, hV2.2.1 (s + 1) (by omega), hV2.2.1 (s + 3 + 4) (by omega), hV2.2.2, if_neg (by omega)]
        refine K_iast (pc := 43) (i := 23) rfl (S_Fl3 (sk_fl hs)) (by omega) (by omega) (by decide) ?_
        have hI := st_x hI (sk_fl hs) (i := (x1).toNat) (v := v40) (by omega)
        have fx := Fx.st (c := s + 3 + 3) (i := (x1).toNat) (v := v40) fx (by first | (dsimp only; omega) | omega | exact not_false)
        have bx43 := BX.st hV2.2 (by omega) bx40
        refine K_inc (pc := 44) (i := 24) (q := 1) (lo' := [(0, _), (1, _)]) rfl rfl rfl rfl rfl ?_
        refine K_goto 2 (pc := 47) (i := 25) rfl rfl ?_
        exact ih2 (x1 + 1) _ (by omega) hI fx ⟨by omega, bx43⟩
  exact L2 _ 0 _ (Nat.lt_succ_self _) hI fx ⟨by omega, BX.z⟩
/-- gusts, one behind another -/
def BTW (s : Nat) : Nat → kH → kH → Prop
  | 0, h, h' => h' = h
  | m + 1, h, h' => ∃ (h1 : kH) (z : Int), BTW s m h h1 ∧ kR z ∧ BLW h1 h' s z ∧ h' (s + 1) = h1 (s + 1)
theorem cw_bd (b : Int) (tn : Nat → Int) (t : Int) : ∀ k : Nat, 0 ≤ cw b tn t k ∧ cw b tn t k ≤ k := by
  intro k
  induction k with
  | zero => exact ⟨Int.le_refl 0, Int.le_refl 0⟩
  | succ k ih => rw [cw]; split <;> omega
theorem BTW.bd {s : Nat} : ∀ {m : Nat} {h h' : kH}, 0 ≤ h (s + 3) 6 → h (s + 3) 6 ≤ 8 → BTW s m h h' → (0 ≤ h' (s + 3) 6 ∧ h' (s + 3) 6 ≤ 8) ∧ ∀ t : Nat, t < 2 → h (s + 3 + 6) t ≤ h' (s + 3 + 6) t ∧ h' (s + 3 + 6) t ≤ h (s + 3 + 6) t + 8 * m := by
  intro m
  induction m with
  | zero =>
    intro h h' h0 h8 a
    have e : h' = h := a
    rw [e]
    exact ⟨⟨h0, h8⟩, fun t _ => by omega⟩
  | succ m ih =>
    intro h h' h0 h8 a
    obtain ⟨h1, z, a1, -, ⟨hx, -, -, b1, -, b3⟩, -⟩ := a
    obtain ⟨c1, c2⟩ := ih h0 h8 a1
    have hk := kc_le (pB z) (h1 (s + 3) 6).toNat
    refine ⟨by rw [b1]; omega, fun t ht => ?_⟩
    have d1 := c2 t ht
    have d2 := cw_bd z (h1 (s + 3 + 1)) t (h1 (s + 3) 6).toNat
    rw [b3 t ht]
    omega
set_option maxHeartbeats 4000000 in
set_option maxRecDepth 100000 in
theorem c_Sky_blowTimes (G : kG) {g : kGh} {h : kH} {s : Nat} (hs : s ∈ SK){x1 : Int} (s1 : 0 ≤ x1 ∧ x1 ≤ 20) (hI : Gd g h) : Ctr G y_Sky_blowTimes X_Sky_blowTimes 6 [.ref (G.2.2.2 s), kI x1] h (kQv (fun h' => Fx (fun c i => s + 2 ≤ c ∧ c ≤ s + 9) h h' ∧ (Gd g h' ∧ BTW s x1.toNat h h'))) := by
  refine Ctr.ofK (by decide) rfl T_Sky_blowTimes (Nat.le_of_ble_eq_true rfl) (lo := [(0, .ref (G.2.2.2 s)), (1, kI x1)]) rfl ?_
  have fx : Fx (fun c i => s + 2 ≤ c ∧ c ≤ s + 9) h h := Fx.rf
  refine K_iconst (pc := 0) (i := 0) rfl ?_
  refine K_ist_n (pc := 1) (i := 1) (lo' := [(0, _), (1, _), (2, _)]) rfl rfl rfl rfl ?_
  have L2 : ∀ (n : Nat) (x2 : Int) (ha : kH), (20 - x2).toNat < n → (Gd g ha) → (Fx (fun c i => s + 2 ≤ c ∧ c ≤ s + 9) h ha) → ((0 ≤ x2 ∧ x2 ≤ x1) ∧ BTW s x2.toNat h ha) → K X_Sky_blowTimes G (kZm G 6 (kQv (fun h' => Fx (fun c i => s + 2 ≤ c ∧ c ≤ s + 9) h h' ∧ (Gd g h' ∧ BTW s x1.toNat h h')))) 2 [(0, .ref (G.2.2.2 s)), (1, kI x1), (2, kI x2)] [] ha := by
    intro n
    induction n with
    | zero => intro x2 ha hm; exact absurd hm (Nat.not_lt_zero _)
    | succ n ih2 =>
      intro x2 ha hm2 hI fx hV2
      refine K_iload_n (pc := 2) (i := 2) rfl rfl ?_
      refine K_iload_n (pc := 3) (i := 3) rfl rfl ?_
      first | refine K_icmp_ge 18 (pc := 4) (i := 4) rfl rfl (by omega) (by omega) (fun b4 => ?_) (fun b4 => ?_) | refine K_icmp_ge_an 18 (pc := 4) (i := 4) rfl rfl (fun b4 => ?_) (fun b4 => ?_)
      · skip
        exact K_retV (pc := 18) (i := 10) rfl rfl ⟨fx, ⟨hI, by have q := hV2.2; rwa [show x2 = x1 by omega] at q⟩⟩
      · skip
        refine K_aload_n (pc := 7) (i := 5) rfl rfl ?_
        refine K_cVI (pc := 8) (i := 6) rfl (c_Sky_blow G (s := s) (hs := hs) (hI := hI)) (S_Sk hs) rfl (lv_Sky_57 rfl) rfl rfl rfl rfl rfl (fun v8 h8 q8 => ?_)
        obtain ⟨fx8, q8⟩ := q8
        obtain ⟨hI, r8, bw8⟩ := q8
        have fx := fx.tr fx8 (fun c i q => (by first | (dsimp only at q ⊢; omega) | omega))
        refine K_pop (pc := 11) (i := 7) rfl rfl ?_
        refine K_inc (pc := 12) (i := 8) (q := 2) (lo' := [(0, _), (1, _), (2, _)]) rfl rfl rfl rfl rfl ?_
        refine K_goto 2 (pc := 15) (i := 9) rfl rfl ?_
        exact ih2 (x2 + 1) _ (by omega) hI fx ⟨by omega, by rw [show (x2 + 1).toNat = x2.toNat + 1 by omega]; exact ⟨_, _, hV2.2, r8, bw8, fx8.cell (s + 1) (fun i => (by first | (dsimp only; omega) | omega | exact not_false))⟩⟩
  exact L2 _ 0 _ (Nat.lt_succ_self _) hI fx ⟨by omega, rfl⟩
end
section
set_option maxHeartbeats 4000000 in
set_option maxRecDepth 100000 in
theorem c_Acts_clear (G : kG) {g : kGh} {h : kH}  (hI : Gd g h) : Ctr G y_Acts_clear X_Acts_clear 1 [.ref (G.2.2.2 23)] h (kQv (fun h' => Fx (fun c i => c = 23 ∧ i = 2) h h' ∧ (Gd g h' ∧ h' 23 2 = 0))) := by
  refine Ctr.ofK (by decide) rfl T_Acts_clear (Nat.le_of_ble_eq_true rfl) (lo := [(0, .ref (G.2.2.2 23))]) rfl ?_
  have fx : Fx (fun c i => c = 23 ∧ i = 2) h h := Fx.rf
  refine K_aload_n (pc := 0) (i := 0) rfl rfl ?_
  refine K_iconst (pc := 1) (i := 1) rfl ?_
  refine K_putI (pc := 2) (i := 2) (j := 2) rfl S_23 rfl (by decide) rfl rfl rfl fw_Acts_21 ?_
  have hI := st_actsize hI (v := 0) (by omega)
  have fx := Fx.st (c := 23) (i := 2) (v := 0) fx (by first | (dsimp only; omega) | omega | exact not_false)
  exact K_retV (pc := 5) (i := 3) rfl rfl ⟨fx, ⟨hI, by rw [kU_at, if_pos ⟨rfl, rfl⟩]⟩⟩
theorem ring_ge {i q : Nat} (h : [25, 32, 39, 46, 53, 60, 67, 74, 81, 88, 95, 102, 109, 116, 123, 130][i]? = some q) : 25 ≤ q := by
  have := List.mem_of_getElem? h
  simp at this
  omega
set_option maxHeartbeats 4000000 in
set_option maxRecDepth 100000 in
theorem c_Acts_remember (G : kG) {g : kGh} {h : kH} {f : Nat} (hf : f ∈ FL) (hr : f + 7 ≤ 25 ∨ 137 ≤ f) (hI : Gd g h) : Ctr G y_Acts_remember X_Acts_remember 3 [.ref (G.2.2.2 23), .ref (G.2.2.2 f)] h (kQv (fun h' => Fx (fun c i => c = 23 ∨ (25 ≤ c ∧ c ≤ 136)) h h' ∧ (Gd g h' ∧ (∀ c, c < 23 → h' c = h c) ∧ (h' 23 1 = (h 23 1 + 1) % 16 ∧ h' 23 2 = min 16 (h 23 2 + 1)) ∧ FC h' (25 + 7 * (h 23 1).toNat) h f ∧ ∀ c, 25 ≤ c → c < 25 + 7 * (h 23 1).toNat ∨ 32 + 7 * (h 23 1).toNat ≤ c → h' c = h c))) := by
  refine Ctr.ofK (by decide) rfl T_Acts_remember (Nat.le_of_ble_eq_true rfl) (lo := [(0, .ref (G.2.2.2 23)), (1, .ref (G.2.2.2 f))]) rfl ?_
  have fx : Fx (fun c i => c = 23 ∨ (25 ≤ c ∧ c ≤ 136)) h h := Fx.rf
  refine K_aload_n (pc := 0) (i := 0) rfl rfl ?_
  refine K_getR (pc := 1) (i := 1) (j := 0) (d := 24) rfl S_23 rfl (by decide) rfl fw_Acts_11 ?_
  refine K_aload_n (pc := 4) (i := 2) rfl rfl ?_
  refine K_getI (pc := 5) (i := 3) (j := 1) rfl S_23 rfl (by decide) rfl fw_Acts_17 ?_
  refine K_nm (fun v5 e5 => ?_)
  have r5 := rd_actnext hI
  rw [← e5] at r5
  obtain ⟨q8, hq8, hfq8⟩ := ringAt (a := v5) (by omega) (by omega)
  refine K_aald (pc := 8) (i := 4) (q := q8) rfl S_24 (by decide) (by omega) (by simp; omega) (by decide) hq8 ?_
  obtain ⟨hp8, hr8⟩ := ringAt2 hq8
  have hp9 : q8 = 25 + 7 * (h 23 1).toNat := by rw [← e5]; omega
  refine K_aload_n (pc := 9) (i := 5) rfl rfl ?_
  refine K_cVV (pc := 10) (i := 6) rfl (c_Fleet_copyFrom G (f := q8) (hf := hfq8) (f2 := f) (hf2 := hf) (hI := hI) (dj := by omega)) (S_Fl hfq8) rfl (lv_Acts_25 rfl) rfl rfl rfl rfl rfl (fun h10 q10 => ?_)
  obtain ⟨fx10, q10⟩ := q10
  obtain ⟨hI, fr10, fc10⟩ := q10
  have fx := fx.tr fx10 (fun c i q => (by first | (dsimp only at q ⊢; omega) | omega))
  have k15 : h10 23 = h 23 := fr10 23 (by omega)
  refine K_aload_n (pc := 13) (i := 7) rfl rfl ?_
  refine K_aload_n (pc := 14) (i := 8) rfl rfl ?_
  refine K_getI (pc := 15) (i := 9) (j := 1) rfl S_23 rfl (by decide) rfl fw_Acts_17 ?_
  refine K_nm (fun v15 e15 => ?_)
  have r15 := rd_actnext hI
  rw [← e15] at r15
  have t15 : v15 = h 23 1 := by rw [e15, k15]
  refine K_iconst (pc := 18) (i := 10) rfl ?_
  refine K_iadd (pc := 19) (i := 11) rfl ?_
  refine K_bipush (pc := 20) (i := 12) rfl rfl ?_
  refine K_irem (pc := 22) (i := 13) rfl (by omega) (by omega) ?_
  refine K_eq (kRem_eq (by omega) (by omega) (by omega) (by omega)) ?_
  refine K_putI (pc := 23) (i := 14) (j := 1) rfl S_23 rfl (by decide) rfl rfl rfl fw_Acts_17 ?_
  have hI := st_actnext hI (v := (v15 + 1) % 16) (by omega)
  have fx := Fx.st (c := 23) (i := 1) (v := (v15 + 1) % 16) fx (by first | (dsimp only; omega) | omega | exact not_false)
  refine K_aload_n (pc := 26) (i := 15) rfl rfl ?_
  refine K_bipush (pc := 27) (i := 16) rfl rfl ?_
  refine K_aload_n (pc := 29) (i := 17) rfl rfl ?_
  refine K_getI (pc := 30) (i := 18) (j := 2) rfl S_23 rfl (by decide) rfl fw_Acts_21 ?_
  refine K_nm (fun v30 e30 => ?_)
  have r30 := rd_actsize hI
  rw [← e30] at r30
  have t30 : v30 = h 23 2 := by rw [e30, kU_at, if_neg (by omega), k15]
  refine K_iconst (pc := 33) (i := 19) rfl ?_
  refine K_iadd (pc := 34) (i := 20) rfl ?_
  refine K_mmin (pc := 35) (i := 21) rfl mw_Acts_29 (by omega) (by omega) (Nat.le_of_ble_eq_true rfl) ⟨Nat.le_of_ble_eq_true rfl, Nat.le_of_ble_eq_true rfl⟩ ⟨Nat.le_of_ble_eq_true rfl, Nat.le_of_ble_eq_true rfl⟩ ?_
  refine K_nm (fun v35 e35 => ?_)
  refine K_putI (pc := 38) (i := 22) (j := 2) rfl S_23 rfl (by decide) rfl rfl rfl fw_Acts_21 ?_
  have hI := st_actsize hI (v := v35) (by omega)
  have fx := Fx.st (c := 23) (i := 2) (v := v35) fx (by first | (dsimp only; omega) | omega | exact not_false)
  exact K_retV (pc := 41) (i := 23) rfl rfl ⟨fx, ⟨hI, fun c hc => (kU_c _ _ _ _ (by omega)).trans ((kU_c _ _ _ _ (by omega)).trans (fr10 c (Or.inl (by have := ring_ge hq8; omega)))), ⟨by rw [kU_at, if_neg (by omega), kU_at, if_pos ⟨rfl, rfl⟩, t15], by rw [kU_at, if_pos ⟨rfl, rfl⟩, e35, t30]⟩, by rw [← hp9]; exact fc10.tr (FC.same (fun c a b => (kU_c _ _ _ _ (by omega)).trans (kU_c _ _ _ _ (by omega)))), fun c a b => (kU_c _ _ _ _ (by omega)).trans ((kU_c _ _ _ _ (by omega)).trans (fr10 c (by omega)))⟩⟩
set_option maxHeartbeats 4000000 in
set_option maxRecDepth 100000 in
theorem c_Acts_takeBack (G : kG) {g : kGh} {h : kH} {f : Nat} (hf : f ∈ FL) (hr : f + 7 ≤ 23 ∨ 137 ≤ f) (hI : Gd g h) : Ctr G y_Acts_takeBack X_Acts_takeBack 3 [.ref (G.2.2.2 23), .ref (G.2.2.2 f)] h (kQi (fun z h' => Fx (fun c i => c = 23 ∨ (f ≤ c ∧ c ≤ f + 6)) h h' ∧ (Gd g h' ∧ ((z = 0 ∧ h 23 2 = 0 ∧ h' = h) ∨ (z = 1 ∧ h 23 2 ≠ 0 ∧ h' 23 1 = (h 23 1 + 15) % 16 ∧ h' 23 2 = h 23 2 - 1 ∧ FC h' f h (25 + 7 * ((h 23 1 + 15) % 16).toNat)))))) := by
  refine Ctr.ofK (by decide) rfl T_Acts_takeBack (Nat.le_of_ble_eq_true rfl) (lo := [(0, .ref (G.2.2.2 23)), (1, .ref (G.2.2.2 f))]) rfl ?_
  have fx : Fx (fun c i => c = 23 ∨ (f ≤ c ∧ c ≤ f + 6)) h h := Fx.rf
  refine K_aload_n (pc := 0) (i := 0) rfl rfl ?_
  refine K_getI (pc := 1) (i := 1) (j := 2) rfl S_23 rfl (by decide) rfl fw_Acts_21 ?_
  refine K_nm (fun v1 e1 => ?_)
  have r1 := rd_actsize hI
  rw [← e1] at r1
  first | refine K_if_ne 9 (pc := 4) (i := 2) rfl rfl (by omega) (fun b4 => ?_) (fun b4 => ?_) | refine K_if_ne_an 9 (pc := 4) (i := 2) rfl rfl (fun b4 => ?_) (fun b4 => ?_)
  · skip
    refine K_aload_n (pc := 9) (i := 5) rfl rfl ?_
    refine K_aload_n (pc := 10) (i := 6) rfl rfl ?_
    refine K_getI (pc := 11) (i := 7) (j := 1) rfl S_23 rfl (by decide) rfl fw_Acts_17 ?_
    refine K_nm (fun v11 e11 => ?_)
    have r11 := rd_actnext hI
    rw [← e11] at r11
    refine K_bipush (pc := 14) (i := 8) rfl rfl ?_
    refine K_iadd (pc := 16) (i := 9) rfl ?_
    refine K_iconst (pc := 17) (i := 10) rfl ?_
    refine K_isub (pc := 18) (i := 11) rfl ?_
    refine K_bipush (pc := 19) (i := 12) rfl rfl ?_
    refine K_irem (pc := 21) (i := 13) rfl (by omega) (by omega) ?_
    refine K_eq (kRem_eq (by omega) (by omega) (by omega) (by omega)) ?_
    refine K_putI (pc := 22) (i := 14) (j := 1) rfl S_23 rfl (by decide) rfl rfl rfl fw_Acts_17 ?_
    have hI := st_actnext hI (v := ((v11 + 16) - 1) % 16) (by omega)
    have fx := Fx.st (c := 23) (i := 1) (v := ((v11 + 16) - 1) % 16) fx (by first | (dsimp only; omega) | omega | exact not_false)
    refine K_aload_n (pc := 25) (i := 15) rfl rfl ?_
    refine K_dup (pc := 26) (i := 16) rfl rfl ?_
    refine K_getI (pc := 27) (i := 17) (j := 2) rfl S_23 rfl (by decide) rfl fw_Acts_21 ?_
    refine K_nm (fun v27 e27 => ?_)
    have r27 := rd_actsize hI
    rw [← e27] at r27
    have t27 : v27 = h 23 2 := by rw [e27, kU_at, if_neg (by omega)]
    refine K_iconst (pc := 30) (i := 18) rfl ?_
    refine K_isub (pc := 31) (i := 19) rfl ?_
    refine K_putI (pc := 32) (i := 20) (j := 2) rfl S_23 rfl (by decide) rfl rfl rfl fw_Acts_21 ?_
    have hI := st_actsize hI (v := v27 - 1) (by omega)
    have fx := Fx.st (c := 23) (i := 2) (v := v27 - 1) fx (by first | (dsimp only; omega) | omega | exact not_false)
    refine K_aload_n (pc := 35) (i := 21) rfl rfl ?_
    refine K_aload_n (pc := 36) (i := 22) rfl rfl ?_
    refine K_getR (pc := 37) (i := 23) (j := 0) (d := 24) rfl S_23 rfl (by decide) rfl fw_Acts_11 ?_
    refine K_aload_n (pc := 40) (i := 24) rfl rfl ?_
    refine K_getI (pc := 41) (i := 25) (j := 1) rfl S_23 rfl (by decide) rfl fw_Acts_17 ?_
    refine K_nm (fun v41 e41 => ?_)
    have r41 := rd_actnext hI
    rw [← e41] at r41
    have t41 : v41 = (v11 + 15) % 16 := by rw [e41, kU_at, if_neg (by omega), kU_at, if_pos ⟨rfl, rfl⟩]; omega
    obtain ⟨q44, hq44, hfq44⟩ := ringAt (a := v41) (by omega) (by omega)
    refine K_aald (pc := 44) (i := 26) (q := q44) rfl S_24 (by decide) (by omega) (by simp; omega) (by decide) hq44 ?_
    obtain ⟨hp44, hr44⟩ := ringAt2 hq44
    have hp9 : q44 = 25 + 7 * ((h 23 1 + 15) % 16).toNat := by rw [← e11, ← t41]; omega
    refine K_cVV (pc := 45) (i := 27) rfl (c_Fleet_copyFrom G (f := f) (hf := hf) (f2 := q44) (hf2 := hfq44) (hI := hI) (dj := by omega)) (S_Fl hf) rfl (lv_Acts_25 rfl) rfl rfl rfl rfl rfl (fun h45 q45 => ?_)
    obtain ⟨fx45, q45⟩ := q45
    obtain ⟨hI, fr45, fc45⟩ := q45
    have fx := fx.tr fx45 (fun c i q => (by first | (dsimp only at q ⊢; omega) | omega))
    refine K_iconst (pc := 48) (i := 28) rfl ?_
    exact K_retZ (pc := 49) (i := 29) rfl rfl (by omega) ⟨fx, ⟨hI, Or.inr ⟨rfl, by omega, by rw [fr45 23 (by omega), kU_at, if_neg (by omega), kU_at, if_pos ⟨rfl, rfl⟩]; omega, by rw [fr45 23 (by omega), kU_at, if_pos ⟨rfl, rfl⟩]; omega, by rw [← hp9]; exact (FC.same (fun c a b => (kU_c _ _ _ _ (by omega)).trans (kU_c _ _ _ _ (by omega)))).tr fc45⟩⟩⟩
  · skip
    refine K_iconst (pc := 7) (i := 3) rfl ?_
    exact K_retZ (pc := 8) (i := 4) rfl rfl (by omega) ⟨fx, ⟨hI, Or.inl ⟨rfl, by omega, rfl⟩⟩⟩
end
section
/-! lines that cross, as bits -/
def ML (h : kH) (f : Nat) (n m : Int) (a : Nat) (b : Int) : Prop := kR m ∧ ∀ j : Int, 0 ≤ j → j ≤ 31 → (tb m j = true ↔ (j < n ∧ j < b) ∧ j ≠ a ∧ mt h f a j.toNat)
section Mls
variable {h : kH} {f a : Nat} {n m b : Int}
theorem ML.z : ML h f n 0 a 0 := ⟨⟨by omega, by omega⟩, fun j h0 h1 => by
  rw [tbc_0 h0 h1]
  exact ⟨fun e => absurd e Bool.false_ne_true, fun e => absurd e.1 (by omega)⟩⟩
theorem ML.no (c : ML h f n m a b) (hb : ¬ (b ≠ a ∧ mt h f a b.toNat)) : ML h f n m a (b + 1) := ⟨c.1, fun j h0 h1 => by
  rw [c.2 j h0 h1]
  constructor
  · rintro ⟨p, q, r⟩
    exact ⟨by omega, q, r⟩
  · rintro ⟨p, q, r⟩
    refine ⟨⟨p.1, ?_⟩, q, r⟩
    by_cases e : j = b
    · subst e; exact absurd ⟨q, r⟩ hb
    · omega⟩
theorem ML.yes (c : ML h f n m a b) (h0 : 0 ≤ b ∧ b ≤ 31) (hn : b < n) (hb : b ≠ a) (hm : mt h f a b.toNat) : ML h f n (kOr m (kShl 1 b)) a (b + 1) := ⟨kOr_R _ _, fun j j0 j1 => by
  rw [bt_or, Bool.or_eq_true, c.2 j j0 j1, tbc_shl h0 j0 j1]
  constructor
  · rintro (⟨p, q, r⟩ | e)
    · exact ⟨by omega, q, r⟩
    · subst e; exact ⟨by omega, hb, hm⟩
  · rintro ⟨p, q, r⟩
    by_cases e : j = b
    · exact Or.inr e
    · exact Or.inl ⟨by omega, q, r⟩⟩
end Mls
/-- whom each kite crosses -/
def LK (h h' : kH) (f : Nat) (n : Int) : Prop := ∀ a : Nat, (a : Int) < n → kR (h' 183 a) ∧ ∀ j : Int, 0 ≤ j → j ≤ 31 → (tb (h' 183 a) j = true ↔ j < n ∧ j ≠ a ∧ mt h f a j.toNat)
theorem LK.pc {h h' : kH} {f : Nat} {n : Int} (l : LK h h' f n) (hn : 0 ≤ n ∧ n ≤ 8) {a : Nat} (ha : (a : Int) < n) : (0 ≤ h' 183 a ∧ h' 183 a ≤ 255) ∧ pcI (h' 183 a) = sm (fun b => ind (b ≠ a ∧ mt h f a b)) n.toNat := by
  obtain ⟨l1, l2⟩ := l a ha
  have q := pcI_sm (m := h' 183 a) (n := n.toNat) l1 (by omega) (fun j p q => by
    rw [← Bool.not_eq_true]
    intro e
    have := ((l2 j (by omega) q).1 e).1
    omega)
  refine ⟨q.1, q.2.trans (sm_c (fun j hj => ind_c ?_))⟩
  rw [l2 j (by omega) (by omega)]
  constructor
  · rintro ⟨x, y, z⟩
    exact ⟨by omega, z⟩
  · rintro ⟨y, z⟩
    exact ⟨by omega, by omega, z⟩
/-- none of those that are left cross -/
def LSt (M : Nat → Nat → Prop) (n s : Int) : Prop := ∀ i j : Nat, (i : Int) < n → (j : Int) < n → i ≠ j → tb s i = false → tb s j = false → ¬ M i j
theorem LSt.congr {M M' : Nat → Nat → Prop} {n s : Int} (e : ∀ i j : Nat, (i : Int) < n → (j : Int) < n → i ≠ j → (M i j ↔ M' i j)) : LSt M n s ↔ LSt M' n s := by
  constructor
  · intro a i j hi hj hne p q r
    exact a i j hi hj hne p q ((e i j hi hj hne).2 r)
  · intro a i j hi hj hne p q r
    exact a i j hi hj hne p q ((e i j hi hj hne).1 r)
/-- 2 to the k, less 1 -/
theorem all_ok : ∀ k, k < 9 → kShl 1 (k : Nat) = ((2 ^ k : Nat) : Int) ∧ ∀ j, j < 32 → (tb ((2 ^ k : Nat) - 1 : Int) (j : Nat) = true ↔ j < k) := by decide +kernel
theorem all_pc : ∀ k, k < 9 → pcN (2 ^ k - 1) = k ∧ ∀ s, s < 2 ^ k - 1 → pcN s < k := by decide +kernel
theorem and0 {a b : Int} : kAnd a b = 0 ↔ ∀ j : Int, 0 ≤ j → j ≤ 31 → ¬ (tb a j = true ∧ tb b j = true) := by
  constructor
  · intro e j h0 h1 q
    have : tb (kAnd a b) j = true := by rw [bt_and, q.1, q.2]; rfl
    rw [e, tbc_0 h0 h1] at this
    exact Bool.false_ne_true this
  · intro q
    apply tb_ext (kAnd_R _ _) ⟨by omega, by omega⟩
    intro v h0 h1
    rw [bt_and, tbc_0 h0 h1]
    have := q v h0 h1
    cases x : tb a v <;> cases y : tb b v <;> simp_all
/-- the set that is left -/
theorem left_ok {k : Nat} (hk : k < 9) {s x1 : Int} (e : x1 = kAnd ((2 ^ k : Nat) - 1 : Int) (kXor s (-1))) {j : Int} (h0 : 0 ≤ j) (h1 : j ≤ 31) : tb x1 j = true ↔ j < k ∧ tb s j = false := by
  have q := (all_ok k hk).2 j.toNat (by omega)
  rw [show ((j.toNat : Nat) : Int) = j by omega] at q
  have x : tb (kXor s (-1)) j = !(tb s j) := by
    have m : tb (-1) j = true := tbc_m1 h0 h1
    unfold tb kXor at *
    rw [Int32.ofInt_toInt]
    unfold bt at *
    rw [Int32.toBitVec_xor, BitVec.getLsbD_xor, m]
    simp
  rw [e, bt_and, Bool.and_eq_true, q, x]
  constructor
  · rintro ⟨p, r⟩
    exact ⟨by omega, by simpa using r⟩
  · rintro ⟨p, r⟩
    exact ⟨by omega, by simpa using r⟩
theorem loose_ok {h h' : kH} {f k : Nat} (hk : k < 9) {s x1 : Int} (l : LK h h' f k) (e : x1 = kAnd ((2 ^ k : Nat) - 1 : Int) (kXor s (-1))) : (∀ a : Nat, (a : Int) < k → tb x1 a = true → kAnd (h' 183 a) x1 = 0) ↔ LSt (fun i j => mt h f i j) k s := by
  constructor
  · intro a i j hi hj hne p q r
    have ti := (left_ok hk e (j := i) (by omega) (by omega)).2 ⟨hi, p⟩
    have tj := (left_ok hk e (j := j) (by omega) (by omega)).2 ⟨hj, q⟩
    have z := and0.1 (a i hi ti) j (by omega) (by omega)
    exact z ⟨((l i hi).2 j (by omega) (by omega)).2 ⟨hj, by omega, r⟩, tj⟩
  · intro a i hi ti
    have pi := (left_ok hk e (j := i) (by omega) (by omega)).1 ti
    apply and0.2
    rintro j h0 h1 ⟨p, q⟩
    obtain ⟨x, y, z⟩ := ((l i hi).2 j h0 h1).1 p
    have pj := (left_ok hk e h0 h1).1 q
    refine a i j.toNat hi (by omega) (by omega) pi.2 ?_ z
    rw [show ((j.toNat : Nat) : Int) = j by omega]
    exact pj.2
/-- the fewest of those sets -/
def FWc (L : Int → Prop) (all z c : Int) : Prop := (0 ≤ z ∧ z ≤ all) ∧ L z ∧ (∀ s : Int, 0 ≤ s → s < c → L s → pcI z ≤ pcI s) ∧ ((z = all ∧ ∀ s : Int, 0 ≤ s → s < c → L s → pcI all ≤ pcI s) ∨ (z < c ∧ ∀ s : Int, 0 ≤ s → s < z → L s → pcI z < pcI s))
theorem FWc.no {L : Int → Prop} {all z c : Int} (a : FWc L all z c) (h0 : 0 ≤ c) (hn : L c → pcI z ≤ pcI c) (hz : z = all → L c → pcI all ≤ pcI c) : FWc L all z (c + 1) := by
  obtain ⟨a1, a2, a3, a4⟩ := a
  refine ⟨a1, a2, fun s p q r => ?_, ?_⟩
  · by_cases e : s = c
    · subst e; exact hn r
    · exact a3 s p (by omega) r
  · rcases a4 with ⟨b1, b2⟩ | ⟨b1, b2⟩
    · refine Or.inl ⟨b1, fun s p q r => ?_⟩
      by_cases e : s = c
      · subst e; exact hz b1 r
      · exact b2 s p (by omega) r
    · exact Or.inr ⟨by omega, b2⟩
theorem FWc.yes {L : Int → Prop} {all z c : Int} (a : FWc L all z c) (h0 : 0 ≤ c ∧ c ≤ all) (hl : L c) (hp : pcI c < pcI z) : FWc L all c (c + 1) := by
  obtain ⟨a1, a2, a3, a4⟩ := a
  refine ⟨h0, hl, fun s p q r => ?_, Or.inr ⟨by omega, fun s p q r => ?_⟩⟩
  · by_cases e : s = c
    · subst e; exact Int.le_refl _
    · have := a3 s p (by omega) r; omega
  · have := a3 s p q r; omega
end
section
theorem kShl_le {k : Int} (h : 0 ≤ k ∧ k ≤ 8) : 1 ≤ kShl 1 k ∧ kShl 1 k ≤ 256 := by
  rcases (show k = 0 ∨ k = 1 ∨ k = 2 ∨ k = 3 ∨ k = 4 ∨ k = 5 ∨ k = 6 ∨ k = 7 ∨ k = 8 by omega) with rfl | rfl | rfl | rfl | rfl | rfl | rfl | rfl | rfl <;> decide
theorem mt_sf {h h' : kH} {f : Nat} (e : ∀ c, f ≤ c → c ≤ f + 6 → h' c = h c) (a b : Nat) : mt h' f a b ↔ mt h f a b := by
  unfold mt
  rw [e (f + 2) (by omega) (by omega), e (f + 3) (by omega) (by omega), e (f + 4) (by omega) (by omega)]
theorem ML.up {h : kH} {f a : Nat} {n m b : Int} (c : ML h f n m a b) (hb : n ≤ b) : ML h f n m a n := ⟨c.1, fun j h0 h1 => by
  rw [c.2 j h0 h1]
  constructor
  · rintro ⟨p, q⟩; exact ⟨by omega, q⟩
  · rintro ⟨p, q⟩; exact ⟨by omega, q⟩⟩
theorem LK.of {h h' : kH} {f : Nat} {n : Int} (c : ∀ a : Nat, (a : Int) < n → ML h f n (h' 183 a) a n) : LK h h' f n := fun a ha => ⟨(c a ha).1, fun j h0 h1 => by
  rw [(c a ha).2 j h0 h1]
  constructor
  · rintro ⟨p, q⟩; exact ⟨p.1, q⟩
  · rintro ⟨p, q⟩; exact ⟨⟨p, p⟩, q⟩⟩
set_option maxHeartbeats 4000000 in
set_option maxRecDepth 100000 in
theorem c_Tangle_look (G : kG) {g : kGh} {h : kH} {f : Nat} (hf : f ∈ FL) (hr : f + 7 ≤ 160) (hI : Gd g h) : Ctr G y_Tangle_look X_Tangle_look 4 [.ref (G.2.2.2 182), .ref (G.2.2.2 f)] h (kQv (fun h' => Fx (fun c i => c = 183) h h' ∧ (Gd g h' ∧ LK h h' f (h f 6)))) := by
  refine Ctr.ofK (by decide) rfl T_Tangle_look (Nat.le_of_ble_eq_true rfl) (lo := [(0, .ref (G.2.2.2 182)), (1, .ref (G.2.2.2 f))]) rfl ?_
  have fx : Fx (fun c i => c = 183) h h := Fx.rf
  have n00 := rd_kites hI hf
  refine K_iconst (pc := 0) (i := 0) rfl ?_
  refine K_ist_n (pc := 1) (i := 1) (lo' := [(0, _), (1, _), (2, _)]) rfl rfl rfl rfl ?_
  have L2 : ∀ (n : Nat) (x2 : Int) (ha : kH), (8 - x2).toNat < n → (Gd g ha) → (Fx (fun c i => c = 183) h ha) → ((0 ≤ x2 ∧ x2 ≤ 8) ∧ ∀ a : Nat, (a : Int) < x2 → ML h f (h f 6) (ha 183 a) a (h f 6)) → K X_Tangle_look G (kZm G 4 (kQv (fun h' => Fx (fun c i => c = 183) h h' ∧ (Gd g h' ∧ LK h h' f (h f 6))))) 2 [(0, .ref (G.2.2.2 182)), (1, .ref (G.2.2.2 f)), (2, kI x2)] [] ha := by
    intro n
    induction n with
    | zero => intro x2 ha hm; exact absurd hm (Nat.not_lt_zero _)
    | succ n ih2 =>
      intro x2 ha hm2 hI fx hV2
      refine K_iload_n (pc := 2) (i := 2) rfl rfl ?_
      refine K_aload_n (pc := 3) (i := 3) rfl rfl ?_
      refine K_getI (pc := 4) (i := 4) (j := 6) rfl (S_Fl hf) rfl (by decide) rfl fw_Tangle_15 ?_
      refine K_nm (fun v4 e4 => ?_)
      have r4 := rd_kites hI hf
      rw [← e4] at r4
      have n4 : v4 = h f 6 := by rw [e4]; exact fx f 6 (by first | (dsimp only; omega) | omega | exact not_false)
      first | refine K_icmp_ge 65 (pc := 7) (i := 5) rfl rfl (by omega) (by omega) (fun b7 => ?_) (fun b7 => ?_) | refine K_icmp_ge_an 65 (pc := 7) (i := 5) rfl rfl (fun b7 => ?_) (fun b7 => ?_)
      · skip
        exact K_retV (pc := 65) (i := 39) rfl rfl ⟨fx, ⟨hI, LK.of (fun a q => hV2.2 a (by omega))⟩⟩
      · skip
        refine K_aload_n (pc := 10) (i := 6) rfl rfl ?_
        refine K_getR (pc := 11) (i := 7) (j := 0) (d := 183) rfl S_182 rfl (by decide) rfl fw_Tangle_9 ?_
        refine K_iload_n (pc := 14) (i := 8) rfl rfl ?_
        refine K_iconst (pc := 15) (i := 9) rfl ?_
        refine K_iast (pc := 16) (i := 10) rfl S_183 (by omega) (by omega) (by decide) ?_
        have hI := st_free (c := 183) hI (by decide +kernel) (by decide) (i := (x2).toNat) (v := 0)
        have fx := Fx.st (c := 183) (i := (x2).toNat) (v := 0) fx (by first | (dsimp only; omega) | omega | exact not_false)
        have z16 : ML h f (h f 6) ((kU ha 183 ((x2).toNat) 0) 183 x2.toNat) x2.toNat 0 := by rw [kU_s, if_pos rfl]; exact ML.z
        refine K_iconst (pc := 17) (i := 11) rfl ?_
        refine K_ist_n (pc := 18) (i := 12) (lo' := [(0, _), (1, _), (2, _), (3, _)]) rfl rfl rfl rfl ?_
        have L19 : ∀ (n : Nat) (x3 : Int) (hb : kH), (8 - x3).toNat < n → (Gd g hb) → (Fx (fun c i => c = 183) h hb) → ((0 ≤ x3 ∧ x3 ≤ 8) ∧ ML h f (h f 6) (hb 183 x2.toNat) x2.toNat x3 ∧ ∀ a : Nat, (a : Int) < x2 → hb 183 a = ha 183 a) → K X_Tangle_look G (kZm G 4 (kQv (fun h' => Fx (fun c i => c = 183) h h' ∧ (Gd g h' ∧ LK h h' f (h f 6))))) 19 [(0, .ref (G.2.2.2 182)), (1, .ref (G.2.2.2 f)), (2, kI x2), (3, kI x3)] [] hb := by
          intro n
          induction n with
          | zero => intro x3 hb hm; exact absurd hm (Nat.not_lt_zero _)
          | succ n ih19 =>
            intro x3 hb hm19 hI fx hV19
            refine K_iload_n (pc := 19) (i := 13) rfl rfl ?_
            refine K_aload_n (pc := 20) (i := 14) rfl rfl ?_
            refine K_getI (pc := 21) (i := 15) (j := 6) rfl (S_Fl hf) rfl (by decide) rfl fw_Tangle_15 ?_
            refine K_nm (fun v21 e21 => ?_)
            have r21 := rd_kites hI hf
            rw [← e21] at r21
            have n21 : v21 = h f 6 := by rw [e21]; exact fx f 6 (by first | (dsimp only; omega) | omega | exact not_false)
            first | refine K_icmp_ge 59 (pc := 24) (i := 16) rfl rfl (by omega) (by omega) (fun b24 => ?_) (fun b24 => ?_) | refine K_icmp_ge_an 59 (pc := 24) (i := 16) rfl rfl (fun b24 => ?_) (fun b24 => ?_)
            · skip
              refine K_inc (pc := 59) (i := 37) (q := 2) (lo' := [(0, _), (1, _), (2, _), (3, _)]) rfl rfl rfl rfl rfl ?_
              refine K_goto 2 (pc := 62) (i := 38) rfl rfl ?_
              refine K_drop (lo' := [(0, .ref (G.2.2.2 182)), (1, .ref (G.2.2.2 f)), (2, kI (x2 + 1))]) [0, 1, 2] rfl ?_
              exact ih2 (x2 + 1) _ (by omega) hI fx ⟨by omega, fun a q => if e : a = x2.toNat then (by rw [e]; exact hV19.2.1.up (by omega)) else (by rw [hV19.2.2 a (by omega)]; exact hV2.2 a (by omega))⟩
            · skip
              refine K_iload_n (pc := 27) (i := 17) rfl rfl ?_
              refine K_iload_n (pc := 28) (i := 18) rfl rfl ?_
              first | refine K_icmp_eq 53 (pc := 29) (i := 19) rfl rfl (by omega) (by omega) (fun b29 => ?_) (fun b29 => ?_) | refine K_icmp_eq_an 53 (pc := 29) (i := 19) rfl rfl (fun b29 => ?_) (fun b29 => ?_)
              · skip
                refine K_inc (pc := 53) (i := 35) (q := 3) (lo' := [(0, _), (1, _), (2, _), (3, _)]) rfl rfl rfl rfl rfl ?_
                refine K_goto 19 (pc := 56) (i := 36) rfl rfl ?_
                exact ih19 (x3 + 1) _ (by omega) hI fx (by first | exact ⟨by omega, y52, o52⟩ | exact ⟨by omega, hV19.2.1.no (fun q => q.1 (by omega)), hV19.2.2⟩ | exact ⟨by omega, hV19.2.1.no (fun q => r35.elim (fun e => absurd e.1 (by omega)) (fun e => e.2 q.2)), hV19.2.2⟩)
              · skip
                refine K_aload_n (pc := 32) (i := 20) rfl rfl ?_
                refine K_iload_n (pc := 33) (i := 21) rfl rfl ?_
                refine K_iload_n (pc := 34) (i := 22) rfl rfl ?_
                refine K_cVI (pc := 35) (i := 23) rfl (c_Fleet_meet G (f := f) (hf := hf) (x1 := x2) (x2 := x3) (hI := hI) (s1 := by omega) (s2 := by omega)) (S_Fl hf) rfl (lv_Tangle_21 rfl) rfl rfl rfl rfl rfl (fun v35 h35 q35 => ?_)
                obtain ⟨eh, r35⟩ := q35
                rw [eh]; clear eh
                have sfhb : ∀ c, f ≤ c → c ≤ f + 6 → hb c = h c := fun c p q => fx.cell c (fun i => (by first | (dsimp only; omega) | omega))
                rw [mt_sf sfhb] at r35
                first | refine K_if_eq 53 (pc := 38) (i := 24) rfl rfl (by omega) (fun b38 => ?_) (fun b38 => ?_) | refine K_if_eq_an 53 (pc := 38) (i := 24) rfl rfl (fun b38 => ?_) (fun b38 => ?_)
                · skip
                  refine K_inc (pc := 53) (i := 35) (q := 3) (lo' := [(0, _), (1, _), (2, _), (3, _)]) rfl rfl rfl rfl rfl ?_
                  refine K_goto 19 (pc := 56) (i := 36) rfl rfl ?_
                  exact ih19 (x3 + 1) _ (by omega) hI fx (by first | exact ⟨by omega, y52, o52⟩ | exact ⟨by omega, hV19.2.1.no (fun q => q.1 (by omega)), hV19.2.2⟩ | exact ⟨by omega, hV19.2.1.no (fun q => r35.elim (fun e => absurd e.1 (by omega)) (fun e => e.2 q.2)), hV19.2.2⟩)
                · skip
                  refine K_aload_n (pc := 41) (i := 25) rfl rfl ?_
                  refine K_getR (pc := 42) (i := 26) (j := 0) (d := 183) rfl S_182 rfl (by decide) rfl fw_Tangle_9 ?_
                  refine K_iload_n (pc := 45) (i := 27) rfl rfl ?_
                  refine K_dup2 (pc := 46) (i := 28) rfl rfl rfl ?_
                  refine K_iald (pc := 47) (i := 29) rfl S_183 (by omega) (by omega) (by decide) ?_
                  refine K_nm (fun v47 e47 => ?_)
                  refine K_iconst (pc := 48) (i := 30) rfl ?_
                  refine K_iload_n (pc := 49) (i := 31) rfl rfl ?_
                  refine K_ishl (pc := 50) (i := 32) rfl ?_
                  refine K_nm (fun v50 e50 => ?_)
                  have r50 := kShl_R 1 x3
                  rw [← e50] at r50
                  refine K_ior (pc := 51) (i := 33) rfl ?_
                  refine K_nm (fun v51 e51 => ?_)
                  have r51 := kOr_R v47 v50
                  rw [← e51] at r51
                  refine K_iast (pc := 52) (i := 34) rfl S_183 (by omega) (by omega) (by decide) ?_
                  have hI := st_free (c := 183) hI (by decide +kernel) (by decide) (i := (x2).toNat) (v := v51)
                  have fx := Fx.st (c := 183) (i := (x2).toNat) (v := v51) fx (by first | (dsimp only; omega) | omega | exact not_false)
                  have y52 : ML h f (h f 6) ((kU hb 183 ((x2).toNat) v51) 183 x2.toNat) x2.toNat (x3 + 1) := by rw [kU_s, if_pos rfl, e51, e50, e47]; exact hV19.2.1.yes (by omega) (by omega) (by omega) (r35.elim (fun q => q.2) (fun q => absurd q.1 (by omega)))
                  have o52 : ∀ a : Nat, (a : Int) < x2 → (kU hb 183 ((x2).toNat) v51) 183 a = ha 183 a := fun a q => by rw [kU_s, if_neg (by omega)]; exact hV19.2.2 a q
                  refine K_inc (pc := 53) (i := 35) (q := 3) (lo' := [(0, _), (1, _), (2, _), (3, _)]) rfl rfl rfl rfl rfl ?_
                  refine K_goto 19 (pc := 56) (i := 36) rfl rfl ?_
                  exact ih19 (x3 + 1) _ (by omega) hI fx (by first | exact ⟨by omega, y52, o52⟩ | exact ⟨by omega, hV19.2.1.no (fun q => q.1 (by omega)), hV19.2.2⟩ | exact ⟨by omega, hV19.2.1.no (fun q => r35.elim (fun e => absurd e.1 (by omega)) (fun e => e.2 q.2)), hV19.2.2⟩)
        exact L19 _ 0 _ (Nat.lt_succ_self _) hI fx ⟨by omega, z16, fun a q => by rw [kU_s, if_neg (by omega)]⟩
  exact L2 _ 0 _ (Nat.lt_succ_self _) hI fx ⟨by omega, fun a q => absurd q (by omega)⟩
set_option maxHeartbeats 4000000 in
set_option maxRecDepth 100000 in
theorem c_Tangle_pairs (G : kG) {g : kGh} {h : kH} {f : Nat} (hf : f ∈ FL) (hr : f + 7 ≤ 160) (hI : Gd g h) : Ctr G y_Tangle_pairs X_Tangle_pairs 5 [.ref (G.2.2.2 182), .ref (G.2.2.2 f)] h (kQi (fun z h' => Fx (fun c i => c = 183) h h' ∧ (Gd g h' ∧ z = sm (fun a => sm (fun b => ind (b ≠ a ∧ mt h f a b)) (h f 6).toNat) (h f 6).toNat / 2))) := by
  refine Ctr.ofK (by decide) rfl T_Tangle_pairs (Nat.le_of_ble_eq_true rfl) (lo := [(0, .ref (G.2.2.2 182)), (1, .ref (G.2.2.2 f))]) rfl ?_
  have fx : Fx (fun c i => c = 183) h h := Fx.rf
  have n00 := rd_kites hI hf
  refine K_aload_n (pc := 0) (i := 0) rfl rfl ?_
  refine K_aload_n (pc := 1) (i := 1) rfl rfl ?_
  refine K_cVV (pc := 2) (i := 2) rfl (c_Tangle_look G (f := f) (hf := hf) (hI := hI) (hr := by omega)) S_182 rfl (lv_Tangle_25 rfl) rfl rfl rfl rfl rfl (fun h2 q2 => ?_)
  obtain ⟨fx2, q2⟩ := q2
  obtain ⟨hI, lk2⟩ := q2
  have fx := fx.tr fx2 (fun c i q => (by first | (dsimp only at q ⊢; omega) | omega))
  refine K_iconst (pc := 5) (i := 3) rfl ?_
  refine K_ist_n (pc := 6) (i := 4) (lo' := [(0, _), (1, _), (2, _)]) rfl rfl rfl rfl ?_
  refine K_iconst (pc := 7) (i := 5) rfl ?_
  refine K_ist_n (pc := 8) (i := 6) (lo' := [(0, _), (1, _), (2, _), (3, _)]) rfl rfl rfl rfl ?_
  have L9 : ∀ (n : Nat) (x2 : Int) (x3 : Int), (8 - x3).toNat < n → ((0 ≤ x3 ∧ x3 ≤ 8) ∧ (0 ≤ x2 ∧ x2 ≤ 8 * x3) ∧ x3 ≤ h f 6 ∧ x2 = sm (fun a => sm (fun b => ind (b ≠ a ∧ mt h f a b)) (h f 6).toNat) x3.toNat) → K X_Tangle_pairs G (kZm G 5 (kQi (fun z h' => Fx (fun c i => c = 183) h h' ∧ (Gd g h' ∧ z = sm (fun a => sm (fun b => ind (b ≠ a ∧ mt h f a b)) (h f 6).toNat) (h f 6).toNat / 2)))) 9 [(0, .ref (G.2.2.2 182)), (1, .ref (G.2.2.2 f)), (2, kI x2), (3, kI x3)] [] h2 := by
    intro n
    induction n with
    | zero => intro x2 x3 hm; exact absurd hm (Nat.not_lt_zero _)
    | succ n ih9 =>
      intro x2 x3 hm9 hV9
      refine K_iload_n (pc := 9) (i := 7) rfl rfl ?_
      refine K_aload_n (pc := 10) (i := 8) rfl rfl ?_
      refine K_getI (pc := 11) (i := 9) (j := 6) rfl (S_Fl hf) rfl (by decide) rfl fw_Tangle_15 ?_
      refine K_nm (fun v11 e11 => ?_)
      have r11 := rd_kites hI hf
      rw [← e11] at r11
      have n11 : v11 = h f 6 := by rw [e11]; exact fx2 f 6 (by first | (dsimp only; omega) | omega | exact not_false)
      first | refine K_icmp_ge 35 (pc := 14) (i := 10) rfl rfl (by omega) (by omega) (fun b14 => ?_) (fun b14 => ?_) | refine K_icmp_ge_an 35 (pc := 14) (i := 10) rfl rfl (fun b14 => ?_) (fun b14 => ?_)
      · skip
        refine K_iload_n (pc := 35) (i := 21) rfl rfl ?_
        refine K_iconst (pc := 36) (i := 22) rfl ?_
        refine K_idiv (pc := 37) (i := 23) rfl (by omega) (by omega) ?_
        refine K_eq (kDiv_eq (by omega) (by omega) (by omega) (by omega)) ?_
        exact K_retI (pc := 38) (i := 24) rfl rfl ⟨fx, ⟨hI, by rw [show (h f 6).toNat = x3.toNat by omega] at hV9 ⊢; rw [hV9.2.2.2]⟩⟩
      · skip
        refine K_iload_n (pc := 17) (i := 11) rfl rfl ?_
        refine K_aload_n (pc := 18) (i := 12) rfl rfl ?_
        refine K_getR (pc := 19) (i := 13) (j := 0) (d := 183) rfl S_182 rfl (by decide) rfl fw_Tangle_9 ?_
        refine K_iload_n (pc := 22) (i := 14) rfl rfl ?_
        refine K_iald (pc := 23) (i := 15) rfl S_183 (by omega) (by omega) (by decide) ?_
        refine K_nm (fun v23 e23 => ?_)
        refine K_cSI (pc := 24) (i := 16) rfl (c_Integer_bitCount G (x0 := v23)) (ls_Tangle_29 rfl) rfl rfl rfl rfl (fun v24 h24 q24 => ?_)
        obtain ⟨eh, r24⟩ := q24
        rw [eh]; clear eh
        have lp := lk2.pc (by omega) (a := x3.toNat) (by omega)
        rw [← e23] at lp
        have t24 : v24 = sm (fun b => ind (b ≠ x3.toNat ∧ mt h f x3.toNat b)) (h f 6).toNat := (r24.2 (by omega) (by omega)).trans lp.2
        have b24 := sm_bd (f := fun b => ind (b ≠ x3.toNat ∧ mt h f x3.toNat b)) (c := 1) (n := (h f 6).toNat) (fun i _ => ind_bd _)
        rw [← t24] at b24
        refine K_iadd (pc := 27) (i := 17) rfl ?_
        refine K_ist_n (pc := 28) (i := 18) (lo' := [(0, _), (1, _), (2, _), (3, _)]) rfl rfl rfl rfl ?_
        refine K_inc (pc := 29) (i := 19) (q := 3) (lo' := [(0, _), (1, _), (2, _), (3, _)]) rfl rfl rfl rfl rfl ?_
        refine K_goto 9 (pc := 32) (i := 20) rfl rfl ?_
        exact ih9 (x2 + v24) (x3 + 1) (by omega) ⟨by omega, by omega, by omega, by rw [show (x3 + 1).toNat = x3.toNat + 1 by omega, sm, ← hV9.2.2.2, ← t24]⟩
  exact L9 _ 0 0 (Nat.lt_succ_self _) ⟨by omega, by omega, by omega, rfl⟩
def LSb (h : kH) (x n : Int) : Prop := ∀ a : Nat, (a : Int) < n → tb x a = true → kAnd (h 183 a) x = 0
theorem LSb.z {h : kH} {x : Int} : LSb h x 0 := fun a q => absurd q (by omega)
theorem LSb.st {h : kH} {x n : Int} (c : LSb h x n) (h0 : 0 ≤ n) (hn : tb x n = true → kAnd (h 183 n.toNat) x = 0) : LSb h x (n + 1) := fun a q r => by
  by_cases e : a = n.toNat
  · rw [e]; exact hn (by rw [e, show ((n.toNat : Nat) : Int) = n by omega] at r; exact r)
  · exact c a (by omega) r
set_option maxHeartbeats 4000000 in
set_option maxRecDepth 100000 in
theorem c_Tangle_isLoose (G : kG) {g : kGh} {h : kH} {x1 : Int} {x2 : Int} (s2 : 0 ≤ x2 ∧ x2 ≤ 8) (hI : Gd g h) : Ctr G y_Tangle_isLoose X_Tangle_isLoose 1 [.ref (G.2.2.2 182), kI x1, kI x2] h (kQi (fun z h' => h' = h ∧ ((z = 1 ∧ LSb h x1 x2) ∨ (z = 0 ∧ ¬ LSb h x1 x2)))) := by
  refine Ctr.ofK (by decide) rfl T_Tangle_isLoose (Nat.le_of_ble_eq_true rfl) (lo := [(0, .ref (G.2.2.2 182)), (1, kI x1), (2, kI x2)]) rfl ?_
  refine K_iconst (pc := 0) (i := 0) rfl ?_
  refine K_ist_n (pc := 1) (i := 1) (lo' := [(0, _), (1, _), (2, _), (3, _)]) rfl rfl rfl rfl ?_
  have L2 : ∀ (n : Nat) (x3 : Int), (8 - x3).toNat < n → ((0 ≤ x3 ∧ x3 ≤ x2) ∧ LSb h x1 x3) → K X_Tangle_isLoose G (kZm G 1 (kQi (fun z h' => h' = h ∧ ((z = 1 ∧ LSb h x1 x2) ∨ (z = 0 ∧ ¬ LSb h x1 x2))))) 2 [(0, .ref (G.2.2.2 182)), (1, kI x1), (2, kI x2), (3, kI x3)] [] h := by
    intro n
    induction n with
    | zero => intro x3 hm; exact absurd hm (Nat.not_lt_zero _)
    | succ n ih2 =>
      intro x3 hm2 hV2
      refine K_iload_n (pc := 2) (i := 2) rfl rfl ?_
      refine K_iload_n (pc := 3) (i := 3) rfl rfl ?_
      first | refine K_icmp_ge 34 (pc := 4) (i := 4) rfl rfl (by omega) (by omega) (fun b4 => ?_) (fun b4 => ?_) | refine K_icmp_ge_an 34 (pc := 4) (i := 4) rfl rfl (fun b4 => ?_) (fun b4 => ?_)
      · skip
        refine K_iconst (pc := 34) (i := 22) rfl ?_
        exact K_retZ (pc := 35) (i := 23) rfl rfl (by omega) ⟨rfl, Or.inl ⟨rfl, by rw [show x2 = x3 by omega]; exact hV2.2⟩⟩
      · skip
        refine K_iload_n (pc := 7) (i := 5) rfl rfl ?_
        refine K_iload_n (pc := 8) (i := 6) rfl rfl ?_
        refine K_ishr (pc := 9) (i := 7) rfl ?_
        refine K_nm (fun v9 e9 => ?_)
        have r9 := kShr_R x1 x3
        rw [← e9] at r9
        refine K_iconst (pc := 10) (i := 8) rfl ?_
        refine K_iand (pc := 11) (i := 9) rfl ?_
        refine K_nm (fun v11 e11 => ?_)
        have r11 := kAnd_1 v9
        rw [← e11] at r11
        have t11 : v11 = if tb x1 x3 then 1 else 0 := by rw [e11, e9]; exact kbit (by omega)
        first | refine K_if_eq 28 (pc := 12) (i := 10) rfl rfl (by omega) (fun b12 => ?_) (fun b12 => ?_) | refine K_if_eq_an 28 (pc := 12) (i := 10) rfl rfl (fun b12 => ?_) (fun b12 => ?_)
        · skip
          refine K_inc (pc := 28) (i := 20) (q := 3) (lo' := [(0, _), (1, _), (2, _), (3, _)]) rfl rfl rfl rfl rfl ?_
          refine K_goto 2 (pc := 31) (i := 21) rfl rfl ?_
          exact ih2 (x3 + 1) (by omega) (by first | exact ⟨by omega, hV2.2.st (by omega) (fun q => absurd q (tbz t11 (by omega)))⟩ | exact ⟨by omega, hV2.2.st (by omega) (fun _ => by rw [← e20, ← e22]; omega)⟩)
        · skip
          refine K_aload_n (pc := 15) (i := 11) rfl rfl ?_
          refine K_getR (pc := 16) (i := 12) (j := 0) (d := 183) rfl S_182 rfl (by decide) rfl fw_Tangle_9 ?_
          refine K_iload_n (pc := 19) (i := 13) rfl rfl ?_
          refine K_iald (pc := 20) (i := 14) rfl S_183 (by omega) (by omega) (by decide) ?_
          refine K_nm (fun v20 e20 => ?_)
          refine K_iload_n (pc := 21) (i := 15) rfl rfl ?_
          refine K_iand (pc := 22) (i := 16) rfl ?_
          refine K_nm (fun v22 e22 => ?_)
          have r22 := kAnd_R v20 x1
          rw [← e22] at r22
          first | refine K_if_eq 28 (pc := 23) (i := 17) rfl rfl (by omega) (fun b23 => ?_) (fun b23 => ?_) | refine K_if_eq_an 28 (pc := 23) (i := 17) rfl rfl (fun b23 => ?_) (fun b23 => ?_)
          · skip
            refine K_inc (pc := 28) (i := 20) (q := 3) (lo' := [(0, _), (1, _), (2, _), (3, _)]) rfl rfl rfl rfl rfl ?_
            refine K_goto 2 (pc := 31) (i := 21) rfl rfl ?_
            exact ih2 (x3 + 1) (by omega) (by first | exact ⟨by omega, hV2.2.st (by omega) (fun q => absurd q (tbz t11 (by omega)))⟩ | exact ⟨by omega, hV2.2.st (by omega) (fun _ => by rw [← e20, ← e22]; omega)⟩)
          · skip
            refine K_iconst (pc := 26) (i := 18) rfl ?_
            exact K_retZ (pc := 27) (i := 19) rfl rfl (by omega) ⟨rfl, Or.inr ⟨rfl, fun q => absurd (q x3.toNat (by omega) (by rw [show ((x3.toNat : Nat) : Int) = x3 by omega]; exact tbx t11 (by omega))) (by rw [← e20, ← e22]; omega)⟩⟩
  exact L2 _ 0 (Nat.lt_succ_self _) ⟨by omega, LSb.z⟩
set_option maxHeartbeats 4000000 in
set_option maxRecDepth 100000 in
theorem c_Tangle_fewest (G : kG) {g : kGh} {h : kH} {f : Nat} (hf : f ∈ FL) (hr : f + 7 ≤ 160) (hI : Gd g h) : Ctr G y_Tangle_fewest X_Tangle_fewest 5 [.ref (G.2.2.2 182), .ref (G.2.2.2 f)] h (kQi (fun z h' => Fx (fun c i => c = 183) h h' ∧ (Gd g h' ∧ ∃ k : Nat, (h f 6 = k ∧ k < 9) ∧ FWc (fun s => LSt (fun i j => mt h f i j) k s) ((2 ^ k : Nat) - 1 : Int) z ((2 ^ k : Nat) : Int)))) := by
  refine Ctr.ofK (by decide) rfl T_Tangle_fewest (Nat.le_of_ble_eq_true rfl) (lo := [(0, .ref (G.2.2.2 182)), (1, .ref (G.2.2.2 f))]) rfl ?_
  have fx : Fx (fun c i => c = 183) h h := Fx.rf
  have n00 := rd_kites hI hf
  obtain ⟨kn, ekn⟩ : ∃ k : Nat, h f 6 = k := Int.eq_ofNat_of_zero_le n00.1
  have kn9 : kn < 9 := by omega
  obtain ⟨al1, al2⟩ := all_ok kn kn9
  refine K_aload_n (pc := 0) (i := 0) rfl rfl ?_
  refine K_aload_n (pc := 1) (i := 1) rfl rfl ?_
  refine K_cVV (pc := 2) (i := 2) rfl (c_Tangle_look G (f := f) (hf := hf) (hI := hI) (hr := by omega)) S_182 rfl (lv_Tangle_25 rfl) rfl rfl rfl rfl rfl (fun h2 q2 => ?_)
  obtain ⟨fx2, q2⟩ := q2
  obtain ⟨hI, lk2⟩ := q2
  have fx := fx.tr fx2 (fun c i q => (by first | (dsimp only at q ⊢; omega) | omega))
  refine K_iconst (pc := 5) (i := 3) rfl ?_
  refine K_aload_n (pc := 6) (i := 4) rfl rfl ?_
  refine K_getI (pc := 7) (i := 5) (j := 6) rfl (S_Fl hf) rfl (by decide) rfl fw_Tangle_15 ?_
  refine K_nm (fun v7 e7 => ?_)
  have r7 := rd_kites hI hf
  rw [← e7] at r7
  have n7 : v7 = kn := by rw [e7, fx2 f 6 (by first | (dsimp only; omega) | omega | exact not_false), ekn]
  refine K_ishl (pc := 10) (i := 6) rfl ?_
  refine K_nm (fun v10 e10 => ?_)
  have r10 := kShl_R 1 v7
  rw [← e10] at r10
  have t10 : 1 ≤ v10 ∧ v10 ≤ 256 := by rw [e10]; exact kShl_le (by omega)
  have y10 : v10 = ((2 ^ kn : Nat) : Int) := by rw [e10, n7]; exact al1
  refine K_iconst (pc := 11) (i := 7) rfl ?_
  refine K_isub (pc := 12) (i := 8) rfl ?_
  refine K_ist_n (pc := 13) (i := 9) (lo' := [(0, _), (1, _), (2, _)]) rfl rfl rfl rfl ?_
  refine K_iload_n (pc := 14) (i := 10) rfl rfl ?_
  refine K_ist_n (pc := 15) (i := 11) (lo' := [(0, _), (1, _), (2, _), (3, _)]) rfl rfl rfl rfl ?_
  refine K_iconst (pc := 16) (i := 12) rfl ?_
  refine K_ist (pc := 17) (i := 13) (lo' := [(0, _), (1, _), (2, _), (3, _), (4, _)]) rfl rfl rfl rfl ?_
  have L19 : ∀ (n : Nat) (x3 : Int) (x4 : Int), (257 - x4).toNat < n → ((0 ≤ x4 ∧ x4 ≤ v10) ∧ FWc (fun s => LSt (fun i j => mt h f i j) kn s) (v10 - 1) x3 x4) → K X_Tangle_fewest G (kZm G 5 (kQi (fun z h' => Fx (fun c i => c = 183) h h' ∧ (Gd g h' ∧ ∃ k : Nat, (h f 6 = k ∧ k < 9) ∧ FWc (fun s => LSt (fun i j => mt h f i j) k s) ((2 ^ k : Nat) - 1 : Int) z ((2 ^ k : Nat) : Int))))) 19 [(0, .ref (G.2.2.2 182)), (1, .ref (G.2.2.2 f)), (2, kI (v10 - 1)), (3, kI x3), (4, kI x4)] [] h2 := by
    intro n
    induction n with
    | zero => intro x3 x4 hm; exact absurd hm (Nat.not_lt_zero _)
    | succ n ih19 =>
      intro x3 x4 hm19 hV19
      refine K_iload (pc := 19) (i := 14) rfl rfl ?_
      refine K_iload_n (pc := 21) (i := 15) rfl rfl ?_
      first | refine K_icmp_gt 63 (pc := 22) (i := 16) rfl rfl (by omega) (by omega) (fun b22 => ?_) (fun b22 => ?_) | refine K_icmp_gt_an 63 (pc := 22) (i := 16) rfl rfl (fun b22 => ?_) (fun b22 => ?_)
      · skip
        refine K_iload_n (pc := 63) (i := 36) rfl rfl ?_
        exact K_retI (pc := 64) (i := 37) rfl rfl ⟨fx, ⟨hI, kn, ⟨ekn, kn9⟩, by have q := hV19.2; rw [show x4 = v10 by omega, y10] at q; exact q⟩⟩
      · skip
        refine K_iload (pc := 25) (i := 17) rfl rfl ?_
        refine K_cSI (pc := 27) (i := 18) rfl (c_Integer_bitCount G (x0 := x4)) (ls_Tangle_29 rfl) rfl rfl rfl rfl (fun v27 h27 q27 => ?_)
        obtain ⟨eh, r27⟩ := q27
        rw [eh]; clear eh
        have t27 : v27 = pcI x4 := r27.2 (by omega) (by omega)
        refine K_iload_n (pc := 30) (i := 19) rfl rfl ?_
        refine K_cSI (pc := 31) (i := 20) rfl (c_Integer_bitCount G (x0 := x3)) (ls_Tangle_29 rfl) rfl rfl rfl rfl (fun v31 h31 q31 => ?_)
        obtain ⟨eh, r31⟩ := q31
        rw [eh]; clear eh
        have t31 : v31 = pcI x3 := r31.2 (by have q := hV19.2.1; omega) (by have q := hV19.2.1; omega)
        first | refine K_icmp_ge 57 (pc := 34) (i := 21) rfl rfl (by omega) (by omega) (fun b34 => ?_) (fun b34 => ?_) | refine K_icmp_ge_an 57 (pc := 34) (i := 21) rfl rfl (fun b34 => ?_) (fun b34 => ?_)
        · skip
          refine K_inc (pc := 57) (i := 34) (q := 4) (lo' := [(0, _), (1, _), (2, _), (3, _), (4, _)]) rfl rfl rfl rfl rfl ?_
          refine K_goto 19 (pc := 60) (i := 35) rfl rfl ?_
          exact ih19 x3 (x4 + 1) (by omega) (by first | exact ⟨by omega, hV19.2.yes (by omega) (r48.elim (fun q => q.2) (fun q => absurd q.1 (by omega))) (by omega)⟩ | exact ⟨by omega, hV19.2.no (by omega) (fun _ => by omega) (fun e _ => by rw [← e]; omega)⟩ | exact ⟨by omega, hV19.2.no (by omega) (fun q => absurd q (r48.elim (fun e => absurd e.1 (by omega)) (fun e => e.2))) (fun _ q => absurd q (r48.elim (fun e => absurd e.1 (by omega)) (fun e => e.2)))⟩)
        · skip
          refine K_aload_n (pc := 37) (i := 22) rfl rfl ?_
          refine K_iload_n (pc := 38) (i := 23) rfl rfl ?_
          refine K_iload (pc := 39) (i := 24) rfl rfl ?_
          refine K_iconst (pc := 41) (i := 25) rfl ?_
          refine K_ixor (pc := 42) (i := 26) rfl ?_
          refine K_nm (fun v42 e42 => ?_)
          have r42 := kXor_R x4 (-1)
          rw [← e42] at r42
          refine K_iand (pc := 43) (i := 27) rfl ?_
          refine K_nm (fun v43 e43 => ?_)
          have r43 := kAnd_R (v10 - 1) v42
          rw [← e43] at r43
          refine K_aload_n (pc := 44) (i := 28) rfl rfl ?_
          refine K_getI (pc := 45) (i := 29) (j := 6) rfl (S_Fl hf) rfl (by decide) rfl fw_Tangle_15 ?_
          refine K_nm (fun v45 e45 => ?_)
          have r45 := rd_kites hI hf
          rw [← e45] at r45
          have n45 : v45 = kn := by rw [e45, fx2 f 6 (by first | (dsimp only; omega) | omega | exact not_false), ekn]
          refine K_cVI (pc := 48) (i := 30) rfl (c_Tangle_isLoose G (x1 := v43) (x2 := v45) (hI := hI) (s2 := by omega)) S_182 rfl (lv_Tangle_35 rfl) rfl rfl rfl rfl rfl (fun v48 h48 q48 => ?_)
          obtain ⟨eh, r48⟩ := q48
          rw [eh]; clear eh
          rw [n45] at r48
          have lk : LK h h2 f kn := by rw [← ekn]; exact lk2
          have lo : LSb h2 v43 kn ↔ LSt (fun i j => mt h f i j) kn x4 := loose_ok kn9 lk (by rw [e43, e42, ← y10])
          rw [lo] at r48
          first | refine K_if_eq 57 (pc := 51) (i := 31) rfl rfl (by omega) (fun b51 => ?_) (fun b51 => ?_) | refine K_if_eq_an 57 (pc := 51) (i := 31) rfl rfl (fun b51 => ?_) (fun b51 => ?_)
          · skip
            refine K_inc (pc := 57) (i := 34) (q := 4) (lo' := [(0, _), (1, _), (2, _), (3, _), (4, _)]) rfl rfl rfl rfl rfl ?_
            refine K_goto 19 (pc := 60) (i := 35) rfl rfl ?_
            exact ih19 x3 (x4 + 1) (by omega) (by first | exact ⟨by omega, hV19.2.yes (by omega) (r48.elim (fun q => q.2) (fun q => absurd q.1 (by omega))) (by omega)⟩ | exact ⟨by omega, hV19.2.no (by omega) (fun _ => by omega) (fun e _ => by rw [← e]; omega)⟩ | exact ⟨by omega, hV19.2.no (by omega) (fun q => absurd q (r48.elim (fun e => absurd e.1 (by omega)) (fun e => e.2))) (fun _ q => absurd q (r48.elim (fun e => absurd e.1 (by omega)) (fun e => e.2)))⟩)
          · skip
            refine K_iload (pc := 54) (i := 32) rfl rfl ?_
            refine K_ist_n (pc := 56) (i := 33) (lo' := [(0, _), (1, _), (2, _), (3, _), (4, _)]) rfl rfl rfl rfl ?_
            refine K_inc (pc := 57) (i := 34) (q := 4) (lo' := [(0, _), (1, _), (2, _), (3, _), (4, _)]) rfl rfl rfl rfl rfl ?_
            refine K_goto 19 (pc := 60) (i := 35) rfl rfl ?_
            exact ih19 x4 (x4 + 1) (by omega) (by first | exact ⟨by omega, hV19.2.yes (by omega) (r48.elim (fun q => q.2) (fun q => absurd q.1 (by omega))) (by omega)⟩ | exact ⟨by omega, hV19.2.no (by omega) (fun _ => by omega) (fun e _ => by rw [← e]; omega)⟩ | exact ⟨by omega, hV19.2.no (by omega) (fun q => absurd q (r48.elim (fun e => absurd e.1 (by omega)) (fun e => e.2))) (fun _ q => absurd q (r48.elim (fun e => absurd e.1 (by omega)) (fun e => e.2)))⟩)
  exact L19 _ (v10 - 1) 0 (Nat.lt_succ_self _) ⟨by omega, ⟨by omega, by omega⟩, (fun i j hi _ _ p _ _ => absurd p (by rw [y10, (al2 i (by omega)).2 (by omega)]; simp)), fun s p q => absurd q (by omega), Or.inl ⟨rfl, fun s p q => absurd q (by omega)⟩⟩
end
section
def ahC (h : kH) (f k a b : Nat) : Prop := mhC h f k a * kAbs (trC h f k b) < mhC h f k b * kAbs (trC h f k a) ∨ (mhC h f k a * kAbs (trC h f k b) = mhC h f k b * kAbs (trC h f k a) ∧ a < b)
set_option maxHeartbeats 4000000 in
set_option maxRecDepth 100000 in
theorem c_Tangle_isAhead (G : kG) {g : kGh} {h : kH} {f : Nat} (hf : f ∈ FL) {x1 : Int} {x2 : Int} {x3 : Int} (s1 : 0 ≤ x1 ∧ x1 ≤ 7) (s2 : 0 ≤ x2 ∧ x2 ≤ 7) (s3 : 0 ≤ x3 ∧ x3 ≤ 7) (hI : Gd g h) : Ctr G y_Tangle_isAhead X_Tangle_isAhead 3 [.ref (G.2.2.2 f), kI x1, kI x2, kI x3] h (kQi (fun z h' => h' = h ∧ ((z = 1 ∧ ahC h f x1.toNat x2.toNat x3.toNat) ∨ (z = 0 ∧ ¬ ahC h f x1.toNat x2.toNat x3.toNat)))) := by
  refine Ctr.ofK (by decide) rfl T_Tangle_isAhead (Nat.le_of_ble_eq_true rfl) (lo := [(0, .ref (G.2.2.2 f)), (1, kI x1), (2, kI x2), (3, kI x3)]) rfl ?_
  refine K_aload_n (pc := 0) (i := 0) rfl rfl ?_
  refine K_iload_n (pc := 1) (i := 1) rfl rfl ?_
  refine K_iload_n (pc := 2) (i := 2) rfl rfl ?_
  refine K_cVI (pc := 3) (i := 3) rfl (c_Fleet_meetingHeight G (f := f) (hf := hf) (x1 := x1) (x2 := x2) (hI := hI) (s1 := by omega) (s2 := by omega)) (S_Fl hf) rfl (lv_Tangle_46 rfl) rfl rfl rfl rfl rfl (fun v3 h3 q3 => ?_)
  obtain ⟨eh, r3⟩ := q3
  rw [eh]; clear eh
  refine K_aload_n (pc := 6) (i := 4) rfl rfl ?_
  refine K_iload_n (pc := 7) (i := 5) rfl rfl ?_
  refine K_iload_n (pc := 8) (i := 6) rfl rfl ?_
  refine K_cVI (pc := 9) (i := 7) rfl (c_Fleet_meetingBelow G (f := f) (hf := hf) (x1 := x1) (x2 := x3) (hI := hI) (s1 := by omega) (s2 := by omega)) (S_Fl hf) rfl (lv_Tangle_50 rfl) rfl rfl rfl rfl rfl (fun v9 h9 q9 => ?_)
  obtain ⟨eh, r9⟩ := q9
  rw [eh]; clear eh
  refine K_imul (pc := 12) (i := 8) rfl ?_
  refine K_nm (fun v12 e12 => ?_)
  have u12 := mul_bd (A := 3240) (B := 720) (a := v3) (b := v9) (by omega) (by omega)
  rw [← e12] at u12
  have y12 : v12 = mhC h f x1.toNat x2.toNat * kAbs (trC h f x1.toNat x3.toNat) := by rw [e12, r3.1, r9.1]
  refine K_ist (pc := 13) (i := 9) (lo' := [(0, _), (1, _), (2, _), (3, _), (4, _)]) rfl rfl rfl rfl ?_
  refine K_aload_n (pc := 15) (i := 10) rfl rfl ?_
  refine K_iload_n (pc := 16) (i := 11) rfl rfl ?_
  refine K_iload_n (pc := 17) (i := 12) rfl rfl ?_
  refine K_cVI (pc := 18) (i := 13) rfl (c_Fleet_meetingHeight G (f := f) (hf := hf) (x1 := x1) (x2 := x3) (hI := hI) (s1 := by omega) (s2 := by omega)) (S_Fl hf) rfl (lv_Tangle_46 rfl) rfl rfl rfl rfl rfl (fun v18 h18 q18 => ?_)
  obtain ⟨eh, r18⟩ := q18
  rw [eh]; clear eh
  refine K_aload_n (pc := 21) (i := 14) rfl rfl ?_
  refine K_iload_n (pc := 22) (i := 15) rfl rfl ?_
  refine K_iload_n (pc := 23) (i := 16) rfl rfl ?_
  refine K_cVI (pc := 24) (i := 17) rfl (c_Fleet_meetingBelow G (f := f) (hf := hf) (x1 := x1) (x2 := x2) (hI := hI) (s1 := by omega) (s2 := by omega)) (S_Fl hf) rfl (lv_Tangle_50 rfl) rfl rfl rfl rfl rfl (fun v24 h24 q24 => ?_)
  obtain ⟨eh, r24⟩ := q24
  rw [eh]; clear eh
  refine K_imul (pc := 27) (i := 18) rfl ?_
  refine K_nm (fun v27 e27 => ?_)
  have u27 := mul_bd (A := 3240) (B := 720) (a := v18) (b := v24) (by omega) (by omega)
  rw [← e27] at u27
  have y27 : v27 = mhC h f x1.toNat x3.toNat * kAbs (trC h f x1.toNat x2.toNat) := by rw [e27, r18.1, r24.1]
  refine K_ist (pc := 28) (i := 19) (lo' := [(0, _), (1, _), (2, _), (3, _), (4, _), (5, _)]) rfl rfl rfl rfl ?_
  refine K_iload (pc := 30) (i := 20) rfl rfl ?_
  refine K_iload (pc := 32) (i := 21) rfl rfl ?_
  first | refine K_icmp_lt 49 (pc := 34) (i := 22) rfl rfl (by omega) (by omega) (fun b34 => ?_) (fun b34 => ?_) | refine K_icmp_lt_an 49 (pc := 34) (i := 22) rfl rfl (fun b34 => ?_) (fun b34 => ?_)
  · skip
    refine K_iconst (pc := 49) (i := 29) rfl ?_
    refine K_goto 54 (pc := 50) (i := 30) rfl rfl ?_
    exact K_retZ (pc := 54) (i := 32) rfl rfl (by omega) ⟨rfl, by unfold ahC; rw [← y12, ← y27]; omega⟩
  · skip
    refine K_iload (pc := 37) (i := 23) rfl rfl ?_
    refine K_iload (pc := 39) (i := 24) rfl rfl ?_
    first | refine K_icmp_ne 53 (pc := 41) (i := 25) rfl rfl (by omega) (by omega) (fun b41 => ?_) (fun b41 => ?_) | refine K_icmp_ne_an 53 (pc := 41) (i := 25) rfl rfl (fun b41 => ?_) (fun b41 => ?_)
    · skip
      refine K_iconst (pc := 53) (i := 31) rfl ?_
      exact K_retZ (pc := 54) (i := 32) rfl rfl (by omega) ⟨rfl, by unfold ahC; rw [← y12, ← y27]; omega⟩
    · skip
      refine K_iload_n (pc := 44) (i := 26) rfl rfl ?_
      refine K_iload_n (pc := 45) (i := 27) rfl rfl ?_
      first | refine K_icmp_ge 53 (pc := 46) (i := 28) rfl rfl (by omega) (by omega) (fun b46 => ?_) (fun b46 => ?_) | refine K_icmp_ge_an 53 (pc := 46) (i := 28) rfl rfl (fun b46 => ?_) (fun b46 => ?_)
      · skip
        refine K_iconst (pc := 53) (i := 31) rfl ?_
        exact K_retZ (pc := 54) (i := 32) rfl rfl (by omega) ⟨rfl, by unfold ahC; rw [← y12, ← y27]; omega⟩
      · skip
        refine K_iconst (pc := 49) (i := 29) rfl ?_
        refine K_goto 54 (pc := 50) (i := 30) rfl rfl ?_
        exact K_retZ (pc := 54) (i := 32) rfl rfl (by omega) ⟨rfl, by unfold ahC; rw [← y12, ← y27]; omega⟩
set_option maxHeartbeats 4000000 in
set_option maxRecDepth 100000 in
theorem c_Tangle_countAhead (G : kG) {g : kGh} {h : kH} {f : Nat} (hf : f ∈ FL) {x2 : Int} {x3 : Int} (s2 : 0 ≤ x2 ∧ x2 ≤ 7) (s3 : 0 ≤ x3 ∧ x3 ≤ 7) (hI : Gd g h) : Ctr G y_Tangle_countAhead X_Tangle_countAhead 4 [.ref (G.2.2.2 182), .ref (G.2.2.2 f), kI x2, kI x3] h (kQi (fun z h' => h' = h ∧ (0 ≤ z ∧ z ≤ 8) ∧ z = sm (fun o => ind (tb (h 183 x2.toNat) o = true ∧ ahC h f x2.toNat o x3.toNat)) (h f 6).toNat)) := by
  refine Ctr.ofK (by decide) rfl T_Tangle_countAhead (Nat.le_of_ble_eq_true rfl) (lo := [(0, .ref (G.2.2.2 182)), (1, .ref (G.2.2.2 f)), (2, kI x2), (3, kI x3)]) rfl ?_
  have n00 := rd_kites hI hf
  refine K_iconst (pc := 0) (i := 0) rfl ?_
  refine K_ist (pc := 1) (i := 1) (lo' := [(0, _), (1, _), (2, _), (3, _), (4, _)]) rfl rfl rfl rfl ?_
  refine K_iconst (pc := 3) (i := 2) rfl ?_
  refine K_ist (pc := 4) (i := 3) (lo' := [(0, _), (1, _), (2, _), (3, _), (4, _), (5, _)]) rfl rfl rfl rfl ?_
  have L6 : ∀ (n : Nat) (x4 : Int) (x5 : Int), (8 - x5).toNat < n → ((0 ≤ x4 ∧ x4 ≤ x5 ∧ x5 ≤ 8) ∧ x5 ≤ h f 6 ∧ x4 = sm (fun o => ind (tb (h 183 x2.toNat) o = true ∧ ahC h f x2.toNat o x3.toNat)) x5.toNat) → K X_Tangle_countAhead G (kZm G 4 (kQi (fun z h' => h' = h ∧ (0 ≤ z ∧ z ≤ 8) ∧ z = sm (fun o => ind (tb (h 183 x2.toNat) o = true ∧ ahC h f x2.toNat o x3.toNat)) (h f 6).toNat))) 6 [(0, .ref (G.2.2.2 182)), (1, .ref (G.2.2.2 f)), (2, kI x2), (3, kI x3), (4, kI x4), (5, kI x5)] [] h := by
    intro n
    induction n with
    | zero => intro x4 x5 hm; exact absurd hm (Nat.not_lt_zero _)
    | succ n ih6 =>
      intro x4 x5 hm6 hV6
      refine K_iload (pc := 6) (i := 4) rfl rfl ?_
      refine K_aload_n (pc := 8) (i := 5) rfl rfl ?_
      refine K_getI (pc := 9) (i := 6) (j := 6) rfl (S_Fl hf) rfl (by decide) rfl fw_Tangle_15 ?_
      refine K_nm (fun v9 e9 => ?_)
      have r9 := rd_kites hI hf
      rw [← e9] at r9
      first | refine K_icmp_ge 49 (pc := 12) (i := 7) rfl rfl (by omega) (by omega) (fun b12 => ?_) (fun b12 => ?_) | refine K_icmp_ge_an 49 (pc := 12) (i := 7) rfl rfl (fun b12 => ?_) (fun b12 => ?_)
      · skip
        refine K_iload (pc := 49) (i := 26) rfl rfl ?_
        exact K_retI (pc := 51) (i := 27) rfl rfl ⟨rfl, by omega, by rw [show (h f 6).toNat = x5.toNat by omega]; exact hV6.2.2⟩
      · skip
        refine K_aload_n (pc := 15) (i := 8) rfl rfl ?_
        refine K_getR (pc := 16) (i := 9) (j := 0) (d := 183) rfl S_182 rfl (by decide) rfl fw_Tangle_9 ?_
        refine K_iload_n (pc := 19) (i := 10) rfl rfl ?_
        refine K_iald (pc := 20) (i := 11) rfl S_183 (by omega) (by omega) (by decide) ?_
        refine K_nm (fun v20 e20 => ?_)
        refine K_iload (pc := 21) (i := 12) rfl rfl ?_
        refine K_ishr (pc := 23) (i := 13) rfl ?_
        refine K_nm (fun v23 e23 => ?_)
        have r23 := kShr_R v20 x5
        rw [← e23] at r23
        refine K_iconst (pc := 24) (i := 14) rfl ?_
        refine K_iand (pc := 25) (i := 15) rfl ?_
        refine K_nm (fun v25 e25 => ?_)
        have r25 := kAnd_1 v23
        rw [← e25] at r25
        have t25 : v25 = if tb v20 x5 then 1 else 0 := by rw [e25, e23]; exact kbit (by omega)
        have c25 : ∀ w : Int, ((w = x4 + 1 ∧ (tb v20 x5 = true ∧ ahC h f x2.toNat x5.toNat x3.toNat)) ∨ (w = x4 ∧ ¬ (tb v20 x5 = true ∧ ahC h f x2.toNat x5.toNat x3.toNat))) → w = sm (fun o => ind (tb (h 183 x2.toNat) o = true ∧ ahC h f x2.toNat o x3.toNat)) (x5 + 1).toNat := fun w q => by rw [show (x5 + 1).toNat = x5.toNat + 1 by omega, sm, ← hV6.2.2, show ((x5.toNat : Nat) : Int) = x5 by omega, ← e20]; rcases q with q | q; (rw [ind_t q.2]; omega); (rw [ind_f q.2]; omega)
        first | refine K_if_eq 43 (pc := 26) (i := 16) rfl rfl (by omega) (fun b26 => ?_) (fun b26 => ?_) | refine K_if_eq_an 43 (pc := 26) (i := 16) rfl rfl (fun b26 => ?_) (fun b26 => ?_)
        · skip
          refine K_inc (pc := 43) (i := 24) (q := 5) (lo' := [(0, _), (1, _), (2, _), (3, _), (4, _), (5, _)]) rfl rfl rfl rfl rfl ?_
          refine K_goto 6 (pc := 46) (i := 25) rfl rfl ?_
          exact ih6 x4 (x5 + 1) (by omega) (by first | exact ⟨by omega, by omega, c25 _ (Or.inr ⟨rfl, fun q => absurd q.1 (tbz t25 (by omega))⟩)⟩ | exact ⟨by omega, by omega, c25 _ (Or.inr ⟨rfl, fun q => r34.elim (fun e => absurd e.1 (by omega)) (fun e => e.2 q.2)⟩)⟩ | exact ⟨by omega, by omega, c25 _ (Or.inl ⟨rfl, tbx t25 (by omega), r34.elim (fun e => e.2) (fun e => absurd e.1 (by omega))⟩)⟩)
        · skip
          refine K_aload_n (pc := 29) (i := 17) rfl rfl ?_
          refine K_iload_n (pc := 30) (i := 18) rfl rfl ?_
          refine K_iload (pc := 31) (i := 19) rfl rfl ?_
          refine K_iload_n (pc := 33) (i := 20) rfl rfl ?_
          refine K_cSI (pc := 34) (i := 21) rfl (c_Tangle_isAhead G (f := f) (hf := hf) (x1 := x2) (x2 := x5) (x3 := x3) (hI := hI) (s1 := by omega) (s2 := by omega) (s3 := by omega)) (ls_Tangle_42 rfl) rfl rfl rfl rfl (fun v34 h34 q34 => ?_)
          obtain ⟨eh, r34⟩ := q34
          rw [eh]; clear eh
          first | refine K_if_eq 43 (pc := 37) (i := 22) rfl rfl (by omega) (fun b37 => ?_) (fun b37 => ?_) | refine K_if_eq_an 43 (pc := 37) (i := 22) rfl rfl (fun b37 => ?_) (fun b37 => ?_)
          · skip
            refine K_inc (pc := 43) (i := 24) (q := 5) (lo' := [(0, _), (1, _), (2, _), (3, _), (4, _), (5, _)]) rfl rfl rfl rfl rfl ?_
            refine K_goto 6 (pc := 46) (i := 25) rfl rfl ?_
            exact ih6 x4 (x5 + 1) (by omega) (by first | exact ⟨by omega, by omega, c25 _ (Or.inr ⟨rfl, fun q => absurd q.1 (tbz t25 (by omega))⟩)⟩ | exact ⟨by omega, by omega, c25 _ (Or.inr ⟨rfl, fun q => r34.elim (fun e => absurd e.1 (by omega)) (fun e => e.2 q.2)⟩)⟩ | exact ⟨by omega, by omega, c25 _ (Or.inl ⟨rfl, tbx t25 (by omega), r34.elim (fun e => e.2) (fun e => absurd e.1 (by omega))⟩)⟩)
          · skip
            refine K_inc (pc := 40) (i := 23) (q := 4) (lo' := [(0, _), (1, _), (2, _), (3, _), (4, _), (5, _)]) rfl rfl rfl rfl rfl ?_
            refine K_inc (pc := 43) (i := 24) (q := 5) (lo' := [(0, _), (1, _), (2, _), (3, _), (4, _), (5, _)]) rfl rfl rfl rfl rfl ?_
            refine K_goto 6 (pc := 46) (i := 25) rfl rfl ?_
            exact ih6 (x4 + 1) (x5 + 1) (by omega) (by first | exact ⟨by omega, by omega, c25 _ (Or.inr ⟨rfl, fun q => absurd q.1 (tbz t25 (by omega))⟩)⟩ | exact ⟨by omega, by omega, c25 _ (Or.inr ⟨rfl, fun q => r34.elim (fun e => absurd e.1 (by omega)) (fun e => e.2 q.2)⟩)⟩ | exact ⟨by omega, by omega, c25 _ (Or.inl ⟨rfl, tbx t25 (by omega), r34.elim (fun e => e.2) (fun e => absurd e.1 (by omega))⟩)⟩)
  exact L6 _ 0 0 (Nat.lt_succ_self _) ⟨by omega, by omega, rfl⟩
/-- the first of n numbers of which P holds; none: -9 -/
def FST (P : Nat → Prop) (n z : Int) : Prop := (z = -9 ∧ ∀ k : Nat, (k : Int) < n → ¬ P k) ∨ (∃ k : Nat, z = k ∧ (k : Int) < n ∧ P k ∧ ∀ j : Nat, j < k → ¬ P j)
theorem FST.uniq {P P' : Nat → Prop} {n z z' : Int} (e : ∀ k : Nat, (k : Int) < n → (P k ↔ P' k)) (a : FST P n z) (b : FST P' n z') : z = z' := by
  rcases a with ⟨a1, a2⟩ | ⟨k, a1, a2, a3, a4⟩ <;> rcases b with ⟨b1, b2⟩ | ⟨l, b1, b2, b3, b4⟩
  · rw [a1, b1]
  · exact absurd ((e l b2).2 b3) (a2 l b2)
  · exact absurd ((e k a2).1 a3) (b2 k a2)
  · rcases Nat.lt_trichotomy k l with q | q | q
    · exact absurd ((e k a2).1 a3) (b4 k q)
    · rw [a1, b1, q]
    · exact absurd ((e l b2).2 b3) (a4 l q)
theorem ahC_sf {h h' : kH} {f : Nat} (e : ∀ c, f ≤ c → c ≤ f + 6 → h' c = h c) (k a b : Nat) : ahC h' f k a b ↔ ahC h f k a b := by
  unfold ahC mhC trC
  rw [e (f + 2) (by omega) (by omega), e (f + 3) (by omega) (by omega), e (f + 4) (by omega) (by omega)]
set_option maxHeartbeats 4000000 in
set_option maxRecDepth 100000 in
theorem c_Tangle_nthAlong (G : kG) {g : kGh} {h : kH} {f : Nat} (hf : f ∈ FL) (hr : f + 7 ≤ 160) {x2 : Int} {x3 : Int} (s2 : 0 ≤ x2 ∧ x2 < h f 6) (s3 : kR x3) (hI : Gd g h) : Ctr G y_Tangle_nthAlong X_Tangle_nthAlong 5 [.ref (G.2.2.2 182), .ref (G.2.2.2 f), kI x2, kI x3] h (kQi (fun z h' => Fx (fun c i => c = 183) h h' ∧ (Gd g h' ∧ FST (fun k => ((k ≠ x2.toNat ∧ mt h f x2.toNat k) ∧ sm (fun o => ind ((o ≠ x2.toNat ∧ mt h f x2.toNat o) ∧ ahC h f x2.toNat o k)) (h f 6).toNat = x3)) (h f 6) z))) := by
  refine Ctr.ofK (by decide) rfl T_Tangle_nthAlong (Nat.le_of_ble_eq_true rfl) (lo := [(0, .ref (G.2.2.2 182)), (1, .ref (G.2.2.2 f)), (2, kI x2), (3, kI x3)]) rfl ?_
  have fx : Fx (fun c i => c = 183) h h := Fx.rf
  have n00 := rd_kites hI hf
  refine K_aload_n (pc := 0) (i := 0) rfl rfl ?_
  refine K_aload_n (pc := 1) (i := 1) rfl rfl ?_
  refine K_cVV (pc := 2) (i := 2) rfl (c_Tangle_look G (f := f) (hf := hf) (hI := hI) (hr := by omega)) S_182 rfl (lv_Tangle_25 rfl) rfl rfl rfl rfl rfl (fun h2 q2 => ?_)
  obtain ⟨fx2, q2⟩ := q2
  obtain ⟨hI, lk2⟩ := q2
  have fx := fx.tr fx2 (fun c i q => (by first | (dsimp only at q ⊢; omega) | omega))
  have sf2 : ∀ c, f ≤ c → c ≤ f + 6 → h2 c = h c := fun c p q => fx2.cell c (fun i => (by first | (dsimp only; omega) | omega))
  have lq : ∀ k : Nat, (k : Int) < h f 6 → (tb (h2 183 x2.toNat) k = true ↔ k ≠ x2.toNat ∧ mt h f x2.toNat k) := fun k hk => by rw [(lk2 x2.toNat (by omega)).2 k (by omega) (by omega)]; exact ⟨fun q => ⟨by omega, q.2.2⟩, fun q => ⟨hk, by omega, q.2⟩⟩
  have sq : ∀ k : Nat, sm (fun o => ind (tb (h2 183 x2.toNat) o = true ∧ ahC h2 f x2.toNat o k)) (h f 6).toNat = sm (fun o => ind ((o ≠ x2.toNat ∧ mt h f x2.toNat o) ∧ ahC h f x2.toNat o k)) (h f 6).toNat := fun k => sm_c (fun o ho => ind_c (by rw [lq o (by omega), ahC_sf sf2]))
  refine K_iconst (pc := 5) (i := 3) rfl ?_
  refine K_ist (pc := 6) (i := 4) (lo' := [(0, _), (1, _), (2, _), (3, _), (4, _)]) rfl rfl rfl rfl ?_
  have L8 : ∀ (n : Nat) (x4 : Int), (8 - x4).toNat < n → ((0 ≤ x4 ∧ x4 ≤ 8) ∧ ∀ k : Nat, (k : Int) < x4 → ¬ ((k ≠ x2.toNat ∧ mt h f x2.toNat k) ∧ sm (fun o => ind ((o ≠ x2.toNat ∧ mt h f x2.toNat o) ∧ ahC h f x2.toNat o k)) (h f 6).toNat = x3)) → K X_Tangle_nthAlong G (kZm G 5 (kQi (fun z h' => Fx (fun c i => c = 183) h h' ∧ (Gd g h' ∧ FST (fun k => ((k ≠ x2.toNat ∧ mt h f x2.toNat k) ∧ sm (fun o => ind ((o ≠ x2.toNat ∧ mt h f x2.toNat o) ∧ ahC h f x2.toNat o k)) (h f 6).toNat = x3)) (h f 6) z)))) 8 [(0, .ref (G.2.2.2 182)), (1, .ref (G.2.2.2 f)), (2, kI x2), (3, kI x3), (4, kI x4)] [] h2 := by
    intro n
    induction n with
    | zero => intro x4 hm; exact absurd hm (Nat.not_lt_zero _)
    | succ n ih8 =>
      intro x4 hm8 hV8
      refine K_iload (pc := 8) (i := 5) rfl rfl ?_
      refine K_aload_n (pc := 10) (i := 6) rfl rfl ?_
      refine K_getI (pc := 11) (i := 7) (j := 6) rfl (S_Fl hf) rfl (by decide) rfl fw_Tangle_15 ?_
      refine K_nm (fun v11 e11 => ?_)
      have r11 := rd_kites hI hf
      rw [← e11] at r11
      have n11 : v11 = h f 6 := by rw [e11]; exact congrFun (sf2 f (by omega) (by omega)) 6
      first | refine K_icmp_ge 52 (pc := 14) (i := 8) rfl rfl (by omega) (by omega) (fun b14 => ?_) (fun b14 => ?_) | refine K_icmp_ge_an 52 (pc := 14) (i := 8) rfl rfl (fun b14 => ?_) (fun b14 => ?_)
      · skip
        refine K_bipush (pc := 52) (i := 29) rfl rfl ?_
        exact K_retI (pc := 54) (i := 30) rfl rfl ⟨fx, ⟨hI, Or.inl ⟨rfl, fun k hk => hV8.2 k (by omega)⟩⟩⟩
      · skip
        refine K_aload_n (pc := 17) (i := 9) rfl rfl ?_
        refine K_getR (pc := 18) (i := 10) (j := 0) (d := 183) rfl S_182 rfl (by decide) rfl fw_Tangle_9 ?_
        refine K_iload_n (pc := 21) (i := 11) rfl rfl ?_
        refine K_iald (pc := 22) (i := 12) rfl S_183 (by omega) (by omega) (by decide) ?_
        refine K_nm (fun v22 e22 => ?_)
        refine K_iload (pc := 23) (i := 13) rfl rfl ?_
        refine K_ishr (pc := 25) (i := 14) rfl ?_
        refine K_nm (fun v25 e25 => ?_)
        have r25 := kShr_R v22 x4
        rw [← e25] at r25
        refine K_iconst (pc := 26) (i := 15) rfl ?_
        refine K_iand (pc := 27) (i := 16) rfl ?_
        refine K_nm (fun v27 e27 => ?_)
        have r27 := kAnd_1 v25
        rw [← e27] at r27
        have t27 : v27 = if tb v22 x4 then 1 else 0 := by rw [e27, e25]; exact kbit (by omega)
        have y27 : tb v22 x4 = true ↔ x4.toNat ≠ x2.toNat ∧ mt h f x2.toNat x4.toNat := by have q := lq x4.toNat (by omega); rw [show ((x4.toNat : Nat) : Int) = x4 by omega, ← e22] at q; exact q
        first | refine K_if_eq 46 (pc := 28) (i := 17) rfl rfl (by omega) (fun b28 => ?_) (fun b28 => ?_) | refine K_if_eq_an 46 (pc := 28) (i := 17) rfl rfl (fun b28 => ?_) (fun b28 => ?_)
        · skip
          refine K_inc (pc := 46) (i := 27) (q := 4) (lo' := [(0, _), (1, _), (2, _), (3, _), (4, _)]) rfl rfl rfl rfl rfl ?_
          refine K_goto 8 (pc := 49) (i := 28) rfl rfl ?_
          exact ih8 (x4 + 1) (by omega) (by first | exact ⟨by omega, fun k q => if e : k = x4.toNat then (by subst e; exact fun r => absurd (y27.2 r.1) (tbz t27 (by omega))) else hV8.2 k (by omega)⟩ | exact ⟨by omega, fun k q => if e : k = x4.toNat then (by subst e; exact fun r => absurd r.2 (by rw [← t36]; omega)) else hV8.2 k (by omega)⟩)
        · skip
          refine K_aload_n (pc := 31) (i := 18) rfl rfl ?_
          refine K_aload_n (pc := 32) (i := 19) rfl rfl ?_
          refine K_iload_n (pc := 33) (i := 20) rfl rfl ?_
          refine K_iload (pc := 34) (i := 21) rfl rfl ?_
          refine K_cVI (pc := 36) (i := 22) rfl (c_Tangle_countAhead G (f := f) (hf := hf) (x2 := x2) (x3 := x4) (hI := hI) (s2 := by omega) (s3 := by omega)) S_182 rfl (lv_Tangle_38 rfl) rfl rfl rfl rfl rfl (fun v36 h36 q36 => ?_)
          obtain ⟨eh, r36⟩ := q36
          rw [eh]; clear eh
          have t36 : v36 = sm (fun o => ind ((o ≠ x2.toNat ∧ mt h f x2.toNat o) ∧ ahC h f x2.toNat o x4.toNat)) (h f 6).toNat := by rw [r36.2, show h2 f 6 = h f 6 from congrFun (sf2 f (by omega) (by omega)) 6]; exact sq x4.toNat
          refine K_iload_n (pc := 39) (i := 23) rfl rfl ?_
          first | refine K_icmp_ne 46 (pc := 40) (i := 24) rfl rfl (by omega) (by omega) (fun b40 => ?_) (fun b40 => ?_) | refine K_icmp_ne_an 46 (pc := 40) (i := 24) rfl rfl (fun b40 => ?_) (fun b40 => ?_)
          · skip
            refine K_inc (pc := 46) (i := 27) (q := 4) (lo' := [(0, _), (1, _), (2, _), (3, _), (4, _)]) rfl rfl rfl rfl rfl ?_
            refine K_goto 8 (pc := 49) (i := 28) rfl rfl ?_
            exact ih8 (x4 + 1) (by omega) (by first | exact ⟨by omega, fun k q => if e : k = x4.toNat then (by subst e; exact fun r => absurd (y27.2 r.1) (tbz t27 (by omega))) else hV8.2 k (by omega)⟩ | exact ⟨by omega, fun k q => if e : k = x4.toNat then (by subst e; exact fun r => absurd r.2 (by rw [← t36]; omega)) else hV8.2 k (by omega)⟩)
          · skip
            refine K_iload (pc := 43) (i := 25) rfl rfl ?_
            exact K_retI (pc := 45) (i := 26) rfl rfl ⟨fx, ⟨hI, Or.inr ⟨x4.toNat, by omega, by omega, ⟨y27.1 (tbx t27 (by omega)), by rw [← t36]; omega⟩, fun j hj => hV8.2 j (by omega)⟩⟩⟩
  exact L8 _ 0 (Nat.lt_succ_self _) ⟨by omega, fun k q => absurd q (by omega)⟩
end
