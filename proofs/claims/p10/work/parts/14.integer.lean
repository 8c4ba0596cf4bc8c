set_option maxHeartbeats 4000000 in
set_option maxRecDepth 100000 in
theorem c_Integer_signum (G : kG)  {h : kH} {x0 : Int} : Ctr G y_Integer_signum X_Integer_signum 1 [kI x0] h (kQi (fun z h' => h' = h ∧ kR z ∧ (-1000 ≤ x0 → x0 ≤ 1000 → z = x0.sign))) := by
  refine Ctr.ofK (by decide) rfl T_Integer_signum (Nat.le_of_ble_eq_true rfl) (lo := [(0, kI x0)]) rfl ?_
  refine K_iload_n (pc := 0) (i := 0) rfl rfl ?_
  refine K_bipush (pc := 1) (i := 1) rfl rfl ?_
  refine K_ishr (pc := 3) (i := 2) rfl ?_
  refine K_nm (fun v3 e3 => ?_)
  have r3 := kShr_R x0 31
  rw [← e3] at r3
  refine K_iload_n (pc := 4) (i := 3) rfl rfl ?_
  refine K_ineg (pc := 5) (i := 4) rfl ?_
  refine K_bipush (pc := 6) (i := 5) rfl rfl ?_
  refine K_iushr (pc := 8) (i := 6) rfl ?_
  refine K_nm (fun v8 e8 => ?_)
  have r8 := kUshr_R (-x0) 31
  rw [← e8] at r8
  refine K_ior (pc := 9) (i := 7) rfl ?_
  refine K_nm (fun v9 e9 => ?_)
  have r9 := kOr_R v3 v8
  rw [← e9] at r9
  exact K_retI (pc := 10) (i := 8) rfl rfl ⟨rfl, by omega, fun a b => by rw [e9, e3, e8]; exact sgn_ok a b⟩
set_option maxHeartbeats 4000000 in
set_option maxRecDepth 100000 in
theorem c_Integer_bitCount (G : kG)  {h : kH} {x0 : Int} : Ctr G y_Integer_bitCount X_Integer_bitCount 1 [kI x0] h (kQi (fun z h' => h' = h ∧ kR z ∧ (0 ≤ x0 → x0 < 16777216 → z = pcI x0))) := by
  refine Ctr.ofK (by decide) rfl T_Integer_bitCount (Nat.le_of_ble_eq_true rfl) (lo := [(0, kI x0)]) rfl ?_
  refine K_iload_n (pc := 0) (i := 0) rfl rfl ?_
  refine K_iload_n (pc := 1) (i := 1) rfl rfl ?_
  refine K_iconst (pc := 2) (i := 2) rfl ?_
  refine K_iushr (pc := 3) (i := 3) rfl ?_
  refine K_nm (fun v3 e3 => ?_)
  have r3 := kUshr_R x0 1
  rw [← e3] at r3
  refine K_ldcw 1431655765 (pc := 4) (i := 4) rfl ci_Integer_265 (by decide) ?_
  refine K_iand (pc := 7) (i := 5) rfl ?_
  refine K_nm (fun v7 e7 => ?_)
  have r7 := kAnd_R v3 1431655765
  rw [← e7] at r7
  refine K_isub (pc := 8) (i := 6) rfl ?_
  refine K_nm (fun v8 e8 => ?_)
  refine K_ist_n (pc := 9) (i := 7) (lo' := [(0, _)]) rfl rfl rfl rfl ?_
  refine K_iload_n (pc := 10) (i := 8) rfl rfl ?_
  refine K_ldcw 858993459 (pc := 11) (i := 9) rfl ci_Integer_266 (by decide) ?_
  refine K_iand (pc := 14) (i := 10) rfl ?_
  refine K_nm (fun v14 e14 => ?_)
  have r14 := kAnd_R v8 858993459
  rw [← e14] at r14
  refine K_iload_n (pc := 15) (i := 11) rfl rfl ?_
  refine K_iconst (pc := 16) (i := 12) rfl ?_
  refine K_iushr (pc := 17) (i := 13) rfl ?_
  refine K_nm (fun v17 e17 => ?_)
  have r17 := kUshr_R v8 2
  rw [← e17] at r17
  refine K_ldcw 858993459 (pc := 18) (i := 14) rfl ci_Integer_266 (by decide) ?_
  refine K_iand (pc := 21) (i := 15) rfl ?_
  refine K_nm (fun v21 e21 => ?_)
  have r21 := kAnd_R v17 858993459
  rw [← e21] at r21
  refine K_iadd (pc := 22) (i := 16) rfl ?_
  refine K_nm (fun v22 e22 => ?_)
  refine K_ist_n (pc := 23) (i := 17) (lo' := [(0, _)]) rfl rfl rfl rfl ?_
  refine K_iload_n (pc := 24) (i := 18) rfl rfl ?_
  refine K_iload_n (pc := 25) (i := 19) rfl rfl ?_
  refine K_iconst (pc := 26) (i := 20) rfl ?_
  refine K_iushr (pc := 27) (i := 21) rfl ?_
  refine K_nm (fun v27 e27 => ?_)
  have r27 := kUshr_R v22 4
  rw [← e27] at r27
  refine K_iadd (pc := 28) (i := 22) rfl ?_
  refine K_nm (fun v28 e28 => ?_)
  refine K_ldcw 252645135 (pc := 29) (i := 23) rfl ci_Integer_267 (by decide) ?_
  refine K_iand (pc := 32) (i := 24) rfl ?_
  refine K_nm (fun v32 e32 => ?_)
  have r32 := kAnd_R v28 252645135
  rw [← e32] at r32
  refine K_ist_n (pc := 33) (i := 25) (lo' := [(0, _)]) rfl rfl rfl rfl ?_
  refine K_iload_n (pc := 34) (i := 26) rfl rfl ?_
  refine K_iload_n (pc := 35) (i := 27) rfl rfl ?_
  refine K_bipush (pc := 36) (i := 28) rfl rfl ?_
  refine K_iushr (pc := 38) (i := 29) rfl ?_
  refine K_nm (fun v38 e38 => ?_)
  have r38 := kUshr_R v32 8
  rw [← e38] at r38
  refine K_iadd (pc := 39) (i := 30) rfl ?_
  refine K_nm (fun v39 e39 => ?_)
  refine K_ist_n (pc := 40) (i := 31) (lo' := [(0, _)]) rfl rfl rfl rfl ?_
  refine K_iload_n (pc := 41) (i := 32) rfl rfl ?_
  refine K_iload_n (pc := 42) (i := 33) rfl rfl ?_
  refine K_bipush (pc := 43) (i := 34) rfl rfl ?_
  refine K_iushr (pc := 45) (i := 35) rfl ?_
  refine K_nm (fun v45 e45 => ?_)
  have r45 := kUshr_R v39 16
  rw [← e45] at r45
  refine K_iadd (pc := 46) (i := 36) rfl ?_
  refine K_nm (fun v46 e46 => ?_)
  refine K_ist_n (pc := 47) (i := 37) (lo' := [(0, _)]) rfl rfl rfl rfl ?_
  refine K_iload_n (pc := 48) (i := 38) rfl rfl ?_
  refine K_bipush (pc := 49) (i := 39) rfl rfl ?_
  refine K_iand (pc := 51) (i := 40) rfl ?_
  refine K_nm (fun v51 e51 => ?_)
  have r51 := kAnd_R v46 63
  rw [← e51] at r51
  exact K_retI (pc := 52) (i := 41) rfl rfl ⟨rfl, by omega, fun p q => bc_ok p q e3 e7 e8 e14 e17 e21 e22 e27 e28 e32 e38 e39 e45 e46 e51⟩
