set_option maxHeartbeats 4000000 in
set_option maxRecDepth 100000 in
theorem c_Integer_signum (G : kG)  {h : kH} {x0 : Int} : Ctr G y_Integer_signum X_Integer_signum 1 [kI x0] h (kQi (fun z h' => h' = h ∧ kR z ∧ (-1000 ≤ x0 → x0 ≤ 1000 → z = x0.sign))) := by
  refine Ctr.ofK (by decide) rfl T_Integer_signum (Nat.le_of_ble_eq_true rfl) (lo := [(0, kI x0)]) rfl ?_
  refine K_iload_n (pc := 0) (i := 0) rfl rfl ?_
  refine K_bipush (pc := 1) (i := 1) rfl rfl ?_
  refine K_ishr (pc := 3) (i := 2) rfl ?_
  refine K_nm (fun v3 e3 => ?_)
  have r3 := kShr_R x0 31
  rw [← e3] at r3
  refine K_iload_n (pc := 4) (i := 3) rfl rfl ?_
  refine K_ineg (pc := 5) (i := 4) rfl ?_
  refine K_bipush (pc := 6) (i := 5) rfl rfl ?_
  refine K_iushr (pc := 8) (i := 6) rfl ?_
  refine K_nm (fun v8 e8 => ?_)
  have r8 := kUshr_R (-x0) 31
  rw [← e8] at r8
  refine K_ior (pc := 9) (i := 7) rfl ?_
  refine K_nm (fun v9 e9 => ?_)
  have r9 := kOr_R v3 v8
  rw [← e9] at r9
  exact K_retI (pc := 10) (i := 8) rfl rfl ⟨rfl, by omega, fun a b => by rw [e9, e3, e8]; exact sgn_ok a b⟩
set_option maxHeartbeats 4000000 in
set_option maxRecDepth 100000 in
theorem c_Integer_bitCount (G : kG)  {h : kH} {x0 : Int} : Ctr G y_Integer_bitCount X_Integer_bitCount 1 [kI x0] h (kQi (fun z h' => h' = h ∧ kR z)) := by
  refine Ctr.ofK (by decide) rfl T_Integer_bitCount (Nat.le_of_ble_eq_true rfl) (lo := [(0, kI x0)]) rfl ?_
  refine K_iload_n (pc := 0) (i := 0) rfl rfl ?_
  refine K_iload_n (pc := 1) (i := 1) rfl rfl ?_
  refine K_iconst (pc := 2) (i := 2) rfl ?_
  refine K_iushr (pc := 3) (i := 3) rfl ?_
  refine K_any (fun v3 r3 => ?_)
  refine K_ldcw 1431655765 (pc := 4) (i := 4) rfl ci_Integer_265 (by decide) ?_
  refine K_iand (pc := 7) (i := 5) rfl ?_
  refine K_any (fun v7 r7 => ?_)
  refine K_isub (pc := 8) (i := 6) rfl ?_
  refine K_any (fun v8 r8 => ?_)
  refine K_ist_n (pc := 9) (i := 7) (lo' := [(0, _)]) rfl rfl rfl rfl ?_
  refine K_iload_n (pc := 10) (i := 8) rfl rfl ?_
  refine K_ldcw 858993459 (pc := 11) (i := 9) rfl ci_Integer_266 (by decide) ?_
  refine K_iand (pc := 14) (i := 10) rfl ?_
  refine K_any (fun v14 r14 => ?_)
  refine K_iload_n (pc := 15) (i := 11) rfl rfl ?_
  refine K_iconst (pc := 16) (i := 12) rfl ?_
  refine K_iushr (pc := 17) (i := 13) rfl ?_
  refine K_any (fun v17 r17 => ?_)
  refine K_ldcw 858993459 (pc := 18) (i := 14) rfl ci_Integer_266 (by decide) ?_
  refine K_iand (pc := 21) (i := 15) rfl ?_
  refine K_any (fun v21 r21 => ?_)
  refine K_iadd (pc := 22) (i := 16) rfl ?_
  refine K_any (fun v22 r22 => ?_)
  refine K_ist_n (pc := 23) (i := 17) (lo' := [(0, _)]) rfl rfl rfl rfl ?_
  refine K_iload_n (pc := 24) (i := 18) rfl rfl ?_
  refine K_iload_n (pc := 25) (i := 19) rfl rfl ?_
  refine K_iconst (pc := 26) (i := 20) rfl ?_
  refine K_iushr (pc := 27) (i := 21) rfl ?_
  refine K_any (fun v27 r27 => ?_)
  refine K_iadd (pc := 28) (i := 22) rfl ?_
  refine K_any (fun v28 r28 => ?_)
  refine K_ldcw 252645135 (pc := 29) (i := 23) rfl ci_Integer_267 (by decide) ?_
  refine K_iand (pc := 32) (i := 24) rfl ?_
  refine K_any (fun v32 r32 => ?_)
  refine K_ist_n (pc := 33) (i := 25) (lo' := [(0, _)]) rfl rfl rfl rfl ?_
  refine K_iload_n (pc := 34) (i := 26) rfl rfl ?_
  refine K_iload_n (pc := 35) (i := 27) rfl rfl ?_
  refine K_bipush (pc := 36) (i := 28) rfl rfl ?_
  refine K_iushr (pc := 38) (i := 29) rfl ?_
  refine K_any (fun v38 r38 => ?_)
  refine K_iadd (pc := 39) (i := 30) rfl ?_
  refine K_any (fun v39 r39 => ?_)
  refine K_ist_n (pc := 40) (i := 31) (lo' := [(0, _)]) rfl rfl rfl rfl ?_
  refine K_iload_n (pc := 41) (i := 32) rfl rfl ?_
  refine K_iload_n (pc := 42) (i := 33) rfl rfl ?_
  refine K_bipush (pc := 43) (i := 34) rfl rfl ?_
  refine K_iushr (pc := 45) (i := 35) rfl ?_
  refine K_any (fun v45 r45 => ?_)
  refine K_iadd (pc := 46) (i := 36) rfl ?_
  refine K_any (fun v46 r46 => ?_)
  refine K_ist_n (pc := 47) (i := 37) (lo' := [(0, _)]) rfl rfl rfl rfl ?_
  refine K_iload_n (pc := 48) (i := 38) rfl rfl ?_
  refine K_bipush (pc := 49) (i := 39) rfl rfl ?_
  refine K_iand (pc := 51) (i := 40) rfl ?_
  refine K_any (fun v51 r51 => ?_)
  exact K_retI (pc := 52) (i := 41) rfl rfl ⟨rfl, by omega⟩
