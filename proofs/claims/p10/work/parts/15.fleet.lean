set_option maxHeartbeats 4000000 in
set_option maxRecDepth 100000 in
theorem c_Fleet_clear (G : kG) {g : kGh} {h : kH} {f : Nat} (hf : f ∈ FL) (hI : Gd g h) : Ctr G y_Fleet_clear X_Fleet_clear 1 [.ref (G.2.2.2 f)] h (kQv (fun h' => Fx (fun c i => f ≤ c ∧ c ≤ f + 6) h h' ∧ (Gd g h' ∧ FrF f h h' ∧ (h' f 6 = 0 ∧ h' (f + 6) 0 = 0 ∧ h' (f + 6) 1 = 0)))) := by
  refine Ctr.ofK (by decide) rfl T_Fleet_clear (Nat.le_of_ble_eq_true rfl) (lo := [(0, .ref (G.2.2.2 f))]) rfl ?_
  have fx : Fx (fun c i => f ≤ c ∧ c ≤ f + 6) h h := Fx.rf
  refine K_aload_n (pc := 0) (i := 0) rfl rfl ?_
  refine K_iconst (pc := 1) (i := 1) rfl ?_
  refine K_putI (pc := 2) (i := 2) (j := 6) rfl (S_Fl hf) rfl (by decide) rfl rfl rfl fw_Fleet_30 ?_
  have hI := st_kites hI hf (v := 0) (by omega)
  have fx := Fx.st (c := f) (i := 6) (v := 0) fx (by first | (dsimp only; omega) | omega | exact not_false)
  refine K_aload_n (pc := 5) (i := 3) rfl rfl ?_
  refine K_getR (pc := 6) (i := 4) (j := 5) (d := f + 6) rfl (S_Fl hf) rfl (by decide) rfl fw_Fleet_27 ?_
  refine K_iconst (pc := 9) (i := 5) rfl ?_
  refine K_iconst (pc := 10) (i := 6) rfl ?_
  refine K_iast (pc := 11) (i := 7) rfl (S_Fl6 hf) (by omega) (by omega) (by decide) ?_
  have hI := st_won hI hf (i := (0 : Int).toNat) (v := 0)
  have fx := Fx.st (c := f + 6) (i := (0 : Int).toNat) (v := 0) fx (by first | (dsimp only; omega) | omega | exact not_false)
  refine K_aload_n (pc := 12) (i := 8) rfl rfl ?_
  refine K_getR (pc := 13) (i := 9) (j := 5) (d := f + 6) rfl (S_Fl hf) rfl (by decide) rfl fw_Fleet_27 ?_
  refine K_iconst (pc := 16) (i := 10) rfl ?_
  refine K_iconst (pc := 17) (i := 11) rfl ?_
  refine K_iast (pc := 18) (i := 12) rfl (S_Fl6 hf) (by omega) (by omega) (by decide) ?_
  have hI := st_won hI hf (i := (1 : Int).toNat) (v := 0)
  have fx := Fx.st (c := f + 6) (i := (1 : Int).toNat) (v := 0) fx (by first | (dsimp only; omega) | omega | exact not_false)
  exact K_retV (pc := 19) (i := 13) rfl rfl ⟨fx, ⟨hI, ((FrF.rf.st (k := 0) (by omega)).st (k := 6) (by omega)).st (k := 6) (by omega), by rw [kU_at, if_neg (by omega), kU_at, if_neg (by omega), kU_at, if_pos (by omega)], by rw [kU_at, if_neg (by omega), kU_at, if_pos ⟨rfl, rfl⟩], by rw [kU_at, if_pos ⟨rfl, rfl⟩]⟩⟩
set_option maxHeartbeats 4000000 in
set_option maxRecDepth 100000 in
theorem c_Fleet_copyFrom (G : kG) {g : kGh} {h : kH} {f : Nat} (hf : f ∈ FL) {f2 : Nat} (hf2 : f2 ∈ FL) (dj : f + 7 ≤ f2 ∨ f2 + 7 ≤ f) (hI : Gd g h) : Ctr G y_Fleet_copyFrom X_Fleet_copyFrom 2 [.ref (G.2.2.2 f), .ref (G.2.2.2 f2)] h (kQv (fun h' => Fx (fun c i => f ≤ c ∧ c ≤ f + 6) h h' ∧ (Gd g h' ∧ FrF f h h' ∧ FC h' f h f2))) := by
  refine Ctr.ofK (by decide) rfl T_Fleet_copyFrom (Nat.le_of_ble_eq_true rfl) (lo := [(0, .ref (G.2.2.2 f)), (1, .ref (G.2.2.2 f2))]) rfl ?_
  have fx : Fx (fun c i => f ≤ c ∧ c ≤ f + 6) h h := Fx.rf
  refine K_aload_n (pc := 0) (i := 0) rfl rfl ?_
  refine K_aload_n (pc := 1) (i := 1) rfl rfl ?_
  refine K_getI (pc := 2) (i := 2) (j := 6) rfl (S_Fl hf2) rfl (by decide) rfl fw_Fleet_30 ?_
  refine K_nm (fun v2 e2 => ?_)
  have r2 := rd_kites hI hf2
  rw [← e2] at r2
  refine K_putI (pc := 5) (i := 3) (j := 6) rfl (S_Fl hf) rfl (by decide) rfl rfl rfl fw_Fleet_30 ?_
  have hI := st_kites hI hf (v := v2) (by omega)
  have fx := Fx.st (c := f) (i := 6) (v := v2) fx (by first | (dsimp only; omega) | omega | exact not_false)
  have cp5 : CP h (kU h f 6 v2) f f2 0 := by rw [e2]; exact CP.z
  refine K_aload_n (pc := 8) (i := 4) rfl rfl ?_
  refine K_getR (pc := 9) (i := 5) (j := 0) (d := f2 + 1) rfl (S_Fl hf2) rfl (by decide) rfl fw_Fleet_9 ?_
  refine K_iconst (pc := 12) (i := 6) rfl ?_
  refine K_aload_n (pc := 13) (i := 7) rfl rfl ?_
  refine K_getR (pc := 14) (i := 8) (j := 0) (d := f + 1) rfl (S_Fl hf) rfl (by decide) rfl fw_Fleet_9 ?_
  refine K_iconst (pc := 17) (i := 9) rfl ?_
  refine K_aload_n (pc := 18) (i := 10) rfl rfl ?_
  refine K_getI (pc := 19) (i := 11) (j := 6) rfl (S_Fl hf) rfl (by decide) rfl fw_Fleet_30 ?_
  refine K_nm (fun v19 e19 => ?_)
  have r19 := rd_kites hI hf
  rw [← e19] at r19
  refine K_copy (pc := 22) (i := 12) rfl (S_Fl1 hf2) (S_Fl1 hf) (by omega) (by omega) (by omega) (by omega) (by omega) (by decide) (by decide) mw_Fleet_34 (Nat.le_of_ble_eq_true rfl) ⟨Nat.le_of_ble_eq_true rfl, Nat.le_of_ble_eq_true rfl⟩ ?_
  have hI := cp_fl (sp := (0 : Int).toNat) (dp := (0 : Int).toNat) (n := (v19).toNat) hI hf2 hf 1 (by omega)
  have fx := Fx.cp (c0 := f2 + 1) (c1 := f + 1) (sp := (0 : Int).toNat) (dp := (0 : Int).toNat) (n := (v19).toNat) fx (fun i => (by first | (dsimp only; omega) | omega | exact not_false))
  have cp22 := CP.cp (a := 0) (c0 := f2 + 1) (c1 := f + 1) (sp := (0 : Int).toNat) (dp := (0 : Int).toNat) (n := (v19).toNat) cp5 (by omega) (by omega) (by omega) rfl rfl (by rw [← cp5.1, ← e19]; omega) dj
  refine K_aload_n (pc := 25) (i := 13) rfl rfl ?_
  refine K_getR (pc := 26) (i := 14) (j := 1) (d := f2 + 2) rfl (S_Fl hf2) rfl (by decide) rfl fw_Fleet_15 ?_
  refine K_iconst (pc := 29) (i := 15) rfl ?_
  refine K_aload_n (pc := 30) (i := 16) rfl rfl ?_
  refine K_getR (pc := 31) (i := 17) (j := 1) (d := f + 2) rfl (S_Fl hf) rfl (by decide) rfl fw_Fleet_15 ?_
  refine K_iconst (pc := 34) (i := 18) rfl ?_
  refine K_aload_n (pc := 35) (i := 19) rfl rfl ?_
  refine K_getI (pc := 36) (i := 20) (j := 6) rfl (S_Fl hf) rfl (by decide) rfl fw_Fleet_30 ?_
  refine K_nm (fun v36 e36 => ?_)
  have r36 := rd_kites hI hf
  rw [← e36] at r36
  refine K_copy (pc := 39) (i := 21) rfl (S_Fl2 hf2) (S_Fl2 hf) (by omega) (by omega) (by omega) (by omega) (by omega) (by decide) (by decide) mw_Fleet_34 (Nat.le_of_ble_eq_true rfl) ⟨Nat.le_of_ble_eq_true rfl, Nat.le_of_ble_eq_true rfl⟩ ?_
  have hI := cp_fl (sp := (0 : Int).toNat) (dp := (0 : Int).toNat) (n := (v36).toNat) hI hf2 hf 2 (by omega)
  have fx := Fx.cp (c0 := f2 + 2) (c1 := f + 2) (sp := (0 : Int).toNat) (dp := (0 : Int).toNat) (n := (v36).toNat) fx (fun i => (by first | (dsimp only; omega) | omega | exact not_false))
  have cp39 := CP.cp (a := 1) (c0 := f2 + 2) (c1 := f + 2) (sp := (0 : Int).toNat) (dp := (0 : Int).toNat) (n := (v36).toNat) cp22 (by omega) (by omega) (by omega) rfl rfl (by rw [← cp22.1, ← e36]; omega) dj
  refine K_aload_n (pc := 42) (i := 22) rfl rfl ?_
  refine K_getR (pc := 43) (i := 23) (j := 2) (d := f2 + 3) rfl (S_Fl hf2) rfl (by decide) rfl fw_Fleet_18 ?_
  refine K_iconst (pc := 46) (i := 24) rfl ?_
  refine K_aload_n (pc := 47) (i := 25) rfl rfl ?_
  refine K_getR (pc := 48) (i := 26) (j := 2) (d := f + 3) rfl (S_Fl hf) rfl (by decide) rfl fw_Fleet_18 ?_
  refine K_iconst (pc := 51) (i := 27) rfl ?_
  refine K_aload_n (pc := 52) (i := 28) rfl rfl ?_
  refine K_getI (pc := 53) (i := 29) (j := 6) rfl (S_Fl hf) rfl (by decide) rfl fw_Fleet_30 ?_
  refine K_nm (fun v53 e53 => ?_)
  have r53 := rd_kites hI hf
  rw [← e53] at r53
  refine K_copy (pc := 56) (i := 30) rfl (S_Fl3 hf2) (S_Fl3 hf) (by omega) (by omega) (by omega) (by omega) (by omega) (by decide) (by decide) mw_Fleet_34 (Nat.le_of_ble_eq_true rfl) ⟨Nat.le_of_ble_eq_true rfl, Nat.le_of_ble_eq_true rfl⟩ ?_
  have hI := cp_fl (sp := (0 : Int).toNat) (dp := (0 : Int).toNat) (n := (v53).toNat) hI hf2 hf 3 (by omega)
  have fx := Fx.cp (c0 := f2 + 3) (c1 := f + 3) (sp := (0 : Int).toNat) (dp := (0 : Int).toNat) (n := (v53).toNat) fx (fun i => (by first | (dsimp only; omega) | omega | exact not_false))
  have cp56 := CP.cp (a := 2) (c0 := f2 + 3) (c1 := f + 3) (sp := (0 : Int).toNat) (dp := (0 : Int).toNat) (n := (v53).toNat) cp39 (by omega) (by omega) (by omega) rfl rfl (by rw [← cp39.1, ← e53]; omega) dj
  refine K_aload_n (pc := 59) (i := 31) rfl rfl ?_
  refine K_getR (pc := 60) (i := 32) (j := 3) (d := f2 + 4) rfl (S_Fl hf2) rfl (by decide) rfl fw_Fleet_21 ?_
  refine K_iconst (pc := 63) (i := 33) rfl ?_
  refine K_aload_n (pc := 64) (i := 34) rfl rfl ?_
  refine K_getR (pc := 65) (i := 35) (j := 3) (d := f + 4) rfl (S_Fl hf) rfl (by decide) rfl fw_Fleet_21 ?_
  refine K_iconst (pc := 68) (i := 36) rfl ?_
  refine K_aload_n (pc := 69) (i := 37) rfl rfl ?_
  refine K_getI (pc := 70) (i := 38) (j := 6) rfl (S_Fl hf) rfl (by decide) rfl fw_Fleet_30 ?_
  refine K_nm (fun v70 e70 => ?_)
  have r70 := rd_kites hI hf
  rw [← e70] at r70
  refine K_copy (pc := 73) (i := 39) rfl (S_Fl4 hf2) (S_Fl4 hf) (by omega) (by omega) (by omega) (by omega) (by omega) (by decide) (by decide) mw_Fleet_34 (Nat.le_of_ble_eq_true rfl) ⟨Nat.le_of_ble_eq_true rfl, Nat.le_of_ble_eq_true rfl⟩ ?_
  have hI := cp_fl (sp := (0 : Int).toNat) (dp := (0 : Int).toNat) (n := (v70).toNat) hI hf2 hf 4 (by omega)
  have fx := Fx.cp (c0 := f2 + 4) (c1 := f + 4) (sp := (0 : Int).toNat) (dp := (0 : Int).toNat) (n := (v70).toNat) fx (fun i => (by first | (dsimp only; omega) | omega | exact not_false))
  have cp73 := CP.cp (a := 3) (c0 := f2 + 4) (c1 := f + 4) (sp := (0 : Int).toNat) (dp := (0 : Int).toNat) (n := (v70).toNat) cp56 (by omega) (by omega) (by omega) rfl rfl (by rw [← cp56.1, ← e70]; omega) dj
  refine K_aload_n (pc := 76) (i := 40) rfl rfl ?_
  refine K_getR (pc := 77) (i := 41) (j := 4) (d := f2 + 5) rfl (S_Fl hf2) rfl (by decide) rfl fw_Fleet_24 ?_
  refine K_iconst (pc := 80) (i := 42) rfl ?_
  refine K_aload_n (pc := 81) (i := 43) rfl rfl ?_
  refine K_getR (pc := 82) (i := 44) (j := 4) (d := f + 5) rfl (S_Fl hf) rfl (by decide) rfl fw_Fleet_24 ?_
  refine K_iconst (pc := 85) (i := 45) rfl ?_
  refine K_aload_n (pc := 86) (i := 46) rfl rfl ?_
  refine K_getI (pc := 87) (i := 47) (j := 6) rfl (S_Fl hf) rfl (by decide) rfl fw_Fleet_30 ?_
  refine K_nm (fun v87 e87 => ?_)
  have r87 := rd_kites hI hf
  rw [← e87] at r87
  refine K_copy (pc := 90) (i := 48) rfl (S_Fl5 hf2) (S_Fl5 hf) (by omega) (by omega) (by omega) (by omega) (by omega) (by decide) (by decide) mw_Fleet_34 (Nat.le_of_ble_eq_true rfl) ⟨Nat.le_of_ble_eq_true rfl, Nat.le_of_ble_eq_true rfl⟩ ?_
  have hI := cp_fl (sp := (0 : Int).toNat) (dp := (0 : Int).toNat) (n := (v87).toNat) hI hf2 hf 5 (by omega)
  have fx := Fx.cp (c0 := f2 + 5) (c1 := f + 5) (sp := (0 : Int).toNat) (dp := (0 : Int).toNat) (n := (v87).toNat) fx (fun i => (by first | (dsimp only; omega) | omega | exact not_false))
  have cp90 := CP.cp (a := 4) (c0 := f2 + 5) (c1 := f + 5) (sp := (0 : Int).toNat) (dp := (0 : Int).toNat) (n := (v87).toNat) cp73 (by omega) (by omega) (by omega) rfl rfl (by rw [← cp73.1, ← e87]; omega) dj
  refine K_aload_n (pc := 93) (i := 49) rfl rfl ?_
  refine K_getR (pc := 94) (i := 50) (j := 5) (d := f2 + 6) rfl (S_Fl hf2) rfl (by decide) rfl fw_Fleet_27 ?_
  refine K_iconst (pc := 97) (i := 51) rfl ?_
  refine K_aload_n (pc := 98) (i := 52) rfl rfl ?_
  refine K_getR (pc := 99) (i := 53) (j := 5) (d := f + 6) rfl (S_Fl hf) rfl (by decide) rfl fw_Fleet_27 ?_
  refine K_iconst (pc := 102) (i := 54) rfl ?_
  refine K_iconst (pc := 103) (i := 55) rfl ?_
  refine K_copy (pc := 104) (i := 56) rfl (S_Fl6 hf2) (S_Fl6 hf) (by omega) (by omega) (by omega) (by omega) (by omega) (by decide) (by decide) mw_Fleet_34 (Nat.le_of_ble_eq_true rfl) ⟨Nat.le_of_ble_eq_true rfl, Nat.le_of_ble_eq_true rfl⟩ ?_
  have hI := cp_fl (sp := (0 : Int).toNat) (dp := (0 : Int).toNat) (n := (2 : Int).toNat) hI hf2 hf 6 (by omega)
  have fx := Fx.cp (c0 := f2 + 6) (c1 := f + 6) (sp := (0 : Int).toNat) (dp := (0 : Int).toNat) (n := (2 : Int).toNat) fx (fun i => (by first | (dsimp only; omega) | omega | exact not_false))
  have cp104 := CP.end (c0 := f2 + 6) (c1 := f + 6) (sp := (0 : Int).toNat) (dp := (0 : Int).toNat) (n := (2 : Int).toNat) cp90 rfl rfl rfl rfl rfl dj
  exact K_retV (pc := 107) (i := 57) rfl rfl ⟨fx, ⟨hI, ((((((FrF.rf.st (k := 0) (by omega)).cp (k := 1) (by omega)).cp (k := 2) (by omega)).cp (k := 3) (by omega)).cp (k := 4) (by omega)).cp (k := 5) (by omega)).cp (k := 6) (by omega), cp104⟩⟩
set_option maxHeartbeats 4000000 in
set_option maxRecDepth 100000 in
theorem c_Fleet_add (G : kG) {g : kGh} {h : kH} {f : Nat} (hf : f ∈ FL) {x1 : Int} {x2 : Int} {x3 : Int} {x4 : Int} {x5 : Int} (s1 : 0 ≤ x1 ∧ x1 ≤ 1) (s2 : 0 ≤ x2 ∧ x2 ≤ 40) (s3 : 0 ≤ x3 ∧ x3 ≤ 40) (s4 : 0 ≤ x4 ∧ x4 ≤ 9) (s5 : 0 ≤ x5 ∧ x5 ≤ 9) (hI : Gd g h) : Ctr G y_Fleet_add X_Fleet_add 1 [.ref (G.2.2.2 f), kI x1, kI x2, kI x3, kI x4, kI x5] h (kQv (fun h' => Fx (fun c i => f ≤ c ∧ c ≤ f + 6) h h' ∧ (Gd g h' ∧ FrF f h h' ∧ (h f 6 < 8 → FA h h' f x1 x2 x3 x4 x5)))) := by
  refine Ctr.ofK (by decide) rfl T_Fleet_add (Nat.le_of_ble_eq_true rfl) (lo := [(0, .ref (G.2.2.2 f)), (1, kI x1), (2, kI x2), (3, kI x3), (4, kI x4), (5, kI x5)]) rfl ?_
  have fx : Fx (fun c i => f ≤ c ∧ c ≤ f + 6) h h := Fx.rf
  refine K_aload_n (pc := 0) (i := 0) rfl rfl ?_
  refine K_getI (pc := 1) (i := 1) (j := 6) rfl (S_Fl hf) rfl (by decide) rfl fw_Fleet_30 ?_
  refine K_nm (fun v1 e1 => ?_)
  have r1 := rd_kites hI hf
  rw [← e1] at r1
  refine K_bipush (pc := 4) (i := 2) rfl rfl ?_
  first | refine K_icmp_lt 10 (pc := 6) (i := 3) rfl rfl (by omega) (by omega) (fun b6 => ?_) (fun b6 => ?_) | refine K_icmp_lt_an 10 (pc := 6) (i := 3) rfl rfl (fun b6 => ?_) (fun b6 => ?_)
  · skip
    refine K_aload_n (pc := 10) (i := 5) rfl rfl ?_
    refine K_getR (pc := 11) (i := 6) (j := 0) (d := f + 1) rfl (S_Fl hf) rfl (by decide) rfl fw_Fleet_9 ?_
    refine K_aload_n (pc := 14) (i := 7) rfl rfl ?_
    refine K_getI (pc := 15) (i := 8) (j := 6) rfl (S_Fl hf) rfl (by decide) rfl fw_Fleet_30 ?_
    refine K_nm (fun v15 e15 => ?_)
    have r15 := rd_kites hI hf
    rw [← e15] at r15
    have t15 : v15 = v1 := by rw [e15, e1]; try simp [kU]
    refine K_iload_n (pc := 18) (i := 9) rfl rfl ?_
    refine K_iast (pc := 19) (i := 10) rfl (S_Fl1 hf) (by omega) (by omega) (by decide) ?_
    have hI := st_town hI hf (i := (v15).toNat) (v := x1) (by omega)
    have fx := Fx.st (c := f + 1) (i := (v15).toNat) (v := x1) fx (by first | (dsimp only; omega) | omega | exact not_false)
    refine K_aload_n (pc := 20) (i := 11) rfl rfl ?_
    refine K_getR (pc := 21) (i := 12) (j := 1) (d := f + 2) rfl (S_Fl hf) rfl (by decide) rfl fw_Fleet_15 ?_
    refine K_aload_n (pc := 24) (i := 13) rfl rfl ?_
    refine K_getI (pc := 25) (i := 14) (j := 6) rfl (S_Fl hf) rfl (by decide) rfl fw_Fleet_30 ?_
    refine K_nm (fun v25 e25 => ?_)
    have r25 := rd_kites hI hf
    rw [← e25] at r25
    have t25 : v25 = v1 := by rw [e25, e1]; try simp [kU]
    refine K_iload_n (pc := 28) (i := 15) rfl rfl ?_
    refine K_iast (pc := 29) (i := 16) rfl (S_Fl2 hf) (by omega) (by omega) (by decide) ?_
    have hI := st_stake hI hf (i := (v25).toNat) (v := x2) (by omega)
    have fx := Fx.st (c := f + 2) (i := (v25).toNat) (v := x2) fx (by first | (dsimp only; omega) | omega | exact not_false)
    refine K_aload_n (pc := 30) (i := 17) rfl rfl ?_
    refine K_getR (pc := 31) (i := 18) (j := 2) (d := f + 3) rfl (S_Fl hf) rfl (by decide) rfl fw_Fleet_18 ?_
    refine K_aload_n (pc := 34) (i := 19) rfl rfl ?_
    refine K_getI (pc := 35) (i := 20) (j := 6) rfl (S_Fl hf) rfl (by decide) rfl fw_Fleet_30 ?_
    refine K_nm (fun v35 e35 => ?_)
    have r35 := rd_kites hI hf
    rw [← e35] at r35
    have t35 : v35 = v1 := by rw [e35, e1]; try simp [kU]
    refine K_iload_n (pc := 38) (i := 21) rfl rfl ?_
    refine K_iast (pc := 39) (i := 22) rfl (S_Fl3 hf) (by omega) (by omega) (by decide) ?_
    have hI := st_x hI hf (i := (v35).toNat) (v := x3) (by omega)
    have fx := Fx.st (c := f + 3) (i := (v35).toNat) (v := x3) fx (by first | (dsimp only; omega) | omega | exact not_false)
    refine K_aload_n (pc := 40) (i := 23) rfl rfl ?_
    refine K_getR (pc := 41) (i := 24) (j := 3) (d := f + 4) rfl (S_Fl hf) rfl (by decide) rfl fw_Fleet_21 ?_
    refine K_aload_n (pc := 44) (i := 25) rfl rfl ?_
    refine K_getI (pc := 45) (i := 26) (j := 6) rfl (S_Fl hf) rfl (by decide) rfl fw_Fleet_30 ?_
    refine K_nm (fun v45 e45 => ?_)
    have r45 := rd_kites hI hf
    rw [← e45] at r45
    have t45 : v45 = v1 := by rw [e45, e1]; try simp [kU]
    refine K_iload (pc := 48) (i := 27) rfl rfl ?_
    refine K_iast (pc := 50) (i := 28) rfl (S_Fl4 hf) (by omega) (by omega) (by decide) ?_
    have hI := st_height hI hf (i := (v45).toNat) (v := x4) (by omega)
    have fx := Fx.st (c := f + 4) (i := (v45).toNat) (v := x4) fx (by first | (dsimp only; omega) | omega | exact not_false)
    refine K_aload_n (pc := 51) (i := 29) rfl rfl ?_
    refine K_getR (pc := 52) (i := 30) (j := 4) (d := f + 5) rfl (S_Fl hf) rfl (by decide) rfl fw_Fleet_24 ?_
    refine K_aload_n (pc := 55) (i := 31) rfl rfl ?_
    refine K_getI (pc := 56) (i := 32) (j := 6) rfl (S_Fl hf) rfl (by decide) rfl fw_Fleet_30 ?_
    refine K_nm (fun v56 e56 => ?_)
    have r56 := rd_kites hI hf
    rw [← e56] at r56
    have t56 : v56 = v1 := by rw [e56, e1]; try simp [kU]
    refine K_iload (pc := 59) (i := 33) rfl rfl ?_
    refine K_iast (pc := 61) (i := 34) rfl (S_Fl5 hf) (by omega) (by omega) (by decide) ?_
    have hI := st_glass hI hf (i := (v56).toNat) (v := x5) (by omega)
    have fx := Fx.st (c := f + 5) (i := (v56).toNat) (v := x5) fx (by first | (dsimp only; omega) | omega | exact not_false)
    refine K_aload_n (pc := 62) (i := 35) rfl rfl ?_
    refine K_dup (pc := 63) (i := 36) rfl rfl ?_
    refine K_getI (pc := 64) (i := 37) (j := 6) rfl (S_Fl hf) rfl (by decide) rfl fw_Fleet_30 ?_
    refine K_nm (fun v64 e64 => ?_)
    have r64 := rd_kites hI hf
    rw [← e64] at r64
    have t64 : v64 = v1 := by rw [e64, e1]; try simp [kU]
    refine K_iconst (pc := 67) (i := 38) rfl ?_
    refine K_iadd (pc := 68) (i := 39) rfl ?_
    refine K_putI (pc := 69) (i := 40) (j := 6) rfl (S_Fl hf) rfl (by decide) rfl rfl rfl fw_Fleet_30 ?_
    have hI := st_kites hI hf (v := v64 + 1) (by omega)
    have fx := Fx.st (c := f) (i := 6) (v := v64 + 1) fx (by first | (dsimp only; omega) | omega | exact not_false)
    exact K_retV (pc := 72) (i := 41) rfl rfl ⟨fx, ⟨hI, (((((FrF.rf.st (k := 1) (by omega)).st (k := 2) (by omega)).st (k := 3) (by omega)).st (k := 4) (by omega)).st (k := 5) (by omega)).st (k := 0) (by omega), fun _ => by rw [t15, t25, t35, t45, t56, t64]; exact FA.mk (by omega) (by omega)⟩⟩
  · skip
    exact K_retV (pc := 9) (i := 4) rfl rfl ⟨fx, ⟨hI, FrF.rf, fun q => absurd q (by omega)⟩⟩
set_option maxHeartbeats 4000000 in
set_option maxRecDepth 100000 in
theorem c_Fleet_drop (G : kG) {g : kGh} {h : kH} {f : Nat} (hf : f ∈ FL) {x1 : Int} (hI : Gd g h) : Ctr G y_Fleet_drop X_Fleet_drop 1 [.ref (G.2.2.2 f), kI x1] h (kQv (fun h' => Fx (fun c i => f ≤ c ∧ c ≤ f + 6) h h' ∧ (Gd g h' ∧ FD h h' f (pB x1)))) := by
  refine Ctr.ofK (by decide) rfl T_Fleet_drop (Nat.le_of_ble_eq_true rfl) (lo := [(0, .ref (G.2.2.2 f)), (1, kI x1)]) rfl ?_
  have fx : Fx (fun c i => f ≤ c ∧ c ≤ f + 6) h h := Fx.rf
  refine K_iconst (pc := 0) (i := 0) rfl ?_
  refine K_ist_n (pc := 1) (i := 1) (lo' := [(0, _), (1, _), (2, _)]) rfl rfl rfl rfl ?_
  refine K_iconst (pc := 2) (i := 2) rfl ?_
  refine K_ist_n (pc := 3) (i := 3) (lo' := [(0, _), (1, _), (2, _), (3, _)]) rfl rfl rfl rfl ?_
  have L4 : ∀ (n : Nat) (x2 : Int) (x3 : Int) (ha : kH), (8 - x3).toNat < n → (Gd g ha) → (Fx (fun c i => f ≤ c ∧ c ≤ f + 6) h ha) → (DI h ha f x1 x2 x3) → K X_Fleet_drop G (kZm G 1 (kQv (fun h' => Fx (fun c i => f ≤ c ∧ c ≤ f + 6) h h' ∧ (Gd g h' ∧ FD h h' f (pB x1))))) 4 [(0, .ref (G.2.2.2 f)), (1, kI x1), (2, kI x2), (3, kI x3)] [] ha := by
    intro n
    induction n with
    | zero => intro x2 x3 ha hm; exact absurd hm (Nat.not_lt_zero _)
    | succ n ih4 =>
      intro x2 x3 ha hm4 hI fx hV4
      have d6 : ha f 6 = h f 6 := hV4.2.2.2.2.2.1
      have d0 := hV4.1
      have d1 := hV4.2.1
      have d9 := rd_kites hI hf
      refine K_iload_n (pc := 4) (i := 4) rfl rfl ?_
      refine K_aload_n (pc := 5) (i := 5) rfl rfl ?_
      refine K_getI (pc := 6) (i := 6) (j := 6) rfl (S_Fl hf) rfl (by decide) rfl fw_Fleet_30 ?_
      refine K_nm (fun v6 e6 => ?_)
      have r6 := rd_kites hI hf
      rw [← e6] at r6
      first | refine K_icmp_ge 89 (pc := 9) (i := 7) rfl rfl (by omega) (by omega) (fun b9 => ?_) (fun b9 => ?_) | refine K_icmp_ge_an 89 (pc := 9) (i := 7) rfl rfl (fun b9 => ?_) (fun b9 => ?_)
      · skip
        refine K_aload_n (pc := 89) (i := 57) rfl rfl ?_
        refine K_iload_n (pc := 90) (i := 58) rfl rfl ?_
        refine K_putI (pc := 91) (i := 59) (j := 6) rfl (S_Fl hf) rfl (by decide) rfl rfl rfl fw_Fleet_30 ?_
        have hI := st_kites hI hf (v := x2) (by omega)
        have fx := Fx.st (c := f) (i := 6) (v := x2) fx (by first | (dsimp only; omega) | omega | exact not_false)
        exact K_retV (pc := 94) (i := 60) rfl rfl ⟨fx, ⟨hI, DR.end hV4.2.2.2 (by omega) (by rw [hV4.2.2.1])⟩⟩
      · skip
        refine K_iload_n (pc := 12) (i := 8) rfl rfl ?_
        refine K_iload_n (pc := 13) (i := 9) rfl rfl ?_
        refine K_ishr (pc := 14) (i := 10) rfl ?_
        refine K_nm (fun v14 e14 => ?_)
        have r14 := kShr_R x1 x3
        rw [← e14] at r14
        refine K_iconst (pc := 15) (i := 11) rfl ?_
        refine K_iand (pc := 16) (i := 12) rfl ?_
        refine K_nm (fun v16 e16 => ?_)
        have r16 := kAnd_1 v14
        rw [← e16] at r16
        have t16 : v16 = if tb x1 x3 then 1 else 0 := by rw [e16, e14]; exact kbit (by omega)
        first | refine K_if_ne 83 (pc := 17) (i := 13) rfl rfl (by omega) (fun b17 => ?_) (fun b17 => ?_) | refine K_if_ne_an 83 (pc := 17) (i := 13) rfl rfl (fun b17 => ?_) (fun b17 => ?_)
        · skip
          refine K_inc (pc := 83) (i := 55) (q := 3) (lo' := [(0, _), (1, _), (2, _), (3, _)]) rfl rfl rfl rfl rfl ?_
          refine K_goto 4 (pc := 86) (i := 56) rfl rfl ?_
          exact ih4 x2 (x3 + 1) _ (by omega) hI fx (by first | exact hV4.no t16 (by omega) (by omega) (by omega) | exact hV4.yes t16 (by omega) (by omega) (by omega) rfl rfl t30 t42 t54 t66 t78)
        · skip
          refine K_aload_n (pc := 20) (i := 14) rfl rfl ?_
          refine K_getR (pc := 21) (i := 15) (j := 0) (d := f + 1) rfl (S_Fl hf) rfl (by decide) rfl fw_Fleet_9 ?_
          refine K_iload_n (pc := 24) (i := 16) rfl rfl ?_
          refine K_aload_n (pc := 25) (i := 17) rfl rfl ?_
          refine K_getR (pc := 26) (i := 18) (j := 0) (d := f + 1) rfl (S_Fl hf) rfl (by decide) rfl fw_Fleet_9 ?_
          refine K_iload_n (pc := 29) (i := 19) rfl rfl ?_
          refine K_iald (pc := 30) (i := 20) rfl (S_Fl1 hf) (by omega) (by omega) (by decide) ?_
          refine K_nm (fun v30 e30 => ?_)
          have r30 := rd_town hI hf (x3).toNat
          rw [← e30] at r30
          have t30 : v30 = ha (f + 1) x3.toNat := by rw [e30]
          refine K_iast (pc := 31) (i := 21) rfl (S_Fl1 hf) (by omega) (by omega) (by decide) ?_
          have hI := st_town hI hf (i := (x2).toNat) (v := v30) (by omega)
          have fx := Fx.st (c := f + 1) (i := (x2).toNat) (v := v30) fx (by first | (dsimp only; omega) | omega | exact not_false)
          refine K_aload_n (pc := 32) (i := 22) rfl rfl ?_
          refine K_getR (pc := 33) (i := 23) (j := 1) (d := f + 2) rfl (S_Fl hf) rfl (by decide) rfl fw_Fleet_15 ?_
          refine K_iload_n (pc := 36) (i := 24) rfl rfl ?_
          refine K_aload_n (pc := 37) (i := 25) rfl rfl ?_
          refine K_getR (pc := 38) (i := 26) (j := 1) (d := f + 2) rfl (S_Fl hf) rfl (by decide) rfl fw_Fleet_15 ?_
          refine K_iload_n (pc := 41) (i := 27) rfl rfl ?_
          refine K_iald (pc := 42) (i := 28) rfl (S_Fl2 hf) (by omega) (by omega) (by decide) ?_
          refine K_nm (fun v42 e42 => ?_)
          have r42 := rd_stake hI hf (x3).toNat
          rw [← e42] at r42
          have t42 : v42 = ha (f + 2) x3.toNat := by rw [e42]; rw [kU_c _ _ _ _ (by omega)]
          refine K_iast (pc := 43) (i := 29) rfl (S_Fl2 hf) (by omega) (by omega) (by decide) ?_
          have hI := st_stake hI hf (i := (x2).toNat) (v := v42) (by omega)
          have fx := Fx.st (c := f + 2) (i := (x2).toNat) (v := v42) fx (by first | (dsimp only; omega) | omega | exact not_false)
          refine K_aload_n (pc := 44) (i := 30) rfl rfl ?_
          refine K_getR (pc := 45) (i := 31) (j := 2) (d := f + 3) rfl (S_Fl hf) rfl (by decide) rfl fw_Fleet_18 ?_
          refine K_iload_n (pc := 48) (i := 32) rfl rfl ?_
          refine K_aload_n (pc := 49) (i := 33) rfl rfl ?_
          refine K_getR (pc := 50) (i := 34) (j := 2) (d := f + 3) rfl (S_Fl hf) rfl (by decide) rfl fw_Fleet_18 ?_
          refine K_iload_n (pc := 53) (i := 35) rfl rfl ?_
          refine K_iald (pc := 54) (i := 36) rfl (S_Fl3 hf) (by omega) (by omega) (by decide) ?_
          refine K_nm (fun v54 e54 => ?_)
          have r54 := rd_x hI hf (x3).toNat
          rw [← e54] at r54
          have t54 : v54 = ha (f + 3) x3.toNat := by rw [e54]; rw [kU_c _ _ _ _ (by omega)]; rw [kU_c _ _ _ _ (by omega)]
          refine K_iast (pc := 55) (i := 37) rfl (S_Fl3 hf) (by omega) (by omega) (by decide) ?_
          have hI := st_x hI hf (i := (x2).toNat) (v := v54) (by omega)
          have fx := Fx.st (c := f + 3) (i := (x2).toNat) (v := v54) fx (by first | (dsimp only; omega) | omega | exact not_false)
          refine K_aload_n (pc := 56) (i := 38) rfl rfl ?_
          refine K_getR (pc := 57) (i := 39) (j := 3) (d := f + 4) rfl (S_Fl hf) rfl (by decide) rfl fw_Fleet_21 ?_
          refine K_iload_n (pc := 60) (i := 40) rfl rfl ?_
          refine K_aload_n (pc := 61) (i := 41) rfl rfl ?_
          refine K_getR (pc := 62) (i := 42) (j := 3) (d := f + 4) rfl (S_Fl hf) rfl (by decide) rfl fw_Fleet_21 ?_
          refine K_iload_n (pc := 65) (i := 43) rfl rfl ?_
          refine K_iald (pc := 66) (i := 44) rfl (S_Fl4 hf) (by omega) (by omega) (by decide) ?_
          refine K_nm (fun v66 e66 => ?_)
          have r66 := rd_height hI hf (x3).toNat
          rw [← e66] at r66
          have t66 : v66 = ha (f + 4) x3.toNat := by rw [e66]; rw [kU_c _ _ _ _ (by omega)]; rw [kU_c _ _ _ _ (by omega)]; rw [kU_c _ _ _ _ (by omega)]
          refine K_iast (pc := 67) (i := 45) rfl (S_Fl4 hf) (by omega) (by omega) (by decide) ?_
          have hI := st_height hI hf (i := (x2).toNat) (v := v66) (by omega)
          have fx := Fx.st (c := f + 4) (i := (x2).toNat) (v := v66) fx (by first | (dsimp only; omega) | omega | exact not_false)
          refine K_aload_n (pc := 68) (i := 46) rfl rfl ?_
          refine K_getR (pc := 69) (i := 47) (j := 4) (d := f + 5) rfl (S_Fl hf) rfl (by decide) rfl fw_Fleet_24 ?_
          refine K_iload_n (pc := 72) (i := 48) rfl rfl ?_
          refine K_aload_n (pc := 73) (i := 49) rfl rfl ?_
          refine K_getR (pc := 74) (i := 50) (j := 4) (d := f + 5) rfl (S_Fl hf) rfl (by decide) rfl fw_Fleet_24 ?_
          refine K_iload_n (pc := 77) (i := 51) rfl rfl ?_
          refine K_iald (pc := 78) (i := 52) rfl (S_Fl5 hf) (by omega) (by omega) (by decide) ?_
          refine K_nm (fun v78 e78 => ?_)
          have r78 := rd_glass hI hf (x3).toNat
          rw [← e78] at r78
          have t78 : v78 = ha (f + 5) x3.toNat := by rw [e78]; rw [kU_c _ _ _ _ (by omega)]; rw [kU_c _ _ _ _ (by omega)]; rw [kU_c _ _ _ _ (by omega)]; rw [kU_c _ _ _ _ (by omega)]
          refine K_iast (pc := 79) (i := 53) rfl (S_Fl5 hf) (by omega) (by omega) (by decide) ?_
          have hI := st_glass hI hf (i := (x2).toNat) (v := v78) (by omega)
          have fx := Fx.st (c := f + 5) (i := (x2).toNat) (v := v78) fx (by first | (dsimp only; omega) | omega | exact not_false)
          refine K_inc (pc := 80) (i := 54) (q := 2) (lo' := [(0, _), (1, _), (2, _), (3, _)]) rfl rfl rfl rfl rfl ?_
          refine K_inc (pc := 83) (i := 55) (q := 3) (lo' := [(0, _), (1, _), (2, _), (3, _)]) rfl rfl rfl rfl rfl ?_
          refine K_goto 4 (pc := 86) (i := 56) rfl rfl ?_
          exact ih4 (x2 + 1) (x3 + 1) _ (by omega) hI fx (by first | exact hV4.no t16 (by omega) (by omega) (by omega) | exact hV4.yes t16 (by omega) (by omega) (by omega) rfl rfl t30 t42 t54 t66 t78)
  exact L4 _ 0 0 _ (Nat.lt_succ_self _) hI fx ⟨by omega, by have := rd_kites hI hf; omega, rfl, DR.z⟩
set_option maxHeartbeats 4000000 in
set_option maxRecDepth 100000 in
theorem c_Fleet_ofTown (G : kG) {g : kGh} {h : kH} {f : Nat} (hf : f ∈ FL) {x1 : Int} (s1 : kR x1) (hI : Gd g h) : Ctr G y_Fleet_ofTown X_Fleet_ofTown 1 [.ref (G.2.2.2 f), kI x1] h (kQi (fun z h' => h' = h ∧ (0 ≤ z ∧ z ≤ 8) ∧ z = cnt (h (f + 1)) x1 (h f 6).toNat)) := by
  refine Ctr.ofK (by decide) rfl T_Fleet_ofTown (Nat.le_of_ble_eq_true rfl) (lo := [(0, .ref (G.2.2.2 f)), (1, kI x1)]) rfl ?_
  refine K_iconst (pc := 0) (i := 0) rfl ?_
  refine K_ist_n (pc := 1) (i := 1) (lo' := [(0, _), (1, _), (2, _)]) rfl rfl rfl rfl ?_
  refine K_iconst (pc := 2) (i := 2) rfl ?_
  refine K_ist_n (pc := 3) (i := 3) (lo' := [(0, _), (1, _), (2, _), (3, _)]) rfl rfl rfl rfl ?_
  have L4 : ∀ (n : Nat) (x2 : Int) (x3 : Int), (8 - x3).toNat < n → ((0 ≤ x2 ∧ x2 ≤ x3 ∧ x3 ≤ 8) ∧ x3 ≤ h f 6 ∧ x2 = cnt (h (f + 1)) x1 x3.toNat) → K X_Fleet_ofTown G (kZm G 1 (kQi (fun z h' => h' = h ∧ (0 ≤ z ∧ z ≤ 8) ∧ z = cnt (h (f + 1)) x1 (h f 6).toNat))) 4 [(0, .ref (G.2.2.2 f)), (1, kI x1), (2, kI x2), (3, kI x3)] [] h := by
    intro n
    induction n with
    | zero => intro x2 x3 hm; exact absurd hm (Nat.not_lt_zero _)
    | succ n ih4 =>
      intro x2 x3 hm4 hV4
      refine K_iload_n (pc := 4) (i := 4) rfl rfl ?_
      refine K_aload_n (pc := 5) (i := 5) rfl rfl ?_
      refine K_getI (pc := 6) (i := 6) (j := 6) rfl (S_Fl hf) rfl (by decide) rfl fw_Fleet_30 ?_
      refine K_nm (fun v6 e6 => ?_)
      have r6 := rd_kites hI hf
      rw [← e6] at r6
      first | refine K_icmp_ge 31 (pc := 9) (i := 7) rfl rfl (by omega) (by omega) (fun b9 => ?_) (fun b9 => ?_) | refine K_icmp_ge_an 31 (pc := 9) (i := 7) rfl rfl (fun b9 => ?_) (fun b9 => ?_)
      · skip
        refine K_iload_n (pc := 31) (i := 17) rfl rfl ?_
        exact K_retI (pc := 32) (i := 18) rfl rfl ⟨rfl, by omega, by rw [show (h f 6).toNat = x3.toNat by omega]; exact hV4.2.2⟩
      · skip
        refine K_aload_n (pc := 12) (i := 8) rfl rfl ?_
        refine K_getR (pc := 13) (i := 9) (j := 0) (d := f + 1) rfl (S_Fl hf) rfl (by decide) rfl fw_Fleet_9 ?_
        refine K_iload_n (pc := 16) (i := 10) rfl rfl ?_
        refine K_iald (pc := 17) (i := 11) rfl (S_Fl1 hf) (by omega) (by omega) (by decide) ?_
        refine K_nm (fun v17 e17 => ?_)
        have r17 := rd_town hI hf (x3).toNat
        rw [← e17] at r17
        refine K_iload_n (pc := 18) (i := 12) rfl rfl ?_
        first | refine K_icmp_ne 25 (pc := 19) (i := 13) rfl rfl (by omega) (by omega) (fun b19 => ?_) (fun b19 => ?_) | refine K_icmp_ne_an 25 (pc := 19) (i := 13) rfl rfl (fun b19 => ?_) (fun b19 => ?_)
        · skip
          refine K_inc (pc := 25) (i := 15) (q := 3) (lo' := [(0, _), (1, _), (2, _), (3, _)]) rfl rfl rfl rfl rfl ?_
          refine K_goto 4 (pc := 28) (i := 16) rfl rfl ?_
          exact ih4 x2 (x3 + 1) (by omega) ⟨by omega, by omega, by rw [show (x3 + 1).toNat = x3.toNat + 1 by omega, cnt, ← e17]; split <;> omega⟩
        · skip
          refine K_inc (pc := 22) (i := 14) (q := 2) (lo' := [(0, _), (1, _), (2, _), (3, _)]) rfl rfl rfl rfl rfl ?_
          refine K_inc (pc := 25) (i := 15) (q := 3) (lo' := [(0, _), (1, _), (2, _), (3, _)]) rfl rfl rfl rfl rfl ?_
          refine K_goto 4 (pc := 28) (i := 16) rfl rfl ?_
          exact ih4 (x2 + 1) (x3 + 1) (by omega) ⟨by omega, by omega, by rw [show (x3 + 1).toNat = x3.toNat + 1 by omega, cnt, ← e17]; split <;> omega⟩
  exact L4 _ 0 0 (Nat.lt_succ_self _) ⟨by omega, by have := rd_kites hI hf; omega, rfl⟩
set_option maxHeartbeats 4000000 in
set_option maxRecDepth 100000 in
theorem c_Fleet_hasStake (G : kG) {g : kGh} {h : kH} {f : Nat} (hf : f ∈ FL) {x1 : Int} (s1 : kR x1) (hI : Gd g h) : Ctr G y_Fleet_hasStake X_Fleet_hasStake 1 [.ref (G.2.2.2 f), kI x1] h (kQi (fun z h' => h' = h ∧ ((z = 1 ∧ hsF h f x1) ∨ (z = 0 ∧ ¬ hsF h f x1)))) := by
  refine Ctr.ofK (by decide) rfl T_Fleet_hasStake (Nat.le_of_ble_eq_true rfl) (lo := [(0, .ref (G.2.2.2 f)), (1, kI x1)]) rfl ?_
  refine K_iconst (pc := 0) (i := 0) rfl ?_
  refine K_ist_n (pc := 1) (i := 1) (lo' := [(0, _), (1, _), (2, _)]) rfl rfl rfl rfl ?_
  have L2 : ∀ (n : Nat) (x2 : Int), (8 - x2).toNat < n → ((0 ≤ x2 ∧ x2 ≤ 8) ∧ ∀ i : Nat, (i : Int) < x2 → h (f + 2) i ≠ x1) → K X_Fleet_hasStake G (kZm G 1 (kQi (fun z h' => h' = h ∧ ((z = 1 ∧ hsF h f x1) ∨ (z = 0 ∧ ¬ hsF h f x1))))) 2 [(0, .ref (G.2.2.2 f)), (1, kI x1), (2, kI x2)] [] h := by
    intro n
    induction n with
    | zero => intro x2 hm; exact absurd hm (Nat.not_lt_zero _)
    | succ n ih2 =>
      intro x2 hm2 hV2
      refine K_iload_n (pc := 2) (i := 2) rfl rfl ?_
      refine K_aload_n (pc := 3) (i := 3) rfl rfl ?_
      refine K_getI (pc := 4) (i := 4) (j := 6) rfl (S_Fl hf) rfl (by decide) rfl fw_Fleet_30 ?_
      refine K_nm (fun v4 e4 => ?_)
      have r4 := rd_kites hI hf
      rw [← e4] at r4
      first | refine K_icmp_ge 28 (pc := 7) (i := 5) rfl rfl (by omega) (by omega) (fun b7 => ?_) (fun b7 => ?_) | refine K_icmp_ge_an 28 (pc := 7) (i := 5) rfl rfl (fun b7 => ?_) (fun b7 => ?_)
      · skip
        refine K_iconst (pc := 28) (i := 16) rfl ?_
        exact K_retZ (pc := 29) (i := 17) rfl rfl (by omega) ⟨rfl, Or.inr ⟨rfl, fun ⟨i, a, b⟩ => hV2.2 i (by omega) b⟩⟩
      · skip
        refine K_aload_n (pc := 10) (i := 6) rfl rfl ?_
        refine K_getR (pc := 11) (i := 7) (j := 1) (d := f + 2) rfl (S_Fl hf) rfl (by decide) rfl fw_Fleet_15 ?_
        refine K_iload_n (pc := 14) (i := 8) rfl rfl ?_
        refine K_iald (pc := 15) (i := 9) rfl (S_Fl2 hf) (by omega) (by omega) (by decide) ?_
        refine K_nm (fun v15 e15 => ?_)
        have r15 := rd_stake hI hf (x2).toNat
        rw [← e15] at r15
        refine K_iload_n (pc := 16) (i := 10) rfl rfl ?_
        first | refine K_icmp_ne 22 (pc := 17) (i := 11) rfl rfl (by omega) (by omega) (fun b17 => ?_) (fun b17 => ?_) | refine K_icmp_ne_an 22 (pc := 17) (i := 11) rfl rfl (fun b17 => ?_) (fun b17 => ?_)
        · skip
          refine K_inc (pc := 22) (i := 14) (q := 2) (lo' := [(0, _), (1, _), (2, _)]) rfl rfl rfl rfl rfl ?_
          refine K_goto 2 (pc := 25) (i := 15) rfl rfl ?_
          exact ih2 (x2 + 1) (by omega) ⟨by omega, fun i hi => if q : i = x2.toNat then (by rw [q, ← e15]; omega) else hV2.2 i (by omega)⟩
        · skip
          refine K_iconst (pc := 20) (i := 12) rfl ?_
          exact K_retZ (pc := 21) (i := 13) rfl rfl (by omega) ⟨rfl, Or.inl ⟨rfl, x2.toNat, by omega, by rw [← e15]; omega⟩⟩
  exact L2 _ 0 (Nat.lt_succ_self _) ⟨by omega, fun i hi => absurd hi (by omega)⟩
set_option maxHeartbeats 4000000 in
set_option maxRecDepth 100000 in
theorem c_Fleet_linesMeet (G : kG)  {h : kH} {x0 : Int} {x1 : Int} {x2 : Int} {x3 : Int} {x4 : Int} {x5 : Int} (s0 : 0 ≤ x0 ∧ x0 ≤ 40) (s1 : 0 ≤ x1 ∧ x1 ≤ 40) (s2 : 0 ≤ x2 ∧ x2 ≤ 9) (s3 : 0 ≤ x3 ∧ x3 ≤ 40) (s4 : 0 ≤ x4 ∧ x4 ≤ 40) (s5 : 0 ≤ x5 ∧ x5 ≤ 9) : Ctr G y_Fleet_linesMeet X_Fleet_linesMeet 2 [kI x0, kI x1, kI x2, kI x3, kI x4, kI x5] h (kQi (fun z h' => h' = h ∧ ((z = 1 ∧ crC x0 x1 x2 x3 x4 x5) ∨ (z = 0 ∧ ¬ crC x0 x1 x2 x3 x4 x5)))) := by
  refine Ctr.ofK (by decide) rfl T_Fleet_linesMeet (Nat.le_of_ble_eq_true rfl) (lo := [(0, kI x0), (1, kI x1), (2, kI x2), (3, kI x3), (4, kI x4), (5, kI x5)]) rfl ?_
  refine K_iload_n (pc := 0) (i := 0) rfl rfl ?_
  refine K_iload (pc := 1) (i := 1) rfl rfl ?_
  first | refine K_icmp_gt 24 (pc := 3) (i := 2) rfl rfl (by omega) (by omega) (fun b3 => ?_) (fun b3 => ?_) | refine K_icmp_gt_an 24 (pc := 3) (i := 2) rfl rfl (fun b3 => ?_) (fun b3 => ?_)
  · skip
    refine K_iload_n (pc := 24) (i := 16) rfl rfl ?_
    refine K_iload_n (pc := 25) (i := 17) rfl rfl ?_
    refine K_isub (pc := 26) (i := 18) rfl ?_
    refine K_iload (pc := 27) (i := 19) rfl rfl ?_
    refine K_imul (pc := 29) (i := 20) rfl ?_
    refine K_nm (fun v29 e29 => ?_)
    have u29 := mul_bd (A := 40) (B := 9) (a := x1 - x0) (b := x5) (by omega) (by omega)
    rw [← e29] at u29
    refine K_iload (pc := 30) (i := 21) rfl rfl ?_
    refine K_iload_n (pc := 32) (i := 22) rfl rfl ?_
    refine K_isub (pc := 33) (i := 23) rfl ?_
    refine K_iload_n (pc := 34) (i := 24) rfl rfl ?_
    refine K_imul (pc := 35) (i := 25) rfl ?_
    refine K_nm (fun v35 e35 => ?_)
    have u35 := mul_bd (A := 40) (B := 9) (a := x4 - x0) (b := x2) (by omega) (by omega)
    rw [← e35] at u35
    refine K_isub (pc := 36) (i := 26) rfl ?_
    refine K_ist (pc := 37) (i := 27) (lo' := [(0, _), (1, _), (2, _), (3, _), (4, _), (5, _), (6, _)]) rfl rfl rfl rfl ?_
    refine K_iload_n (pc := 39) (i := 28) rfl rfl ?_
    refine K_iload_n (pc := 40) (i := 29) rfl rfl ?_
    refine K_isub (pc := 41) (i := 30) rfl ?_
    refine K_cSI (pc := 42) (i := 31) rfl (c_Integer_signum G (x0 := x0 - x3)) (ls_Fleet_44 rfl) rfl rfl rfl rfl (fun v42 h42 q42 => ?_)
    obtain ⟨eh, r42⟩ := q42
    rw [eh]; clear eh
    have s42 : v42 = (x0 - x3).sign := r42.2 (by omega) (by omega)
    have t42 : v42 = -1 ∨ v42 = 0 ∨ v42 = 1 := by rw [s42]; exact sg3 _
    refine K_iload (pc := 45) (i := 32) rfl rfl ?_
    refine K_imul (pc := 47) (i := 33) rfl ?_
    refine K_nm (fun v47 e47 => ?_)
    have u47 : -2000 ≤ v47 ∧ v47 ≤ 2000 := by rw [e47]; rcases t42 with q | q | q <;> rw [q] <;> omega
    first | refine K_if_gt 55 (pc := 48) (i := 34) rfl rfl (by omega) (fun b48 => ?_) (fun b48 => ?_) | refine K_if_gt_an 55 (pc := 48) (i := 34) rfl rfl (fun b48 => ?_) (fun b48 => ?_)
    · skip
      refine K_iconst (pc := 55) (i := 37) rfl ?_
      exact K_retZ (pc := 56) (i := 38) rfl rfl (by omega) ⟨rfl, by first | exact Or.inl ⟨rfl, (crC_le (by omega)).2 (by rw [← s42, ← e11, ← e17, ← e47]; omega)⟩ | exact Or.inr ⟨rfl, fun q => absurd ((crC_le (by omega)).1 q) (by rw [← s42, ← e11, ← e17, ← e47]; omega)⟩ | exact Or.inl ⟨rfl, (crC_gt (by omega)).2 (by rw [← s42, ← e29, ← e35, ← e47]; omega)⟩ | exact Or.inr ⟨rfl, fun q => absurd ((crC_gt (by omega)).1 q) (by rw [← s42, ← e29, ← e35, ← e47]; omega)⟩⟩
    · skip
      refine K_iconst (pc := 51) (i := 35) rfl ?_
      refine K_goto 56 (pc := 52) (i := 36) rfl rfl ?_
      exact K_retZ (pc := 56) (i := 38) rfl rfl (by omega) ⟨rfl, by first | exact Or.inl ⟨rfl, (crC_le (by omega)).2 (by rw [← s42, ← e11, ← e17, ← e47]; omega)⟩ | exact Or.inr ⟨rfl, fun q => absurd ((crC_le (by omega)).1 q) (by rw [← s42, ← e11, ← e17, ← e47]; omega)⟩ | exact Or.inl ⟨rfl, (crC_gt (by omega)).2 (by rw [← s42, ← e29, ← e35, ← e47]; omega)⟩ | exact Or.inr ⟨rfl, fun q => absurd ((crC_gt (by omega)).1 q) (by rw [← s42, ← e29, ← e35, ← e47]; omega)⟩⟩
  · skip
    refine K_iload_n (pc := 6) (i := 3) rfl rfl ?_
    refine K_iload_n (pc := 7) (i := 4) rfl rfl ?_
    refine K_isub (pc := 8) (i := 5) rfl ?_
    refine K_iload (pc := 9) (i := 6) rfl rfl ?_
    refine K_imul (pc := 11) (i := 7) rfl ?_
    refine K_nm (fun v11 e11 => ?_)
    have u11 := mul_bd (A := 40) (B := 9) (a := x1 - x3) (b := x5) (by omega) (by omega)
    rw [← e11] at u11
    refine K_iload (pc := 12) (i := 8) rfl rfl ?_
    refine K_iload_n (pc := 14) (i := 9) rfl rfl ?_
    refine K_isub (pc := 15) (i := 10) rfl ?_
    refine K_iload_n (pc := 16) (i := 11) rfl rfl ?_
    refine K_imul (pc := 17) (i := 12) rfl ?_
    refine K_nm (fun v17 e17 => ?_)
    have u17 := mul_bd (A := 40) (B := 9) (a := x4 - x3) (b := x2) (by omega) (by omega)
    rw [← e17] at u17
    refine K_isub (pc := 18) (i := 13) rfl ?_
    refine K_ist (pc := 19) (i := 14) (lo' := [(0, _), (1, _), (2, _), (3, _), (4, _), (5, _), (6, _)]) rfl rfl rfl rfl ?_
    refine K_goto 39 (pc := 21) (i := 15) rfl rfl ?_
    refine K_iload_n (pc := 39) (i := 28) rfl rfl ?_
    refine K_iload_n (pc := 40) (i := 29) rfl rfl ?_
    refine K_isub (pc := 41) (i := 30) rfl ?_
    refine K_cSI (pc := 42) (i := 31) rfl (c_Integer_signum G (x0 := x0 - x3)) (ls_Fleet_44 rfl) rfl rfl rfl rfl (fun v42 h42 q42 => ?_)
    obtain ⟨eh, r42⟩ := q42
    rw [eh]; clear eh
    have s42 : v42 = (x0 - x3).sign := r42.2 (by omega) (by omega)
    have t42 : v42 = -1 ∨ v42 = 0 ∨ v42 = 1 := by rw [s42]; exact sg3 _
    refine K_iload (pc := 45) (i := 32) rfl rfl ?_
    refine K_imul (pc := 47) (i := 33) rfl ?_
    refine K_nm (fun v47 e47 => ?_)
    have u47 : -2000 ≤ v47 ∧ v47 ≤ 2000 := by rw [e47]; rcases t42 with q | q | q <;> rw [q] <;> omega
    first | refine K_if_gt 55 (pc := 48) (i := 34) rfl rfl (by omega) (fun b48 => ?_) (fun b48 => ?_) | refine K_if_gt_an 55 (pc := 48) (i := 34) rfl rfl (fun b48 => ?_) (fun b48 => ?_)
    · skip
      refine K_iconst (pc := 55) (i := 37) rfl ?_
      exact K_retZ (pc := 56) (i := 38) rfl rfl (by omega) ⟨rfl, by first | exact Or.inl ⟨rfl, (crC_le (by omega)).2 (by rw [← s42, ← e11, ← e17, ← e47]; omega)⟩ | exact Or.inr ⟨rfl, fun q => absurd ((crC_le (by omega)).1 q) (by rw [← s42, ← e11, ← e17, ← e47]; omega)⟩ | exact Or.inl ⟨rfl, (crC_gt (by omega)).2 (by rw [← s42, ← e29, ← e35, ← e47]; omega)⟩ | exact Or.inr ⟨rfl, fun q => absurd ((crC_gt (by omega)).1 q) (by rw [← s42, ← e29, ← e35, ← e47]; omega)⟩⟩
    · skip
      refine K_iconst (pc := 51) (i := 35) rfl ?_
      refine K_goto 56 (pc := 52) (i := 36) rfl rfl ?_
      exact K_retZ (pc := 56) (i := 38) rfl rfl (by omega) ⟨rfl, by first | exact Or.inl ⟨rfl, (crC_le (by omega)).2 (by rw [← s42, ← e11, ← e17, ← e47]; omega)⟩ | exact Or.inr ⟨rfl, fun q => absurd ((crC_le (by omega)).1 q) (by rw [← s42, ← e11, ← e17, ← e47]; omega)⟩ | exact Or.inl ⟨rfl, (crC_gt (by omega)).2 (by rw [← s42, ← e29, ← e35, ← e47]; omega)⟩ | exact Or.inr ⟨rfl, fun q => absurd ((crC_gt (by omega)).1 q) (by rw [← s42, ← e29, ← e35, ← e47]; omega)⟩⟩
set_option maxHeartbeats 4000000 in
set_option maxRecDepth 100000 in
theorem c_Fleet_meet (G : kG) {g : kGh} {h : kH} {f : Nat} (hf : f ∈ FL) {x1 : Int} {x2 : Int} (s1 : 0 ≤ x1 ∧ x1 ≤ 7) (s2 : 0 ≤ x2 ∧ x2 ≤ 7) (hI : Gd g h) : Ctr G y_Fleet_meet X_Fleet_meet 3 [.ref (G.2.2.2 f), kI x1, kI x2] h (kQi (fun z h' => h' = h ∧ ((z = 1 ∧ mt h f x1.toNat x2.toNat) ∨ (z = 0 ∧ ¬ mt h f x1.toNat x2.toNat)))) := by
  refine Ctr.ofK (by decide) rfl T_Fleet_meet (Nat.le_of_ble_eq_true rfl) (lo := [(0, .ref (G.2.2.2 f)), (1, kI x1), (2, kI x2)]) rfl ?_
  refine K_aload_n (pc := 0) (i := 0) rfl rfl ?_
  refine K_getR (pc := 1) (i := 1) (j := 1) (d := f + 2) rfl (S_Fl hf) rfl (by decide) rfl fw_Fleet_15 ?_
  refine K_iload_n (pc := 4) (i := 2) rfl rfl ?_
  refine K_iald (pc := 5) (i := 3) rfl (S_Fl2 hf) (by omega) (by omega) (by decide) ?_
  refine K_nm (fun v5 e5 => ?_)
  have r5 := rd_stake hI hf (x1).toNat
  rw [← e5] at r5
  refine K_aload_n (pc := 6) (i := 4) rfl rfl ?_
  refine K_getR (pc := 7) (i := 5) (j := 2) (d := f + 3) rfl (S_Fl hf) rfl (by decide) rfl fw_Fleet_18 ?_
  refine K_iload_n (pc := 10) (i := 6) rfl rfl ?_
  refine K_iald (pc := 11) (i := 7) rfl (S_Fl3 hf) (by omega) (by omega) (by decide) ?_
  refine K_nm (fun v11 e11 => ?_)
  have r11 := rd_x hI hf (x1).toNat
  rw [← e11] at r11
  refine K_aload_n (pc := 12) (i := 8) rfl rfl ?_
  refine K_getR (pc := 13) (i := 9) (j := 3) (d := f + 4) rfl (S_Fl hf) rfl (by decide) rfl fw_Fleet_21 ?_
  refine K_iload_n (pc := 16) (i := 10) rfl rfl ?_
  refine K_iald (pc := 17) (i := 11) rfl (S_Fl4 hf) (by omega) (by omega) (by decide) ?_
  refine K_nm (fun v17 e17 => ?_)
  have r17 := rd_height hI hf (x1).toNat
  rw [← e17] at r17
  refine K_aload_n (pc := 18) (i := 12) rfl rfl ?_
  refine K_getR (pc := 19) (i := 13) (j := 1) (d := f + 2) rfl (S_Fl hf) rfl (by decide) rfl fw_Fleet_15 ?_
  refine K_iload_n (pc := 22) (i := 14) rfl rfl ?_
  refine K_iald (pc := 23) (i := 15) rfl (S_Fl2 hf) (by omega) (by omega) (by decide) ?_
  refine K_nm (fun v23 e23 => ?_)
  have r23 := rd_stake hI hf (x2).toNat
  rw [← e23] at r23
  refine K_aload_n (pc := 24) (i := 16) rfl rfl ?_
  refine K_getR (pc := 25) (i := 17) (j := 2) (d := f + 3) rfl (S_Fl hf) rfl (by decide) rfl fw_Fleet_18 ?_
  refine K_iload_n (pc := 28) (i := 18) rfl rfl ?_
  refine K_iald (pc := 29) (i := 19) rfl (S_Fl3 hf) (by omega) (by omega) (by decide) ?_
  refine K_nm (fun v29 e29 => ?_)
  have r29 := rd_x hI hf (x2).toNat
  rw [← e29] at r29
  refine K_aload_n (pc := 30) (i := 20) rfl rfl ?_
  refine K_getR (pc := 31) (i := 21) (j := 3) (d := f + 4) rfl (S_Fl hf) rfl (by decide) rfl fw_Fleet_21 ?_
  refine K_iload_n (pc := 34) (i := 22) rfl rfl ?_
  refine K_iald (pc := 35) (i := 23) rfl (S_Fl4 hf) (by omega) (by omega) (by decide) ?_
  refine K_nm (fun v35 e35 => ?_)
  have r35 := rd_height hI hf (x2).toNat
  rw [← e35] at r35
  refine K_cSI (pc := 36) (i := 24) rfl (c_Fleet_linesMeet G (x0 := v5) (x1 := v11) (x2 := v17) (x3 := v23) (x4 := v29) (x5 := v35) (s0 := by omega) (s1 := by omega) (s2 := by omega) (s3 := by omega) (s4 := by omega) (s5 := by omega)) (ls_Fleet_40 rfl) rfl rfl rfl rfl (fun v36 h36 q36 => ?_)
  obtain ⟨eh, r36⟩ := q36
  rw [eh]; clear eh
  exact K_retZ (pc := 39) (i := 25) rfl rfl (by omega) ⟨rfl, by unfold mt; rw [← e5, ← e11, ← e17, ← e23, ← e29, ← e35]; exact r36⟩
