def trC (h : kH) (f a b : Nat) : Int := (h (f + 3) a - h (f + 2) a) * h (f + 4) b - (h (f + 3) b - h (f + 2) b) * h (f + 4) a
def mhC (h : kH) (f a b : Nat) : Int := kAbs (h (f + 2) b - h (f + 2) a) * h (f + 4) a * h (f + 4) b
def mxC (h : kH) (f a b : Nat) : Int := (h (f + 2) a * trC h f a b + (h (f + 3) a - h (f + 2) a) * (h (f + 2) b - h (f + 2) a) * h (f + 4) b) * (trC h f a b).sign
set_option maxHeartbeats 4000000 in
set_option maxRecDepth 100000 in
theorem c_Fleet_turn (G : kG) {g : kGh} {h : kH} {f : Nat} (hf : f ∈ FL) {x1 : Int} {x2 : Int} (s1 : 0 ≤ x1 ∧ x1 ≤ 7) (s2 : 0 ≤ x2 ∧ x2 ≤ 7) (hI : Gd g h) : Ctr G y_Fleet_turn X_Fleet_turn 1 [.ref (G.2.2.2 f), kI x1, kI x2] h (kQi (fun z h' => h' = h ∧ z = trC h f x1.toNat x2.toNat ∧ -720 ≤ z ∧ z ≤ 720)) := by
  refine Ctr.ofK (by decide) rfl T_Fleet_turn (Nat.le_of_ble_eq_true rfl) (lo := [(0, .ref (G.2.2.2 f)), (1, kI x1), (2, kI x2)]) rfl ?_
  refine K_aload_n (pc := 0) (i := 0) rfl rfl ?_
  refine K_getR (pc := 1) (i := 1) (j := 2) (d := f + 3) rfl (S_Fl hf) rfl (by decide) rfl fw_Fleet_18 ?_
  refine K_iload_n (pc := 4) (i := 2) rfl rfl ?_
  refine K_iald (pc := 5) (i := 3) rfl (S_Fl3 hf) (by omega) (by omega) (by decide) ?_
  refine K_nm (fun v5 e5 => ?_)
  have r5 := rd_x hI hf (x1).toNat
  rw [← e5] at r5
  refine K_aload_n (pc := 6) (i := 4) rfl rfl ?_
  refine K_getR (pc := 7) (i := 5) (j := 1) (d := f + 2) rfl (S_Fl hf) rfl (by decide) rfl fw_Fleet_15 ?_
  refine K_iload_n (pc := 10) (i := 6) rfl rfl ?_
  refine K_iald (pc := 11) (i := 7) rfl (S_Fl2 hf) (by omega) (by omega) (by decide) ?_
  refine K_nm (fun v11 e11 => ?_)
  have r11 := rd_stake hI hf (x1).toNat
  rw [← e11] at r11
  refine K_isub (pc := 12) (i := 8) rfl ?_
  refine K_aload_n (pc := 13) (i := 9) rfl rfl ?_
  refine K_getR (pc := 14) (i := 10) (j := 3) (d := f + 4) rfl (S_Fl hf) rfl (by decide) rfl fw_Fleet_21 ?_
  refine K_iload_n (pc := 17) (i := 11) rfl rfl ?_
  refine K_iald (pc := 18) (i := 12) rfl (S_Fl4 hf) (by omega) (by omega) (by decide) ?_
  refine K_nm (fun v18 e18 => ?_)
  have r18 := rd_height hI hf (x2).toNat
  rw [← e18] at r18
  refine K_imul (pc := 19) (i := 13) rfl ?_
  refine K_nm (fun v19 e19 => ?_)
  have u19 := mul_bd (A := 40) (B := 9) (a := v5 - v11) (b := v18) (by omega) (by omega)
  rw [← e19] at u19
  refine K_aload_n (pc := 20) (i := 14) rfl rfl ?_
  refine K_getR (pc := 21) (i := 15) (j := 2) (d := f + 3) rfl (S_Fl hf) rfl (by decide) rfl fw_Fleet_18 ?_
  refine K_iload_n (pc := 24) (i := 16) rfl rfl ?_
  refine K_iald (pc := 25) (i := 17) rfl (S_Fl3 hf) (by omega) (by omega) (by decide) ?_
  refine K_nm (fun v25 e25 => ?_)
  have r25 := rd_x hI hf (x2).toNat
  rw [← e25] at r25
  refine K_aload_n (pc := 26) (i := 18) rfl rfl ?_
  refine K_getR (pc := 27) (i := 19) (j := 1) (d := f + 2) rfl (S_Fl hf) rfl (by decide) rfl fw_Fleet_15 ?_
  refine K_iload_n (pc := 30) (i := 20) rfl rfl ?_
  refine K_iald (pc := 31) (i := 21) rfl (S_Fl2 hf) (by omega) (by omega) (by decide) ?_
  refine K_nm (fun v31 e31 => ?_)
  have r31 := rd_stake hI hf (x2).toNat
  rw [← e31] at r31
  refine K_isub (pc := 32) (i := 22) rfl ?_
  refine K_aload_n (pc := 33) (i := 23) rfl rfl ?_
  refine K_getR (pc := 34) (i := 24) (j := 3) (d := f + 4) rfl (S_Fl hf) rfl (by decide) rfl fw_Fleet_21 ?_
  refine K_iload_n (pc := 37) (i := 25) rfl rfl ?_
  refine K_iald (pc := 38) (i := 26) rfl (S_Fl4 hf) (by omega) (by omega) (by decide) ?_
  refine K_nm (fun v38 e38 => ?_)
  have r38 := rd_height hI hf (x1).toNat
  rw [← e38] at r38
  refine K_imul (pc := 39) (i := 27) rfl ?_
  refine K_nm (fun v39 e39 => ?_)
  have u39 := mul_bd (A := 40) (B := 9) (a := v25 - v31) (b := v38) (by omega) (by omega)
  rw [← e39] at u39
  refine K_isub (pc := 40) (i := 28) rfl ?_
  exact K_retI (pc := 41) (i := 29) rfl rfl ⟨rfl, by unfold trC; rw [← e5, ← e11, ← e18, ← e25, ← e31, ← e38, e19, e39], by omega⟩
set_option maxHeartbeats 4000000 in
set_option maxRecDepth 100000 in
theorem c_Fleet_meetingBelow (G : kG) {g : kGh} {h : kH} {f : Nat} (hf : f ∈ FL) {x1 : Int} {x2 : Int} (s1 : 0 ≤ x1 ∧ x1 ≤ 7) (s2 : 0 ≤ x2 ∧ x2 ≤ 7) (hI : Gd g h) : Ctr G y_Fleet_meetingBelow X_Fleet_meetingBelow 2 [.ref (G.2.2.2 f), kI x1, kI x2] h (kQi (fun z h' => h' = h ∧ z = kAbs (trC h f x1.toNat x2.toNat) ∧ 0 ≤ z ∧ z ≤ 720)) := by
  refine Ctr.ofK (by decide) rfl T_Fleet_meetingBelow (Nat.le_of_ble_eq_true rfl) (lo := [(0, .ref (G.2.2.2 f)), (1, kI x1), (2, kI x2)]) rfl ?_
  refine K_aload_n (pc := 0) (i := 0) rfl rfl ?_
  refine K_iload_n (pc := 1) (i := 1) rfl rfl ?_
  refine K_iload_n (pc := 2) (i := 2) rfl rfl ?_
  refine K_cVI (pc := 3) (i := 3) rfl (c_Fleet_turn G (f := f) (hf := hf) (x1 := x1) (x2 := x2) (hI := hI) (s1 := by omega) (s2 := by omega)) (S_Fl hf) rfl (lv_Fleet_50 rfl) rfl rfl rfl rfl rfl (fun v3 h3 q3 => ?_)
  obtain ⟨eh, r3⟩ := q3
  rw [eh]; clear eh
  refine K_mabs (pc := 6) (i := 4) rfl mw_Fleet_54 (by omega) (Nat.le_of_ble_eq_true rfl) ⟨Nat.le_of_ble_eq_true rfl, Nat.le_of_ble_eq_true rfl⟩ ⟨Nat.le_of_ble_eq_true rfl, Nat.le_of_ble_eq_true rfl⟩ ?_
  refine K_nm (fun v6 e6 => ?_)
  have r6 := kAbs_r (a := v3) (by omega)
  rw [← e6] at r6
  exact K_retI (pc := 9) (i := 5) rfl rfl ⟨rfl, by rw [e6, r3.1], by omega⟩
set_option maxHeartbeats 4000000 in
set_option maxRecDepth 100000 in
theorem c_Fleet_meetingHeight (G : kG) {g : kGh} {h : kH} {f : Nat} (hf : f ∈ FL) {x1 : Int} {x2 : Int} (s1 : 0 ≤ x1 ∧ x1 ≤ 7) (s2 : 0 ≤ x2 ∧ x2 ≤ 7) (hI : Gd g h) : Ctr G y_Fleet_meetingHeight X_Fleet_meetingHeight 2 [.ref (G.2.2.2 f), kI x1, kI x2] h (kQi (fun z h' => h' = h ∧ z = mhC h f x1.toNat x2.toNat ∧ 0 ≤ z ∧ z ≤ 3240)) := by
  refine Ctr.ofK (by decide) rfl T_Fleet_meetingHeight (Nat.le_of_ble_eq_true rfl) (lo := [(0, .ref (G.2.2.2 f)), (1, kI x1), (2, kI x2)]) rfl ?_
  refine K_aload_n (pc := 0) (i := 0) rfl rfl ?_
  refine K_getR (pc := 1) (i := 1) (j := 1) (d := f + 2) rfl (S_Fl hf) rfl (by decide) rfl fw_Fleet_15 ?_
  refine K_iload_n (pc := 4) (i := 2) rfl rfl ?_
  refine K_iald (pc := 5) (i := 3) rfl (S_Fl2 hf) (by omega) (by omega) (by decide) ?_
  refine K_nm (fun v5 e5 => ?_)
  have r5 := rd_stake hI hf (x2).toNat
  rw [← e5] at r5
  refine K_aload_n (pc := 6) (i := 4) rfl rfl ?_
  refine K_getR (pc := 7) (i := 5) (j := 1) (d := f + 2) rfl (S_Fl hf) rfl (by decide) rfl fw_Fleet_15 ?_
  refine K_iload_n (pc := 10) (i := 6) rfl rfl ?_
  refine K_iald (pc := 11) (i := 7) rfl (S_Fl2 hf) (by omega) (by omega) (by decide) ?_
  refine K_nm (fun v11 e11 => ?_)
  have r11 := rd_stake hI hf (x1).toNat
  rw [← e11] at r11
  refine K_isub (pc := 12) (i := 8) rfl ?_
  refine K_mabs (pc := 13) (i := 9) rfl mw_Fleet_54 (by omega) (Nat.le_of_ble_eq_true rfl) ⟨Nat.le_of_ble_eq_true rfl, Nat.le_of_ble_eq_true rfl⟩ ⟨Nat.le_of_ble_eq_true rfl, Nat.le_of_ble_eq_true rfl⟩ ?_
  refine K_nm (fun v13 e13 => ?_)
  have r13 := kAbs_r (a := v5 - v11) (by omega)
  rw [← e13] at r13
  refine K_aload_n (pc := 16) (i := 10) rfl rfl ?_
  refine K_getR (pc := 17) (i := 11) (j := 3) (d := f + 4) rfl (S_Fl hf) rfl (by decide) rfl fw_Fleet_21 ?_
  refine K_iload_n (pc := 20) (i := 12) rfl rfl ?_
  refine K_iald (pc := 21) (i := 13) rfl (S_Fl4 hf) (by omega) (by omega) (by decide) ?_
  refine K_nm (fun v21 e21 => ?_)
  have r21 := rd_height hI hf (x1).toNat
  rw [← e21] at r21
  refine K_imul (pc := 22) (i := 14) rfl ?_
  refine K_nm (fun v22 e22 => ?_)
  have u22 := mul_bd (A := 40) (B := 9) (a := v13) (b := v21) (by omega) (by omega)
  rw [← e22] at u22
  have p22 := Int.mul_nonneg (a := v13) (b := v21) (by omega) (by omega)
  rw [← e22] at p22
  refine K_aload_n (pc := 23) (i := 15) rfl rfl ?_
  refine K_getR (pc := 24) (i := 16) (j := 3) (d := f + 4) rfl (S_Fl hf) rfl (by decide) rfl fw_Fleet_21 ?_
  refine K_iload_n (pc := 27) (i := 17) rfl rfl ?_
  refine K_iald (pc := 28) (i := 18) rfl (S_Fl4 hf) (by omega) (by omega) (by decide) ?_
  refine K_nm (fun v28 e28 => ?_)
  have r28 := rd_height hI hf (x2).toNat
  rw [← e28] at r28
  refine K_imul (pc := 29) (i := 19) rfl ?_
  refine K_nm (fun v29 e29 => ?_)
  have u29 := mul_bd (A := 360) (B := 9) (a := v22) (b := v28) (by omega) (by omega)
  rw [← e29] at u29
  have p29 := Int.mul_nonneg (a := v22) (b := v28) (by omega) (by omega)
  rw [← e29] at p29
  exact K_retI (pc := 30) (i := 20) rfl rfl ⟨rfl, by unfold mhC; rw [← e5, ← e11, ← e21, ← e28, ← e13, ← e22, ← e29], by omega⟩
set_option maxHeartbeats 4000000 in
set_option maxRecDepth 100000 in
theorem c_Fleet_meetingX (G : kG) {g : kGh} {h : kH} {f : Nat} (hf : f ∈ FL) {x1 : Int} {x2 : Int} (s1 : 0 ≤ x1 ∧ x1 ≤ 7) (s2 : 0 ≤ x2 ∧ x2 ≤ 7) (hI : Gd g h) : Ctr G y_Fleet_meetingX X_Fleet_meetingX 2 [.ref (G.2.2.2 f), kI x1, kI x2] h (kQi (fun z h' => h' = h ∧ z = mxC h f x1.toNat x2.toNat ∧ -43200 ≤ z ∧ z ≤ 43200)) := by
  refine Ctr.ofK (by decide) rfl T_Fleet_meetingX (Nat.le_of_ble_eq_true rfl) (lo := [(0, .ref (G.2.2.2 f)), (1, kI x1), (2, kI x2)]) rfl ?_
  refine K_aload_n (pc := 0) (i := 0) rfl rfl ?_
  refine K_iload_n (pc := 1) (i := 1) rfl rfl ?_
  refine K_iload_n (pc := 2) (i := 2) rfl rfl ?_
  refine K_cVI (pc := 3) (i := 3) rfl (c_Fleet_turn G (f := f) (hf := hf) (x1 := x1) (x2 := x2) (hI := hI) (s1 := by omega) (s2 := by omega)) (S_Fl hf) rfl (lv_Fleet_50 rfl) rfl rfl rfl rfl rfl (fun v3 h3 q3 => ?_)
  obtain ⟨eh, r3⟩ := q3
  rw [eh]; clear eh
  refine K_ist_n (pc := 6) (i := 4) (lo' := [(0, _), (1, _), (2, _), (3, _)]) rfl rfl rfl rfl ?_
  refine K_aload_n (pc := 7) (i := 5) rfl rfl ?_
  refine K_getR (pc := 8) (i := 6) (j := 2) (d := f + 3) rfl (S_Fl hf) rfl (by decide) rfl fw_Fleet_18 ?_
  refine K_iload_n (pc := 11) (i := 7) rfl rfl ?_
  refine K_iald (pc := 12) (i := 8) rfl (S_Fl3 hf) (by omega) (by omega) (by decide) ?_
  refine K_nm (fun v12 e12 => ?_)
  have r12 := rd_x hI hf (x1).toNat
  rw [← e12] at r12
  refine K_aload_n (pc := 13) (i := 9) rfl rfl ?_
  refine K_getR (pc := 14) (i := 10) (j := 1) (d := f + 2) rfl (S_Fl hf) rfl (by decide) rfl fw_Fleet_15 ?_
  refine K_iload_n (pc := 17) (i := 11) rfl rfl ?_
  refine K_iald (pc := 18) (i := 12) rfl (S_Fl2 hf) (by omega) (by omega) (by decide) ?_
  refine K_nm (fun v18 e18 => ?_)
  have r18 := rd_stake hI hf (x1).toNat
  rw [← e18] at r18
  refine K_isub (pc := 19) (i := 13) rfl ?_
  refine K_aload_n (pc := 20) (i := 14) rfl rfl ?_
  refine K_getR (pc := 21) (i := 15) (j := 1) (d := f + 2) rfl (S_Fl hf) rfl (by decide) rfl fw_Fleet_15 ?_
  refine K_iload_n (pc := 24) (i := 16) rfl rfl ?_
  refine K_iald (pc := 25) (i := 17) rfl (S_Fl2 hf) (by omega) (by omega) (by decide) ?_
  refine K_nm (fun v25 e25 => ?_)
  have r25 := rd_stake hI hf (x2).toNat
  rw [← e25] at r25
  refine K_aload_n (pc := 26) (i := 18) rfl rfl ?_
  refine K_getR (pc := 27) (i := 19) (j := 1) (d := f + 2) rfl (S_Fl hf) rfl (by decide) rfl fw_Fleet_15 ?_
  refine K_iload_n (pc := 30) (i := 20) rfl rfl ?_
  refine K_iald (pc := 31) (i := 21) rfl (S_Fl2 hf) (by omega) (by omega) (by decide) ?_
  refine K_nm (fun v31 e31 => ?_)
  have r31 := rd_stake hI hf (x1).toNat
  rw [← e31] at r31
  refine K_isub (pc := 32) (i := 22) rfl ?_
  refine K_imul (pc := 33) (i := 23) rfl ?_
  refine K_nm (fun v33 e33 => ?_)
  have u33 := mul_bd (A := 40) (B := 40) (a := v12 - v18) (b := v25 - v31) (by omega) (by omega)
  rw [← e33] at u33
  refine K_aload_n (pc := 34) (i := 24) rfl rfl ?_
  refine K_getR (pc := 35) (i := 25) (j := 3) (d := f + 4) rfl (S_Fl hf) rfl (by decide) rfl fw_Fleet_21 ?_
  refine K_iload_n (pc := 38) (i := 26) rfl rfl ?_
  refine K_iald (pc := 39) (i := 27) rfl (S_Fl4 hf) (by omega) (by omega) (by decide) ?_
  refine K_nm (fun v39 e39 => ?_)
  have r39 := rd_height hI hf (x2).toNat
  rw [← e39] at r39
  refine K_imul (pc := 40) (i := 28) rfl ?_
  refine K_nm (fun v40 e40 => ?_)
  have u40 := mul_bd (A := 1600) (B := 9) (a := v33) (b := v39) (by omega) (by omega)
  rw [← e40] at u40
  refine K_ist (pc := 41) (i := 29) (lo' := [(0, _), (1, _), (2, _), (3, _), (4, _)]) rfl rfl rfl rfl ?_
  refine K_aload_n (pc := 43) (i := 30) rfl rfl ?_
  refine K_getR (pc := 44) (i := 31) (j := 1) (d := f + 2) rfl (S_Fl hf) rfl (by decide) rfl fw_Fleet_15 ?_
  refine K_iload_n (pc := 47) (i := 32) rfl rfl ?_
  refine K_iald (pc := 48) (i := 33) rfl (S_Fl2 hf) (by omega) (by omega) (by decide) ?_
  refine K_nm (fun v48 e48 => ?_)
  have r48 := rd_stake hI hf (x1).toNat
  rw [← e48] at r48
  refine K_iload_n (pc := 49) (i := 34) rfl rfl ?_
  refine K_imul (pc := 50) (i := 35) rfl ?_
  refine K_nm (fun v50 e50 => ?_)
  have u50 := mul_bd (A := 40) (B := 720) (a := v48) (b := v3) (by omega) (by omega)
  rw [← e50] at u50
  refine K_iload (pc := 51) (i := 36) rfl rfl ?_
  refine K_iadd (pc := 53) (i := 37) rfl ?_
  refine K_iload_n (pc := 54) (i := 38) rfl rfl ?_
  refine K_cSI (pc := 55) (i := 39) rfl (c_Integer_signum G (x0 := v3)) (ls_Fleet_44 rfl) rfl rfl rfl rfl (fun v55 h55 q55 => ?_)
  obtain ⟨eh, r55⟩ := q55
  rw [eh]; clear eh
  have s55 : v55 = v3.sign := r55.2 (by omega) (by omega)
  have t55 : v55 = -1 ∨ v55 = 0 ∨ v55 = 1 := by rw [s55]; exact sg3 _
  refine K_imul (pc := 58) (i := 40) rfl ?_
  refine K_nm (fun v58 e58 => ?_)
  have u58 : -43200 ≤ v58 ∧ v58 ≤ 43200 := by rw [e58]; rcases t55 with q | q | q <;> rw [q] <;> omega
  exact K_retI (pc := 59) (i := 41) rfl rfl ⟨rfl, by unfold mxC; rw [e58, s55, e50, e40, e33, r3.1, e12, e18, e25, e31, e39, e48], by omega⟩
