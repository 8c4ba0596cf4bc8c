set_option maxHeartbeats 4000000 in
set_option maxRecDepth 100000 in
theorem c_Acts_clear (G : kG) {g : kGh} {h : kH}  (hI : Gd g h) : Ctr G y_Acts_clear X_Acts_clear 1 [.ref (G.2.2.2 23)] h (kQv (fun h' => Fx (fun c i => c = 23 ∧ i = 2) h h' ∧ (Gd g h' ∧ h' 23 2 = 0))) := by
  refine Ctr.ofK (by decide) rfl T_Acts_clear (Nat.le_of_ble_eq_true rfl) (lo := [(0, .ref (G.2.2.2 23))]) rfl ?_
  have fx : Fx (fun c i => c = 23 ∧ i = 2) h h := Fx.rf
  refine K_aload_n (pc := 0) (i := 0) rfl rfl ?_
  refine K_iconst (pc := 1) (i := 1) rfl ?_
  refine K_putI (pc := 2) (i := 2) (j := 2) rfl S_23 rfl (by decide) rfl rfl rfl fw_Acts_21 ?_
  have hI := st_actsize hI (v := 0) (by omega)
  have fx := Fx.st (c := 23) (i := 2) (v := 0) fx (by first | (dsimp only; omega) | omega | exact not_false)
  exact K_retV (pc := 5) (i := 3) rfl rfl ⟨fx, ⟨hI, by rw [kU_at, if_pos ⟨rfl, rfl⟩]⟩⟩
theorem ring_ge {i q : Nat} (h : [25, 32, 39, 46, 53, 60, 67, 74, 81, 88, 95, 102, 109, 116, 123, 130][i]? = some q) : 25 ≤ q := by
  have := List.mem_of_getElem? h
  simp at this
  omega
set_option maxHeartbeats 4000000 in
set_option maxRecDepth 100000 in
theorem c_Acts_remember (G : kG) {g : kGh} {h : kH} {f : Nat} (hf : f ∈ FL) (hr : f + 7 ≤ 25 ∨ 137 ≤ f) (hI : Gd g h) : Ctr G y_Acts_remember X_Acts_remember 3 [.ref (G.2.2.2 23), .ref (G.2.2.2 f)] h (kQv (fun h' => Fx (fun c i => c = 23 ∨ (25 ≤ c ∧ c ≤ 136)) h h' ∧ (Gd g h' ∧ (∀ c, c < 23 → h' c = h c) ∧ (h' 23 1 = (h 23 1 + 1) % 16 ∧ h' 23 2 = min 16 (h 23 2 + 1)) ∧ FC h' (25 + 7 * (h 23 1).toNat) h f ∧ ∀ c, 25 ≤ c → c < 25 + 7 * (h 23 1).toNat ∨ 32 + 7 * (h 23 1).toNat ≤ c → h' c = h c))) := by
  refine Ctr.ofK (by decide) rfl T_Acts_remember (Nat.le_of_ble_eq_true rfl) (lo := [(0, .ref (G.2.2.2 23)), (1, .ref (G.2.2.2 f))]) rfl ?_
  have fx : Fx (fun c i => c = 23 ∨ (25 ≤ c ∧ c ≤ 136)) h h := Fx.rf
  refine K_aload_n (pc := 0) (i := 0) rfl rfl ?_
  refine K_getR (pc := 1) (i := 1) (j := 0) (d := 24) rfl S_23 rfl (by decide) rfl fw_Acts_11 ?_
  refine K_aload_n (pc := 4) (i := 2) rfl rfl ?_
  refine K_getI (pc := 5) (i := 3) (j := 1) rfl S_23 rfl (by decide) rfl fw_Acts_17 ?_
  refine K_nm (fun v5 e5 => ?_)
  have r5 := rd_actnext hI
  rw [← e5] at r5
  obtain ⟨q8, hq8, hfq8⟩ := ringAt (a := v5) (by omega) (by omega)
  refine K_aald (pc := 8) (i := 4) (q := q8) rfl S_24 (by decide) (by omega) (by simp; omega) (by decide) hq8 ?_
  obtain ⟨hp8, hr8⟩ := ringAt2 hq8
  have hp9 : q8 = 25 + 7 * (h 23 1).toNat := by rw [← e5]; omega
  refine K_aload_n (pc := 9) (i := 5) rfl rfl ?_
  refine K_cVV (pc := 10) (i := 6) rfl (c_Fleet_copyFrom G (f := q8) (hf := hfq8) (f2 := f) (hf2 := hf) (hI := hI) (dj := by omega)) (S_Fl hfq8) rfl (lv_Acts_25 rfl) rfl rfl rfl rfl rfl (fun h10 q10 => ?_)
  obtain ⟨fx10, q10⟩ := q10
  obtain ⟨hI, fr10, fc10⟩ := q10
  have fx := fx.tr fx10 (fun c i q => (by first | (dsimp only at q ⊢; omega) | omega))
  have k15 : h10 23 = h 23 := fr10 23 (by omega)
  refine K_aload_n (pc := 13) (i := 7) rfl rfl ?_
  refine K_aload_n (pc := 14) (i := 8) rfl rfl ?_
  refine K_getI (pc := 15) (i := 9) (j := 1) rfl S_23 rfl (by decide) rfl fw_Acts_17 ?_
  refine K_nm (fun v15 e15 => ?_)
  have r15 := rd_actnext hI
  rw [← e15] at r15
  have t15 : v15 = h 23 1 := by rw [e15, k15]
  refine K_iconst (pc := 18) (i := 10) rfl ?_
  refine K_iadd (pc := 19) (i := 11) rfl ?_
  refine K_bipush (pc := 20) (i := 12) rfl rfl ?_
  refine K_irem (pc := 22) (i := 13) rfl (by omega) (by omega) ?_
  refine K_eq (kRem_eq (by omega) (by omega) (by omega) (by omega)) ?_
  refine K_putI (pc := 23) (i := 14) (j := 1) rfl S_23 rfl (by decide) rfl rfl rfl fw_Acts_17 ?_
  have hI := st_actnext hI (v := (v15 + 1) % 16) (by omega)
  have fx := Fx.st (c := 23) (i := 1) (v := (v15 + 1) % 16) fx (by first | (dsimp only; omega) | omega | exact not_false)
  refine K_aload_n (pc := 26) (i := 15) rfl rfl ?_
  refine K_bipush (pc := 27) (i := 16) rfl rfl ?_
  refine K_aload_n (pc := 29) (i := 17) rfl rfl ?_
  refine K_getI (pc := 30) (i := 18) (j := 2) rfl S_23 rfl (by decide) rfl fw_Acts_21 ?_
  refine K_nm (fun v30 e30 => ?_)
  have r30 := rd_actsize hI
  rw [← e30] at r30
  have t30 : v30 = h 23 2 := by rw [e30, kU_at, if_neg (by omega), k15]
  refine K_iconst (pc := 33) (i := 19) rfl ?_
  refine K_iadd (pc := 34) (i := 20) rfl ?_
  refine K_mmin (pc := 35) (i := 21) rfl mw_Acts_29 (by omega) (by omega) (Nat.le_of_ble_eq_true rfl) ⟨Nat.le_of_ble_eq_true rfl, Nat.le_of_ble_eq_true rfl⟩ ⟨Nat.le_of_ble_eq_true rfl, Nat.le_of_ble_eq_true rfl⟩ ?_
  refine K_nm (fun v35 e35 => ?_)
  refine K_putI (pc := 38) (i := 22) (j := 2) rfl S_23 rfl (by decide) rfl rfl rfl fw_Acts_21 ?_
  have hI := st_actsize hI (v := v35) (by omega)
  have fx := Fx.st (c := 23) (i := 2) (v := v35) fx (by first | (dsimp only; omega) | omega | exact not_false)
  exact K_retV (pc := 41) (i := 23) rfl rfl ⟨fx, ⟨hI, fun c hc => (kU_c _ _ _ _ (by omega)).trans ((kU_c _ _ _ _ (by omega)).trans (fr10 c (Or.inl (by have := ring_ge hq8; omega)))), ⟨by rw [kU_at, if_neg (by omega), kU_at, if_pos ⟨rfl, rfl⟩, t15], by rw [kU_at, if_pos ⟨rfl, rfl⟩, e35, t30]⟩, by rw [← hp9]; exact fc10.tr (FC.same (fun c a b => (kU_c _ _ _ _ (by omega)).trans (kU_c _ _ _ _ (by omega)))), fun c a b => (kU_c _ _ _ _ (by omega)).trans ((kU_c _ _ _ _ (by omega)).trans (fr10 c (by omega)))⟩⟩
set_option maxHeartbeats 4000000 in
set_option maxRecDepth 100000 in
theorem c_Acts_takeBack (G : kG) {g : kGh} {h : kH} {f : Nat} (hf : f ∈ FL) (hr : f + 7 ≤ 23 ∨ 137 ≤ f) (hI : Gd g h) : Ctr G y_Acts_takeBack X_Acts_takeBack 3 [.ref (G.2.2.2 23), .ref (G.2.2.2 f)] h (kQi (fun z h' => Fx (fun c i => c = 23 ∨ (f ≤ c ∧ c ≤ f + 6)) h h' ∧ (Gd g h' ∧ ((z = 0 ∧ h 23 2 = 0 ∧ h' = h) ∨ (z = 1 ∧ h 23 2 ≠ 0 ∧ h' 23 1 = (h 23 1 + 15) % 16 ∧ h' 23 2 = h 23 2 - 1 ∧ FC h' f h (25 + 7 * ((h 23 1 + 15) % 16).toNat)))))) := by
  refine Ctr.ofK (by decide) rfl T_Acts_takeBack (Nat.le_of_ble_eq_true rfl) (lo := [(0, .ref (G.2.2.2 23)), (1, .ref (G.2.2.2 f))]) rfl ?_
  have fx : Fx (fun c i => c = 23 ∨ (f ≤ c ∧ c ≤ f + 6)) h h := Fx.rf
  refine K_aload_n (pc := 0) (i := 0) rfl rfl ?_
  refine K_getI (pc := 1) (i := 1) (j := 2) rfl S_23 rfl (by decide) rfl fw_Acts_21 ?_
  refine K_nm (fun v1 e1 => ?_)
  have r1 := rd_actsize hI
  rw [← e1] at r1
  first | refine K_if_ne 9 (pc := 4) (i := 2) rfl rfl (by omega) (fun b4 => ?_) (fun b4 => ?_) | refine K_if_ne_an 9 (pc := 4) (i := 2) rfl rfl (fun b4 => ?_) (fun b4 => ?_)
  · skip
    refine K_aload_n (pc := 9) (i := 5) rfl rfl ?_
    refine K_aload_n (pc := 10) (i := 6) rfl rfl ?_
    refine K_getI (pc := 11) (i := 7) (j := 1) rfl S_23 rfl (by decide) rfl fw_Acts_17 ?_
    refine K_nm (fun v11 e11 => ?_)
    have r11 := rd_actnext hI
    rw [← e11] at r11
    refine K_bipush (pc := 14) (i := 8) rfl rfl ?_
    refine K_iadd (pc := 16) (i := 9) rfl ?_
    refine K_iconst (pc := 17) (i := 10) rfl ?_
    refine K_isub (pc := 18) (i := 11) rfl ?_
    refine K_bipush (pc := 19) (i := 12) rfl rfl ?_
    refine K_irem (pc := 21) (i := 13) rfl (by omega) (by omega) ?_
    refine K_eq (kRem_eq (by omega) (by omega) (by omega) (by omega)) ?_
    refine K_putI (pc := 22) (i := 14) (j := 1) rfl S_23 rfl (by decide) rfl rfl rfl fw_Acts_17 ?_
    have hI := st_actnext hI (v := ((v11 + 16) - 1) % 16) (by omega)
    have fx := Fx.st (c := 23) (i := 1) (v := ((v11 + 16) - 1) % 16) fx (by first | (dsimp only; omega) | omega | exact not_false)
    refine K_aload_n (pc := 25) (i := 15) rfl rfl ?_
    refine K_dup (pc := 26) (i := 16) rfl rfl ?_
    refine K_getI (pc := 27) (i := 17) (j := 2) rfl S_23 rfl (by decide) rfl fw_Acts_21 ?_
    refine K_nm (fun v27 e27 => ?_)
    have r27 := rd_actsize hI
    rw [← e27] at r27
    have t27 : v27 = h 23 2 := by rw [e27, kU_at, if_neg (by omega)]
    refine K_iconst (pc := 30) (i := 18) rfl ?_
    refine K_isub (pc := 31) (i := 19) rfl ?_
    refine K_putI (pc := 32) (i := 20) (j := 2) rfl S_23 rfl (by decide) rfl rfl rfl fw_Acts_21 ?_
    have hI := st_actsize hI (v := v27 - 1) (by omega)
    have fx := Fx.st (c := 23) (i := 2) (v := v27 - 1) fx (by first | (dsimp only; omega) | omega | exact not_false)
    refine K_aload_n (pc := 35) (i := 21) rfl rfl ?_
    refine K_aload_n (pc := 36) (i := 22) rfl rfl ?_
    refine K_getR (pc := 37) (i := 23) (j := 0) (d := 24) rfl S_23 rfl (by decide) rfl fw_Acts_11 ?_
    refine K_aload_n (pc := 40) (i := 24) rfl rfl ?_
    refine K_getI (pc := 41) (i := 25) (j := 1) rfl S_23 rfl (by decide) rfl fw_Acts_17 ?_
    refine K_nm (fun v41 e41 => ?_)
    have r41 := rd_actnext hI
    rw [← e41] at r41
    have t41 : v41 = (v11 + 15) % 16 := by rw [e41, kU_at, if_neg (by omega), kU_at, if_pos ⟨rfl, rfl⟩]; omega
    obtain ⟨q44, hq44, hfq44⟩ := ringAt (a := v41) (by omega) (by omega)
    refine K_aald (pc := 44) (i := 26) (q := q44) rfl S_24 (by decide) (by omega) (by simp; omega) (by decide) hq44 ?_
    obtain ⟨hp44, hr44⟩ := ringAt2 hq44
    have hp9 : q44 = 25 + 7 * ((h 23 1 + 15) % 16).toNat := by rw [← e11, ← t41]; omega
    refine K_cVV (pc := 45) (i := 27) rfl (c_Fleet_copyFrom G (f := f) (hf := hf) (f2 := q44) (hf2 := hfq44) (hI := hI) (dj := by omega)) (S_Fl hf) rfl (lv_Acts_25 rfl) rfl rfl rfl rfl rfl (fun h45 q45 => ?_)
    obtain ⟨fx45, q45⟩ := q45
    obtain ⟨hI, fr45, fc45⟩ := q45
    have fx := fx.tr fx45 (fun c i q => (by first | (dsimp only at q ⊢; omega) | omega))
    refine K_iconst (pc := 48) (i := 28) rfl ?_
    exact K_retZ (pc := 49) (i := 29) rfl rfl (by omega) ⟨fx, ⟨hI, Or.inr ⟨rfl, by omega, by rw [fr45 23 (by omega), kU_at, if_neg (by omega), kU_at, if_pos ⟨rfl, rfl⟩]; omega, by rw [fr45 23 (by omega), kU_at, if_pos ⟨rfl, rfl⟩]; omega, by rw [← hp9]; exact (FC.same (fun c a b => (kU_c _ _ _ _ (by omega)).trans (kU_c _ _ _ _ (by omega)))).tr fc45⟩⟩⟩
  · skip
    refine K_iconst (pc := 7) (i := 3) rfl ?_
    exact K_retZ (pc := 8) (i := 4) rfl rfl (by omega) ⟨fx, ⟨hI, Or.inl ⟨rfl, by omega, rfl⟩⟩⟩
