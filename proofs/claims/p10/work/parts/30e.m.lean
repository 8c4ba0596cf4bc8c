set_option maxHeartbeats 4000000 in
set_option maxRecDepth 100000 in
theorem c_Model_layTonight (G : kG) {g : kGh} {h : kH}  (hT : g.2.2.2.2){x1 : Int} (s1 : 0 ≤ x1 ∧ x1 ≤ 1) (hI : Gd g h) : Ctr G y_Model_layTonight X_Model_layTonight 5 [.ref (G.2.2.2 184), kI x1] h (kQi (fun z h' => Fx (fun c i => (c = 187 ∧ 40 ≤ i) ∨ c = 192 ∨ (c = 184 ∧ i = 15)) h h' ∧ (Gd g h' ∧ kR z))) := by
  refine Ctr.ofK (by decide) rfl T_Model_layTonight (Nat.le_of_ble_eq_true rfl) (lo := [(0, .ref (G.2.2.2 184)), (1, kI x1)]) rfl ?_
  have fx : Fx (fun c i => (c = 187 ∧ 40 ≤ i) ∨ c = 192 ∨ (c = 184 ∧ i = 15)) h h := Fx.rf
  refine K_iconst (pc := 0) (i := 0) rfl ?_
  refine K_ist_n (pc := 1) (i := 1) (lo' := [(0, _), (1, _), (2, _)]) rfl rfl rfl rfl ?_
  refine K_aload_n (pc := 2) (i := 2) rfl rfl ?_
  refine K_bipush (pc := 3) (i := 3) rfl rfl ?_
  refine K_putI (pc := 5) (i := 4) (j := 15) rfl S_184 rfl (by decide) rfl rfl rfl fw_Model_172 ?_
  have hI := st_tonightMost hI (v := -99)
  have fx := Fx.st (c := 184) (i := 15) (v := -99) fx (by first | (dsimp only; omega) | omega | exact not_false)
  refine K_iconst (pc := 8) (i := 5) rfl ?_
  refine K_ist_n (pc := 9) (i := 6) (lo' := [(0, _), (1, _), (2, _), (3, _)]) rfl rfl rfl rfl ?_
  have L10 : ∀ (n : Nat) (x2 : Int) (x3 : Int) (ha : kH), (6561 - x3).toNat < n → (Gd g ha) → (Fx (fun c i => (c = 187 ∧ 40 ≤ i) ∨ c = 192 ∨ (c = 184 ∧ i = 15)) h ha) → (0 ≤ x3 ∧ x3 ≤ 6561) → K X_Model_layTonight G (kZm G 5 (kQi (fun z h' => Fx (fun c i => (c = 187 ∧ 40 ≤ i) ∨ c = 192 ∨ (c = 184 ∧ i = 15)) h h' ∧ (Gd g h' ∧ kR z)))) 10 [(0, .ref (G.2.2.2 184)), (1, kI x1), (2, kI x2), (3, kI x3)] [] ha := by
    intro n
    induction n with
    | zero => intro x2 x3 ha hm; exact absurd hm (Nat.not_lt_zero _)
    | succ n ih10 =>
      intro x2 x3 ha hm10 hI fx hV10
      refine K_iload_n (pc := 10) (i := 7) rfl rfl ?_
      refine K_aload_n (pc := 11) (i := 8) rfl rfl ?_
      refine K_iload_n (pc := 12) (i := 9) rfl rfl ?_
      refine K_cVI (pc := 13) (i := 10) rfl (c_Model_kitesOf G (x1 := x1) (hI := hI) (s1 := by omega)) S_184 rfl (lv_Model_175 rfl) rfl rfl rfl rfl rfl (fun v13 h13 q13 => ?_)
      obtain ⟨eh, r13⟩ := q13
      rw [eh]; clear eh
      refine K_cSI (pc := 16) (i := 11) rfl (c_Model_threeTo G (x0 := v13) (s0 := by omega)) (ls_Model_178 rfl) rfl rfl rfl rfl (fun v16 h16 q16 => ?_)
      obtain ⟨eh, r16⟩ := q16
      rw [eh]; clear eh
      first | refine K_icmp_ge 101 (pc := 19) (i := 12) rfl rfl (by omega) (by omega) (fun b19 => ?_) (fun b19 => ?_) | refine K_icmp_ge_an 101 (pc := 19) (i := 12) rfl rfl (fun b19 => ?_) (fun b19 => ?_)
      · skip
        refine K_iload_n (pc := 101) (i := 56) rfl rfl ?_
        refine K_any (fun v102 r102 => ?_)
        exact K_retI (pc := 102) (i := 57) rfl rfl ⟨fx, ⟨hI, by omega⟩⟩
      · skip
        have hJ := hI
        refine K_aload_n (pc := 22) (i := 13) rfl rfl ?_
        refine K_cVV (pc := 23) (i := 14) rfl (c_Model_copy G (hI := hI)) S_184 rfl (lv_Model_165 rfl) rfl rfl rfl rfl rfl (fun h23 q23 => ?_)
        obtain ⟨fx23, q23⟩ := q23
        obtain ⟨hI, cp23⟩ := q23
        have fx := fx.tr fx23 (fun c i q => (by first | (dsimp only at q ⊢; omega) | omega))
        have fk23 : FK (kap h23 40) (h23 184 4) := by rw [fx23 184 4 (by first | (dsimp only; omega) | omega | exact not_false)]; exact FK.copy (hJ.2.2.2.2.2 hT).1 (rd_many hJ).2 cp23
        refine K_aload_n (pc := 26) (i := 15) rfl rfl ?_
        refine K_iload_n (pc := 27) (i := 16) rfl rfl ?_
        refine K_iload_n (pc := 28) (i := 17) rfl rfl ?_
        refine K_cVV (pc := 29) (i := 18) rfl (c_Model_layPlan G (x1 := x1) (x2 := x3) (hk := fk23) (hI := hI) (s2 := by omega)) S_184 rfl (lv_Model_181 rfl) rfl rfl rfl rfl rfl (fun h29 q29 => ?_)
        obtain ⟨fx29, q29⟩ := q29
        obtain ⟨hI, fk29⟩ := q29
        have fx := fx.tr fx29 (fun c i q => (by first | (dsimp only at q ⊢; omega) | omega))
        refine K_aload_n (pc := 32) (i := 19) rfl rfl ?_
        refine K_aload_n (pc := 33) (i := 20) rfl rfl ?_
        refine K_getI (pc := 34) (i := 21) (j := 4) rfl S_184 rfl (by decide) rfl fw_Model_59 ?_
        refine K_nm (fun v34 e34 => ?_)
        have r34 := rd_many hI
        rw [← e34] at r34
        refine K_iconst (pc := 37) (i := 22) rfl ?_
        refine K_cVV (pc := 38) (i := 23) rfl (c_Model_blowAll G (x1 := v34) (x2 := 1) (hk := by rw [e34, fx29 184 4 (by first | (dsimp only; omega) | omega | exact not_false)]; exact fk29) (hI := hI) (s1 := by omega) (s2 := by omega)) S_184 rfl (lv_Model_168 rfl) rfl rfl rfl rfl rfl (fun h38 q38 => ?_)
        obtain ⟨fx38, q38⟩ := q38
        obtain ⟨hI, ga38, mt38⟩ := q38
        have fx := fx.tr fx38 (fun c i q => (by first | (dsimp only at q ⊢; omega) | omega))
        refine K_aload_n (pc := 41) (i := 24) rfl rfl ?_
        refine K_getR (pc := 42) (i := 25) (j := 14) (d := 192) rfl S_184 rfl (by decide) rfl fw_Model_31 ?_
        refine K_iload_n (pc := 45) (i := 26) rfl rfl ?_
        refine K_iald (pc := 46) (i := 27) rfl S_192 (by omega) (by omega) (by decide) ?_
        refine K_nm (fun v46 e46 => ?_)
        have u46 := ga38 (x1).toNat (by omega)
        rw [← e46] at u46
        refine K_aload_n (pc := 47) (i := 28) rfl rfl ?_
        refine K_getR (pc := 48) (i := 29) (j := 14) (d := 192) rfl S_184 rfl (by decide) rfl fw_Model_31 ?_
        refine K_iconst (pc := 51) (i := 30) rfl ?_
        refine K_iload_n (pc := 52) (i := 31) rfl rfl ?_
        refine K_isub (pc := 53) (i := 32) rfl ?_
        refine K_iald (pc := 54) (i := 33) rfl S_192 (by omega) (by omega) (by decide) ?_
        refine K_nm (fun v54 e54 => ?_)
        have u54 := ga38 (1 - x1).toNat (by omega)
        rw [← e54] at u54
        refine K_isub (pc := 55) (i := 34) rfl ?_
        refine K_ist (pc := 56) (i := 35) (lo' := [(0, _), (1, _), (2, _), (3, _), (4, _)]) rfl rfl rfl rfl ?_
        refine K_iload (pc := 58) (i := 36) rfl rfl ?_
        refine K_aload_n (pc := 60) (i := 37) rfl rfl ?_
        refine K_getI (pc := 61) (i := 38) (j := 15) rfl S_184 rfl (by decide) rfl fw_Model_172 ?_
        refine K_any (fun v61 r61 => ?_)
        first | refine K_icmp_le 71 (pc := 64) (i := 39) rfl rfl (by omega) (by omega) (fun b64 => ?_) (fun b64 => ?_) | refine K_icmp_le_an 71 (pc := 64) (i := 39) rfl rfl (fun b64 => ?_) (fun b64 => ?_)
        · skip
          refine K_iload_n (pc := 71) (i := 42) rfl rfl ?_
          refine K_ist_n (pc := 72) (i := 43) (lo' := [(0, _), (1, _), (2, _), (3, _), (4, _)]) rfl rfl rfl rfl ?_
          refine K_aload_n (pc := 73) (i := 44) rfl rfl ?_
          refine K_iload (pc := 74) (i := 45) rfl rfl ?_
          refine K_aload_n (pc := 76) (i := 46) rfl rfl ?_
          refine K_getI (pc := 77) (i := 47) (j := 15) rfl S_184 rfl (by decide) rfl fw_Model_172 ?_
          refine K_any (fun v77 r77 => ?_)
          first | refine K_icmp_le 88 (pc := 80) (i := 48) rfl rfl (by omega) (by omega) (fun b80 => ?_) (fun b80 => ?_) | refine K_icmp_le_an 88 (pc := 80) (i := 48) rfl rfl (fun b80 => ?_) (fun b80 => ?_)
          · skip
            refine K_aload_n (pc := 88) (i := 51) rfl rfl ?_
            refine K_getI (pc := 89) (i := 52) (j := 15) rfl S_184 rfl (by decide) rfl fw_Model_172 ?_
            refine K_any (fun v89 r89 => ?_)
            refine K_putI (pc := 92) (i := 53) (j := 15) rfl S_184 rfl (by decide) rfl rfl rfl fw_Model_172 ?_
            have hI := st_tonightMost hI (v := v89)
            have fx := Fx.st (c := 184) (i := 15) (v := v89) fx (by first | (dsimp only; omega) | omega | exact not_false)
            refine K_inc (pc := 95) (i := 54) (q := 3) (lo' := [(0, _), (1, _), (2, _), (3, _), (4, _)]) rfl rfl rfl rfl rfl ?_
            refine K_goto 10 (pc := 98) (i := 55) rfl rfl ?_
            refine K_drop (lo' := [(0, .ref (G.2.2.2 184)), (1, kI x1), (2, kI x2), (3, kI (x3 + 1))]) [0, 1, 2, 3] rfl ?_
            exact ih10 x2 (x3 + 1) _ (by omega) hI fx (by omega)
          · skip
            refine K_iload (pc := 83) (i := 49) rfl rfl ?_
            refine K_goto 92 (pc := 85) (i := 50) rfl rfl ?_
            refine K_putI (pc := 92) (i := 53) (j := 15) rfl S_184 rfl (by decide) rfl rfl rfl fw_Model_172 ?_
            have hI := st_tonightMost hI (v := v46 - v54)
            have fx := Fx.st (c := 184) (i := 15) (v := v46 - v54) fx (by first | (dsimp only; omega) | omega | exact not_false)
            refine K_inc (pc := 95) (i := 54) (q := 3) (lo' := [(0, _), (1, _), (2, _), (3, _), (4, _)]) rfl rfl rfl rfl rfl ?_
            refine K_goto 10 (pc := 98) (i := 55) rfl rfl ?_
            refine K_drop (lo' := [(0, .ref (G.2.2.2 184)), (1, kI x1), (2, kI x2), (3, kI (x3 + 1))]) [0, 1, 2, 3] rfl ?_
            exact ih10 x2 (x3 + 1) _ (by omega) hI fx (by omega)
        · skip
          refine K_iload_n (pc := 67) (i := 40) rfl rfl ?_
          refine K_goto 72 (pc := 68) (i := 41) rfl rfl ?_
          refine K_ist_n (pc := 72) (i := 43) (lo' := [(0, _), (1, _), (2, _), (3, _), (4, _)]) rfl rfl rfl rfl ?_
          refine K_aload_n (pc := 73) (i := 44) rfl rfl ?_
          refine K_iload (pc := 74) (i := 45) rfl rfl ?_
          refine K_aload_n (pc := 76) (i := 46) rfl rfl ?_
          refine K_getI (pc := 77) (i := 47) (j := 15) rfl S_184 rfl (by decide) rfl fw_Model_172 ?_
          refine K_any (fun v77 r77 => ?_)
          first | refine K_icmp_le 88 (pc := 80) (i := 48) rfl rfl (by omega) (by omega) (fun b80 => ?_) (fun b80 => ?_) | refine K_icmp_le_an 88 (pc := 80) (i := 48) rfl rfl (fun b80 => ?_) (fun b80 => ?_)
          · skip
            refine K_aload_n (pc := 88) (i := 51) rfl rfl ?_
            refine K_getI (pc := 89) (i := 52) (j := 15) rfl S_184 rfl (by decide) rfl fw_Model_172 ?_
            refine K_any (fun v89 r89 => ?_)
            refine K_putI (pc := 92) (i := 53) (j := 15) rfl S_184 rfl (by decide) rfl rfl rfl fw_Model_172 ?_
            have hI := st_tonightMost hI (v := v89)
            have fx := Fx.st (c := 184) (i := 15) (v := v89) fx (by first | (dsimp only; omega) | omega | exact not_false)
            refine K_inc (pc := 95) (i := 54) (q := 3) (lo' := [(0, _), (1, _), (2, _), (3, _), (4, _)]) rfl rfl rfl rfl rfl ?_
            refine K_goto 10 (pc := 98) (i := 55) rfl rfl ?_
            refine K_drop (lo' := [(0, .ref (G.2.2.2 184)), (1, kI x1), (2, kI x3), (3, kI (x3 + 1))]) [0, 1, 2, 3] rfl ?_
            exact ih10 x3 (x3 + 1) _ (by omega) hI fx (by omega)
          · skip
            refine K_iload (pc := 83) (i := 49) rfl rfl ?_
            refine K_goto 92 (pc := 85) (i := 50) rfl rfl ?_
            refine K_putI (pc := 92) (i := 53) (j := 15) rfl S_184 rfl (by decide) rfl rfl rfl fw_Model_172 ?_
            have hI := st_tonightMost hI (v := v46 - v54)
            have fx := Fx.st (c := 184) (i := 15) (v := v46 - v54) fx (by first | (dsimp only; omega) | omega | exact not_false)
            refine K_inc (pc := 95) (i := 54) (q := 3) (lo' := [(0, _), (1, _), (2, _), (3, _), (4, _)]) rfl rfl rfl rfl rfl ?_
            refine K_goto 10 (pc := 98) (i := 55) rfl rfl ?_
            refine K_drop (lo' := [(0, .ref (G.2.2.2 184)), (1, kI x1), (2, kI x3), (3, kI (x3 + 1))]) [0, 1, 2, 3] rfl ?_
            exact ih10 x3 (x3 + 1) _ (by omega) hI fx (by omega)
  exact L10 _ 0 0 _ (Nat.lt_succ_self _) hI fx (by omega)
set_option maxHeartbeats 4000000 in
set_option maxRecDepth 100000 in
theorem c_Model_worst (G : kG) {g : kGh} {h : kH}  (hT : g.2.2.2.2){x1 : Int} {x2 : Int} (s1 : 0 ≤ x1 ∧ x1 ≤ 1) (s2 : kR x2) (hI : Gd g h) : Ctr G y_Model_worst X_Model_worst 5 [.ref (G.2.2.2 184), kI x1, kI x2] h (kQi (fun z h' => Fx (fun c i => (c = 187 ∧ 40 ≤ i) ∨ c = 192) h h' ∧ (Gd g h' ∧ kR z))) := by
  refine Ctr.ofK (by decide) rfl T_Model_worst (Nat.le_of_ble_eq_true rfl) (lo := [(0, .ref (G.2.2.2 184)), (1, kI x1), (2, kI x2)]) rfl ?_
  have fx : Fx (fun c i => (c = 187 ∧ 40 ≤ i) ∨ c = 192) h h := Fx.rf
  refine K_bipush (pc := 0) (i := 0) rfl rfl ?_
  refine K_ist_n (pc := 2) (i := 1) (lo' := [(0, _), (1, _), (2, _), (3, _)]) rfl rfl rfl rfl ?_
  refine K_iconst (pc := 3) (i := 2) rfl ?_
  refine K_ist (pc := 4) (i := 3) (lo' := [(0, _), (1, _), (2, _), (3, _), (4, _)]) rfl rfl rfl rfl ?_
  have L6 : ∀ (n : Nat) (x3 : Int) (x4 : Int) (ha : kH), (6561 - x4).toNat < n → (Gd g ha) → (Fx (fun c i => (c = 187 ∧ 40 ≤ i) ∨ c = 192) h ha) → (0 ≤ x4 ∧ x4 ≤ 6561) → K X_Model_worst G (kZm G 5 (kQi (fun z h' => Fx (fun c i => (c = 187 ∧ 40 ≤ i) ∨ c = 192) h h' ∧ (Gd g h' ∧ kR z)))) 6 [(0, .ref (G.2.2.2 184)), (1, kI x1), (2, kI x2), (3, kI x3), (4, kI x4)] [] ha := by
    intro n
    induction n with
    | zero => intro x3 x4 ha hm; exact absurd hm (Nat.not_lt_zero _)
    | succ n ih6 =>
      intro x3 x4 ha hm6 hI fx hV6
      refine K_iload (pc := 6) (i := 4) rfl rfl ?_
      refine K_aload_n (pc := 8) (i := 5) rfl rfl ?_
      refine K_iconst (pc := 9) (i := 6) rfl ?_
      refine K_iload_n (pc := 10) (i := 7) rfl rfl ?_
      refine K_isub (pc := 11) (i := 8) rfl ?_
      refine K_cVI (pc := 12) (i := 9) rfl (c_Model_kitesOf G (x1 := 1 - x1) (hI := hI) (s1 := by omega)) S_184 rfl (lv_Model_175 rfl) rfl rfl rfl rfl rfl (fun v12 h12 q12 => ?_)
      obtain ⟨eh, r12⟩ := q12
      rw [eh]; clear eh
      refine K_cSI (pc := 15) (i := 10) rfl (c_Model_threeTo G (x0 := v12) (s0 := by omega)) (ls_Model_178 rfl) rfl rfl rfl rfl (fun v15 h15 q15 => ?_)
      obtain ⟨eh, r15⟩ := q15
      rw [eh]; clear eh
      first | refine K_icmp_ge 85 (pc := 18) (i := 11) rfl rfl (by omega) (by omega) (fun b18 => ?_) (fun b18 => ?_) | refine K_icmp_ge_an 85 (pc := 18) (i := 11) rfl rfl (fun b18 => ?_) (fun b18 => ?_)
      · skip
        refine K_iload_n (pc := 85) (i := 50) rfl rfl ?_
        refine K_any (fun v86 r86 => ?_)
        exact K_retI (pc := 86) (i := 51) rfl rfl ⟨fx, ⟨hI, by omega⟩⟩
      · skip
        have hJ := hI
        refine K_aload_n (pc := 21) (i := 12) rfl rfl ?_
        refine K_cVV (pc := 22) (i := 13) rfl (c_Model_copy G (hI := hI)) S_184 rfl (lv_Model_165 rfl) rfl rfl rfl rfl rfl (fun h22 q22 => ?_)
        obtain ⟨fx22, q22⟩ := q22
        obtain ⟨hI, cp22⟩ := q22
        have fx := fx.tr fx22 (fun c i q => (by first | (dsimp only at q ⊢; omega) | omega))
        have fk22 : FK (kap h22 40) (h22 184 4) := by rw [fx22 184 4 (by first | (dsimp only; omega) | omega | exact not_false)]; exact FK.copy (hJ.2.2.2.2.2 hT).1 (rd_many hJ).2 cp22
        refine K_aload_n (pc := 25) (i := 14) rfl rfl ?_
        refine K_iload_n (pc := 26) (i := 15) rfl rfl ?_
        refine K_iload_n (pc := 27) (i := 16) rfl rfl ?_
        refine K_cVV (pc := 28) (i := 17) rfl (c_Model_layPlan G (x1 := x1) (x2 := x2) (hk := fk22) (hI := hI) (s2 := by omega)) S_184 rfl (lv_Model_181 rfl) rfl rfl rfl rfl rfl (fun h28 q28 => ?_)
        obtain ⟨fx28, q28⟩ := q28
        obtain ⟨hI, fk28⟩ := q28
        have fx := fx.tr fx28 (fun c i q => (by first | (dsimp only at q ⊢; omega) | omega))
        refine K_aload_n (pc := 31) (i := 18) rfl rfl ?_
        refine K_iconst (pc := 32) (i := 19) rfl ?_
        refine K_iload_n (pc := 33) (i := 20) rfl rfl ?_
        refine K_isub (pc := 34) (i := 21) rfl ?_
        refine K_iload (pc := 35) (i := 22) rfl rfl ?_
        refine K_cVV (pc := 37) (i := 23) rfl (c_Model_layPlan G (x1 := 1 - x1) (x2 := x4) (hk := fk28) (hI := hI) (s2 := by omega)) S_184 rfl (lv_Model_181 rfl) rfl rfl rfl rfl rfl (fun h37 q37 => ?_)
        obtain ⟨fx37, q37⟩ := q37
        obtain ⟨hI, fk37⟩ := q37
        have fx := fx.tr fx37 (fun c i q => (by first | (dsimp only at q ⊢; omega) | omega))
        refine K_aload_n (pc := 40) (i := 24) rfl rfl ?_
        refine K_aload_n (pc := 41) (i := 25) rfl rfl ?_
        refine K_getI (pc := 42) (i := 26) (j := 4) rfl S_184 rfl (by decide) rfl fw_Model_59 ?_
        refine K_nm (fun v42 e42 => ?_)
        have r42 := rd_many hI
        rw [← e42] at r42
        refine K_iconst (pc := 45) (i := 27) rfl ?_
        refine K_cVV (pc := 46) (i := 28) rfl (c_Model_blowAll G (x1 := v42) (x2 := 1) (hk := by rw [e42, fx37 184 4 (by first | (dsimp only; omega) | omega | exact not_false), fx28 184 4 (by first | (dsimp only; omega) | omega | exact not_false)]; exact fk37) (hI := hI) (s1 := by omega) (s2 := by omega)) S_184 rfl (lv_Model_168 rfl) rfl rfl rfl rfl rfl (fun h46 q46 => ?_)
        obtain ⟨fx46, q46⟩ := q46
        obtain ⟨hI, ga46, mt46⟩ := q46
        have fx := fx.tr fx46 (fun c i q => (by first | (dsimp only at q ⊢; omega) | omega))
        refine K_aload_n (pc := 49) (i := 29) rfl rfl ?_
        refine K_getR (pc := 50) (i := 30) (j := 14) (d := 192) rfl S_184 rfl (by decide) rfl fw_Model_31 ?_
        refine K_iload_n (pc := 53) (i := 31) rfl rfl ?_
        refine K_iald (pc := 54) (i := 32) rfl S_192 (by omega) (by omega) (by decide) ?_
        refine K_nm (fun v54 e54 => ?_)
        have u54 := ga46 (x1).toNat (by omega)
        rw [← e54] at u54
        refine K_aload_n (pc := 55) (i := 33) rfl rfl ?_
        refine K_getR (pc := 56) (i := 34) (j := 14) (d := 192) rfl S_184 rfl (by decide) rfl fw_Model_31 ?_
        refine K_iconst (pc := 59) (i := 35) rfl ?_
        refine K_iload_n (pc := 60) (i := 36) rfl rfl ?_
        refine K_isub (pc := 61) (i := 37) rfl ?_
        refine K_iald (pc := 62) (i := 38) rfl S_192 (by omega) (by omega) (by decide) ?_
        refine K_nm (fun v62 e62 => ?_)
        have u62 := ga46 (1 - x1).toNat (by omega)
        rw [← e62] at u62
        refine K_isub (pc := 63) (i := 39) rfl ?_
        refine K_ist (pc := 64) (i := 40) (lo' := [(0, _), (1, _), (2, _), (3, _), (4, _), (5, _)]) rfl rfl rfl rfl ?_
        refine K_iload (pc := 66) (i := 41) rfl rfl ?_
        refine K_iload_n (pc := 68) (i := 42) rfl rfl ?_
        first | refine K_icmp_ge 77 (pc := 69) (i := 43) rfl rfl (by omega) (by omega) (fun b69 => ?_) (fun b69 => ?_) | refine K_icmp_ge_an 77 (pc := 69) (i := 43) rfl rfl (fun b69 => ?_) (fun b69 => ?_)
        · skip
          refine K_iload_n (pc := 77) (i := 46) rfl rfl ?_
          refine K_ist_n (pc := 78) (i := 47) (lo' := [(0, _), (1, _), (2, _), (3, _), (4, _), (5, _)]) rfl rfl rfl rfl ?_
          refine K_inc (pc := 79) (i := 48) (q := 4) (lo' := [(0, _), (1, _), (2, _), (3, _), (4, _), (5, _)]) rfl rfl rfl rfl rfl ?_
          refine K_goto 6 (pc := 82) (i := 49) rfl rfl ?_
          refine K_drop (lo' := [(0, .ref (G.2.2.2 184)), (1, kI x1), (2, kI x2), (3, kI x3), (4, kI (x4 + 1))]) [0, 1, 2, 3, 4] rfl ?_
          exact ih6 x3 (x4 + 1) _ (by omega) hI fx (by omega)
        · skip
          refine K_iload (pc := 72) (i := 44) rfl rfl ?_
          refine K_goto 78 (pc := 74) (i := 45) rfl rfl ?_
          refine K_ist_n (pc := 78) (i := 47) (lo' := [(0, _), (1, _), (2, _), (3, _), (4, _), (5, _)]) rfl rfl rfl rfl ?_
          refine K_inc (pc := 79) (i := 48) (q := 4) (lo' := [(0, _), (1, _), (2, _), (3, _), (4, _), (5, _)]) rfl rfl rfl rfl rfl ?_
          refine K_goto 6 (pc := 82) (i := 49) rfl rfl ?_
          refine K_drop (lo' := [(0, .ref (G.2.2.2 184)), (1, kI x1), (2, kI x2), (3, kI (v54 - v62)), (4, kI (x4 + 1))]) [0, 1, 2, 3, 4] rfl ?_
          exact ih6 (v54 - v62) (x4 + 1) _ (by omega) hI fx (by omega)
  exact L6 _ 99 0 _ (Nat.lt_succ_self _) hI fx (by omega)
set_option maxHeartbeats 4000000 in
set_option maxRecDepth 100000 in
theorem c_Model_tonight (G : kG) {g : kGh} {h : kH}  (hT : g.2.2.2.2){x1 : Int} (s1 : kR x1) (hI : Gd g h) : Ctr G y_Model_tonight X_Model_tonight 13 [.ref (G.2.2.2 184), kI x1] h (kQi (fun z h' => Fx (fun c i => (c = 187 ∧ 40 ≤ i) ∨ c = 192 ∨ (c = 184 ∧ i = 15)) h h' ∧ (Gd g h' ∧ True))) := by
  refine Ctr.ofK (by decide) rfl T_Model_tonight (Nat.le_of_ble_eq_true rfl) (lo := [(0, .ref (G.2.2.2 184)), (1, kI x1)]) rfl ?_
  have fx : Fx (fun c i => (c = 187 ∧ 40 ≤ i) ∨ c = 192 ∨ (c = 184 ∧ i = 15)) h h := Fx.rf
  refine K_iload_n (pc := 0) (i := 0) rfl rfl ?_
  refine K_i2l (pc := 1) (i := 1) rfl ?_
  refine K_eqJ (kI2l_eq (a := x1) (by omega)) ?_
  refine K_lconst 0 (pc := 2) (i := 2) rfl rfl ?_
  refine K_lconst 1 (pc := 3) (i := 3) rfl rfl ?_
  refine K_cSI (pc := 4) (i := 4) rfl (c_Model_in G (l0 := x1) (l2 := 0) (l4 := 1) (s0 := by omega) (s2 := by omega) (s4 := by omega)) (ls_Model_65 rfl) rfl rfl rfl rfl (fun v4 h4 q4 => ?_)
  obtain ⟨eh, r4⟩ := q4
  rw [eh]; clear eh
  first | refine K_if_ne 13 (pc := 7) (i := 5) rfl rfl (by omega) (fun b7 => ?_) (fun b7 => ?_) | refine K_if_ne_an 13 (pc := 7) (i := 5) rfl rfl (fun b7 => ?_) (fun b7 => ?_)
  · skip
    refine K_aload_n (pc := 13) (i := 8) rfl rfl ?_
    refine K_iload_n (pc := 14) (i := 9) rfl rfl ?_
    refine K_cVI (pc := 15) (i := 10) rfl (c_Model_kitesOf G (x1 := x1) (hI := hI) (s1 := by omega)) S_184 rfl (lv_Model_175 rfl) rfl rfl rfl rfl rfl (fun v15 h15 q15 => ?_)
    obtain ⟨eh, r15⟩ := q15
    rw [eh]; clear eh
    refine K_iconst (pc := 18) (i := 11) rfl ?_
    first | refine K_icmp_le 25 (pc := 19) (i := 12) rfl rfl (by omega) (by omega) (fun b19 => ?_) (fun b19 => ?_) | refine K_icmp_le_an 25 (pc := 19) (i := 12) rfl rfl (fun b19 => ?_) (fun b19 => ?_)
    · skip
      refine K_aload_n (pc := 25) (i := 15) rfl rfl ?_
      refine K_iload_n (pc := 26) (i := 16) rfl rfl ?_
      refine K_cVI (pc := 27) (i := 17) rfl (c_Model_layTonight G (x1 := x1) (hT := hT) (hI := hI) (s1 := by omega)) S_184 rfl (lv_Model_184 rfl) rfl rfl rfl rfl rfl (fun v27 h27 q27 => ?_)
      obtain ⟨fx27, q27⟩ := q27
      obtain ⟨hI, r27⟩ := q27
      have fx := fx.tr fx27 (fun c i q => (by first | (dsimp only at q ⊢; omega) | omega))
      refine K_pop (pc := 30) (i := 18) rfl rfl ?_
      refine K_bipush (pc := 31) (i := 19) rfl rfl ?_
      refine K_aload_n (pc := 33) (i := 20) rfl rfl ?_
      refine K_getI (pc := 34) (i := 21) (j := 15) rfl S_184 rfl (by decide) rfl fw_Model_172 ?_
      refine K_any (fun v34 r34 => ?_)
      refine K_iadd (pc := 37) (i := 22) rfl ?_
      exact K_retI (pc := 38) (i := 23) rfl rfl ⟨fx, ⟨hI, trivial⟩⟩
    · skip
      refine K_bipush (pc := 22) (i := 13) rfl rfl ?_
      exact K_retI (pc := 24) (i := 14) rfl rfl ⟨fx, ⟨hI, trivial⟩⟩
  · skip
    refine K_bipush (pc := 10) (i := 6) rfl rfl ?_
    exact K_retI (pc := 12) (i := 7) rfl rfl ⟨fx, ⟨hI, trivial⟩⟩
set_option maxHeartbeats 4000000 in
set_option maxRecDepth 100000 in
theorem c_Model_tonightAt (G : kG) {g : kGh} {h : kH}  (hT : g.2.2.2.2){x1 : Int} {x2 : Int} (s1 : kR x1) (s2 : kR x2) (hI : Gd g h) : Ctr G y_Model_tonightAt X_Model_tonightAt 13 [.ref (G.2.2.2 184), kI x1, kI x2] h (kQi (fun z h' => Fx (fun c i => (c = 187 ∧ 40 ≤ i) ∨ c = 192 ∨ (c = 184 ∧ i = 15)) h h' ∧ (Gd g h' ∧ True))) := by
  refine Ctr.ofK (by decide) rfl T_Model_tonightAt (Nat.le_of_ble_eq_true rfl) (lo := [(0, .ref (G.2.2.2 184)), (1, kI x1), (2, kI x2)]) rfl ?_
  have fx : Fx (fun c i => (c = 187 ∧ 40 ≤ i) ∨ c = 192 ∨ (c = 184 ∧ i = 15)) h h := Fx.rf
  refine K_iload_n (pc := 0) (i := 0) rfl rfl ?_
  refine K_i2l (pc := 1) (i := 1) rfl ?_
  refine K_eqJ (kI2l_eq (a := x1) (by omega)) ?_
  refine K_lconst 0 (pc := 2) (i := 2) rfl rfl ?_
  refine K_lconst 1 (pc := 3) (i := 3) rfl rfl ?_
  refine K_cSI (pc := 4) (i := 4) rfl (c_Model_in G (l0 := x1) (l2 := 0) (l4 := 1) (s0 := by omega) (s2 := by omega) (s4 := by omega)) (ls_Model_65 rfl) rfl rfl rfl rfl (fun v4 h4 q4 => ?_)
  obtain ⟨eh, r4⟩ := q4
  rw [eh]; clear eh
  first | refine K_if_ne 13 (pc := 7) (i := 5) rfl rfl (by omega) (fun b7 => ?_) (fun b7 => ?_) | refine K_if_ne_an 13 (pc := 7) (i := 5) rfl rfl (fun b7 => ?_) (fun b7 => ?_)
  · skip
    refine K_aload_n (pc := 13) (i := 8) rfl rfl ?_
    refine K_iload_n (pc := 14) (i := 9) rfl rfl ?_
    refine K_cVI (pc := 15) (i := 10) rfl (c_Model_kitesOf G (x1 := x1) (hI := hI) (s1 := by omega)) S_184 rfl (lv_Model_175 rfl) rfl rfl rfl rfl rfl (fun v15 h15 q15 => ?_)
    obtain ⟨eh, r15⟩ := q15
    rw [eh]; clear eh
    refine K_ist_n (pc := 18) (i := 11) (lo' := [(0, _), (1, _), (2, _), (3, _)]) rfl rfl rfl rfl ?_
    refine K_iload_n (pc := 19) (i := 12) rfl rfl ?_
    refine K_iconst (pc := 20) (i := 13) rfl ?_
    first | refine K_icmp_le 27 (pc := 21) (i := 14) rfl rfl (by omega) (by omega) (fun b21 => ?_) (fun b21 => ?_) | refine K_icmp_le_an 27 (pc := 21) (i := 14) rfl rfl (fun b21 => ?_) (fun b21 => ?_)
    · skip
      refine K_iload_n (pc := 27) (i := 17) rfl rfl ?_
      refine K_i2l (pc := 28) (i := 18) rfl ?_
      refine K_eqJ (kI2l_eq (a := x2) (by omega)) ?_
      refine K_lconst 0 (pc := 29) (i := 19) rfl rfl ?_
      refine K_iload_n (pc := 30) (i := 20) rfl rfl ?_
      refine K_iconst (pc := 31) (i := 21) rfl ?_
      refine K_isub (pc := 32) (i := 22) rfl ?_
      refine K_i2l (pc := 33) (i := 23) rfl ?_
      refine K_eqJ (kI2l_eq (a := v15 - 1) (by omega)) ?_
      refine K_cSI (pc := 34) (i := 24) rfl (c_Model_in G (l0 := x2) (l2 := 0) (l4 := v15 - 1) (s0 := by omega) (s2 := by omega) (s4 := by omega)) (ls_Model_65 rfl) rfl rfl rfl rfl (fun v34 h34 q34 => ?_)
      obtain ⟨eh, r34⟩ := q34
      rw [eh]; clear eh
      first | refine K_if_eq 59 (pc := 37) (i := 25) rfl rfl (by omega) (fun b37 => ?_) (fun b37 => ?_) | refine K_if_eq_an 59 (pc := 37) (i := 25) rfl rfl (fun b37 => ?_) (fun b37 => ?_)
      · skip
        refine K_bipush (pc := 59) (i := 39) rfl rfl ?_
        exact K_retI (pc := 61) (i := 40) rfl rfl ⟨fx, ⟨hI, trivial⟩⟩
      · skip
        refine K_aload_n (pc := 40) (i := 26) rfl rfl ?_
        refine K_iload_n (pc := 41) (i := 27) rfl rfl ?_
        refine K_cVI (pc := 42) (i := 28) rfl (c_Model_layTonight G (x1 := x1) (hT := hT) (hI := hI) (s1 := by omega)) S_184 rfl (lv_Model_184 rfl) rfl rfl rfl rfl rfl (fun v42 h42 q42 => ?_)
        obtain ⟨fx42, q42⟩ := q42
        obtain ⟨hI, r42⟩ := q42
        have fx := fx.tr fx42 (fun c i q => (by first | (dsimp only at q ⊢; omega) | omega))
        refine K_iload_n (pc := 45) (i := 29) rfl rfl ?_
        refine K_iconst (pc := 46) (i := 30) rfl ?_
        refine K_isub (pc := 47) (i := 31) rfl ?_
        refine K_iload_n (pc := 48) (i := 32) rfl rfl ?_
        refine K_isub (pc := 49) (i := 33) rfl ?_
        refine K_cSI (pc := 50) (i := 34) rfl (c_Model_threeTo G (x0 := (v15 - 1) - x2) (s0 := by omega)) (ls_Model_178 rfl) rfl rfl rfl rfl (fun v50 h50 q50 => ?_)
        obtain ⟨eh, r50⟩ := q50
        rw [eh]; clear eh
        refine K_idiv (pc := 53) (i := 35) rfl (by omega) (by omega) ?_
        refine K_any (fun v53 r53 => ?_)
        refine K_iconst (pc := 54) (i := 36) rfl ?_
        refine K_irem (pc := 55) (i := 37) rfl (by omega) (by omega) ?_
        refine K_any (fun v55 r55 => ?_)
        refine K_goto 61 (pc := 56) (i := 38) rfl rfl ?_
        exact K_retI (pc := 61) (i := 40) rfl rfl ⟨fx, ⟨hI, trivial⟩⟩
    · skip
      refine K_bipush (pc := 24) (i := 15) rfl rfl ?_
      exact K_retI (pc := 26) (i := 16) rfl rfl ⟨fx, ⟨hI, trivial⟩⟩
  · skip
    refine K_bipush (pc := 10) (i := 6) rfl rfl ?_
    exact K_retI (pc := 12) (i := 7) rfl rfl ⟨fx, ⟨hI, trivial⟩⟩
set_option maxHeartbeats 4000000 in
set_option maxRecDepth 100000 in
theorem c_Model_forSure (G : kG) {g : kGh} {h : kH}  (hT : g.2.2.2.2){x1 : Int} (s1 : kR x1) (hI : Gd g h) : Ctr G y_Model_forSure X_Model_forSure 13 [.ref (G.2.2.2 184), kI x1] h (kQi (fun z h' => Fx (fun c i => (c = 187 ∧ 40 ≤ i) ∨ c = 192) h h' ∧ (Gd g h' ∧ True))) := by
  refine Ctr.ofK (by decide) rfl T_Model_forSure (Nat.le_of_ble_eq_true rfl) (lo := [(0, .ref (G.2.2.2 184)), (1, kI x1)]) rfl ?_
  have fx : Fx (fun c i => (c = 187 ∧ 40 ≤ i) ∨ c = 192) h h := Fx.rf
  refine K_iload_n (pc := 0) (i := 0) rfl rfl ?_
  refine K_i2l (pc := 1) (i := 1) rfl ?_
  refine K_eqJ (kI2l_eq (a := x1) (by omega)) ?_
  refine K_lconst 0 (pc := 2) (i := 2) rfl rfl ?_
  refine K_lconst 1 (pc := 3) (i := 3) rfl rfl ?_
  refine K_cSI (pc := 4) (i := 4) rfl (c_Model_in G (l0 := x1) (l2 := 0) (l4 := 1) (s0 := by omega) (s2 := by omega) (s4 := by omega)) (ls_Model_65 rfl) rfl rfl rfl rfl (fun v4 h4 q4 => ?_)
  obtain ⟨eh, r4⟩ := q4
  rw [eh]; clear eh
  first | refine K_if_ne 13 (pc := 7) (i := 5) rfl rfl (by omega) (fun b7 => ?_) (fun b7 => ?_) | refine K_if_ne_an 13 (pc := 7) (i := 5) rfl rfl (fun b7 => ?_) (fun b7 => ?_)
  · skip
    refine K_aload_n (pc := 13) (i := 8) rfl rfl ?_
    refine K_iconst (pc := 14) (i := 9) rfl ?_
    refine K_cVI (pc := 15) (i := 10) rfl (c_Model_kitesOf G (x1 := 0) (hI := hI) (s1 := by omega)) S_184 rfl (lv_Model_175 rfl) rfl rfl rfl rfl rfl (fun v15 h15 q15 => ?_)
    obtain ⟨eh, r15⟩ := q15
    rw [eh]; clear eh
    refine K_iconst (pc := 18) (i := 11) rfl ?_
    first | refine K_icmp_gt 31 (pc := 19) (i := 12) rfl rfl (by omega) (by omega) (fun b19 => ?_) (fun b19 => ?_) | refine K_icmp_gt_an 31 (pc := 19) (i := 12) rfl rfl (fun b19 => ?_) (fun b19 => ?_)
    · skip
      refine K_bipush (pc := 31) (i := 18) rfl rfl ?_
      exact K_retI (pc := 33) (i := 19) rfl rfl ⟨fx, ⟨hI, trivial⟩⟩
    · skip
      refine K_aload_n (pc := 22) (i := 13) rfl rfl ?_
      refine K_iconst (pc := 23) (i := 14) rfl ?_
      refine K_cVI (pc := 24) (i := 15) rfl (c_Model_kitesOf G (x1 := 1) (hI := hI) (s1 := by omega)) S_184 rfl (lv_Model_175 rfl) rfl rfl rfl rfl rfl (fun v24 h24 q24 => ?_)
      obtain ⟨eh, r24⟩ := q24
      rw [eh]; clear eh
      refine K_iconst (pc := 27) (i := 16) rfl ?_
      first | refine K_icmp_le 34 (pc := 28) (i := 17) rfl rfl (by omega) (by omega) (fun b28 => ?_) (fun b28 => ?_) | refine K_icmp_le_an 34 (pc := 28) (i := 17) rfl rfl (fun b28 => ?_) (fun b28 => ?_)
      · skip
        refine K_bipush (pc := 34) (i := 20) rfl rfl ?_
        refine K_ist_n (pc := 36) (i := 21) (lo' := [(0, _), (1, _), (2, _)]) rfl rfl rfl rfl ?_
        refine K_iconst (pc := 37) (i := 22) rfl ?_
        refine K_ist_n (pc := 38) (i := 23) (lo' := [(0, _), (1, _), (2, _), (3, _)]) rfl rfl rfl rfl ?_
        have L39 : ∀ (n : Nat) (x2 : Int) (x3 : Int) (ha : kH), (6561 - x3).toNat < n → (Gd g ha) → (Fx (fun c i => (c = 187 ∧ 40 ≤ i) ∨ c = 192) h ha) → (0 ≤ x3 ∧ x3 ≤ 6561) → K X_Model_forSure G (kZm G 13 (kQi (fun z h' => Fx (fun c i => (c = 187 ∧ 40 ≤ i) ∨ c = 192) h h' ∧ (Gd g h' ∧ True)))) 39 [(0, .ref (G.2.2.2 184)), (1, kI x1), (2, kI x2), (3, kI x3)] [] ha := by
          intro n
          induction n with
          | zero => intro x2 x3 ha hm; exact absurd hm (Nat.not_lt_zero _)
          | succ n ih39 =>
            intro x2 x3 ha hm39 hI fx hV39
            refine K_iload_n (pc := 39) (i := 24) rfl rfl ?_
            refine K_aload_n (pc := 40) (i := 25) rfl rfl ?_
            refine K_iload_n (pc := 41) (i := 26) rfl rfl ?_
            refine K_cVI (pc := 42) (i := 27) rfl (c_Model_kitesOf G (x1 := x1) (hI := hI) (s1 := by omega)) S_184 rfl (lv_Model_175 rfl) rfl rfl rfl rfl rfl (fun v42 h42 q42 => ?_)
            obtain ⟨eh, r42⟩ := q42
            rw [eh]; clear eh
            refine K_cSI (pc := 45) (i := 28) rfl (c_Model_threeTo G (x0 := v42) (s0 := by omega)) (ls_Model_178 rfl) rfl rfl rfl rfl (fun v45 h45 q45 => ?_)
            obtain ⟨eh, r45⟩ := q45
            rw [eh]; clear eh
            first | refine K_icmp_ge 78 (pc := 48) (i := 29) rfl rfl (by omega) (by omega) (fun b48 => ?_) (fun b48 => ?_) | refine K_icmp_ge_an 78 (pc := 48) (i := 29) rfl rfl (fun b48 => ?_) (fun b48 => ?_)
            · skip
              refine K_bipush (pc := 78) (i := 44) rfl rfl ?_
              refine K_iload_n (pc := 80) (i := 45) rfl rfl ?_
              refine K_iadd (pc := 81) (i := 46) rfl ?_
              exact K_retI (pc := 82) (i := 47) rfl rfl ⟨fx, ⟨hI, trivial⟩⟩
            · skip
              refine K_aload_n (pc := 51) (i := 30) rfl rfl ?_
              refine K_iload_n (pc := 52) (i := 31) rfl rfl ?_
              refine K_iload_n (pc := 53) (i := 32) rfl rfl ?_
              refine K_cVI (pc := 54) (i := 33) rfl (c_Model_worst G (x1 := x1) (x2 := x3) (hT := hT) (hI := hI) (s1 := by omega) (s2 := by omega)) S_184 rfl (lv_Model_187 rfl) rfl rfl rfl rfl rfl (fun v54 h54 q54 => ?_)
              obtain ⟨fx54, q54⟩ := q54
              obtain ⟨hI, r54⟩ := q54
              have fx := fx.tr fx54 (fun c i q => (by first | (dsimp only at q ⊢; omega) | omega))
              refine K_ist (pc := 57) (i := 34) (lo' := [(0, _), (1, _), (2, _), (3, _), (4, _)]) rfl rfl rfl rfl ?_
              refine K_iload (pc := 59) (i := 35) rfl rfl ?_
              refine K_iload_n (pc := 61) (i := 36) rfl rfl ?_
              first | refine K_icmp_le 70 (pc := 62) (i := 37) rfl rfl (by omega) (by omega) (fun b62 => ?_) (fun b62 => ?_) | refine K_icmp_le_an 70 (pc := 62) (i := 37) rfl rfl (fun b62 => ?_) (fun b62 => ?_)
              · skip
                refine K_iload_n (pc := 70) (i := 40) rfl rfl ?_
                refine K_ist_n (pc := 71) (i := 41) (lo' := [(0, _), (1, _), (2, _), (3, _), (4, _)]) rfl rfl rfl rfl ?_
                refine K_inc (pc := 72) (i := 42) (q := 3) (lo' := [(0, _), (1, _), (2, _), (3, _), (4, _)]) rfl rfl rfl rfl rfl ?_
                refine K_goto 39 (pc := 75) (i := 43) rfl rfl ?_
                refine K_drop (lo' := [(0, .ref (G.2.2.2 184)), (1, kI x1), (2, kI x2), (3, kI (x3 + 1))]) [0, 1, 2, 3] rfl ?_
                exact ih39 x2 (x3 + 1) _ (by omega) hI fx (by omega)
              · skip
                refine K_iload (pc := 65) (i := 38) rfl rfl ?_
                refine K_goto 71 (pc := 67) (i := 39) rfl rfl ?_
                refine K_ist_n (pc := 71) (i := 41) (lo' := [(0, _), (1, _), (2, _), (3, _), (4, _)]) rfl rfl rfl rfl ?_
                refine K_inc (pc := 72) (i := 42) (q := 3) (lo' := [(0, _), (1, _), (2, _), (3, _), (4, _)]) rfl rfl rfl rfl rfl ?_
                refine K_goto 39 (pc := 75) (i := 43) rfl rfl ?_
                refine K_drop (lo' := [(0, .ref (G.2.2.2 184)), (1, kI x1), (2, kI v54), (3, kI (x3 + 1))]) [0, 1, 2, 3] rfl ?_
                exact ih39 v54 (x3 + 1) _ (by omega) hI fx (by omega)
        exact L39 _ (-99) 0 _ (Nat.lt_succ_self _) hI fx (by omega)
      · skip
        refine K_bipush (pc := 31) (i := 18) rfl rfl ?_
        exact K_retI (pc := 33) (i := 19) rfl rfl ⟨fx, ⟨hI, trivial⟩⟩
  · skip
    refine K_bipush (pc := 10) (i := 6) rfl rfl ?_
    exact K_retI (pc := 12) (i := 7) rfl rfl ⟨fx, ⟨hI, trivial⟩⟩
