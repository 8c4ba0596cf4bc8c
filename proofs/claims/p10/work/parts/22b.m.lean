set_option maxHeartbeats 4000000 in
set_option maxRecDepth 100000 in
theorem c_War_war (G : kG) {g : kGh} {h : kH}  (hI : Gd g h) : Ctr G y_War_war X_War_war 13 [.ref (G.2.2.2 0)] h (kQi (fun z h' => Fx (fun c i => c = 4 ∨ (6 ≤ c ∧ c ≤ 12) ∨ (c = 23 ∧ i = 2) ∨ ((c = 138 ∨ c = 149) ∧ i = 1)) h h' ∧ (Gd g h' ∧ CWwar h h' z))) := by
  refine Ctr.ofK (by decide) rfl T_War_war (Nat.le_of_ble_eq_true rfl) (lo := [(0, .ref (G.2.2.2 0))]) rfl ?_
  have fx : Fx (fun c i => c = 4 ∨ (6 ≤ c ∧ c ≤ 12) ∨ (c = 23 ∧ i = 2) ∨ ((c = 138 ∨ c = 149) ∧ i = 1)) h h := Fx.rf
  refine K_aload_n (pc := 0) (i := 0) rfl rfl ?_
  refine K_getR (pc := 1) (i := 1) (j := 0) (d := 1) rfl S_0 rfl (by decide) rfl fw_War_10 ?_
  refine K_cVI (pc := 4) (i := 2) rfl (c_Text_firstFault G (hI := hI)) S_1 rfl (lv_War_73 rfl) rfl rfl rfl rfl rfl (fun v4 h4 q4 => ?_)
  obtain ⟨eh, r4⟩ := q4
  rw [eh]; clear eh
  refine K_bipush (pc := 7) (i := 3) rfl rfl ?_
  first | refine K_icmp_eq 15 (pc := 9) (i := 4) rfl rfl (by omega) (by omega) (fun b9 => ?_) (fun b9 => ?_) | refine K_icmp_eq_an 15 (pc := 9) (i := 4) rfl rfl (fun b9 => ?_) (fun b9 => ?_)
  · skip
    refine K_aload_n (pc := 15) (i := 7) rfl rfl ?_
    refine K_getR (pc := 16) (i := 8) (j := 0) (d := 1) rfl S_0 rfl (by decide) rfl fw_War_10 ?_
    refine K_aload_n (pc := 19) (i := 9) rfl rfl ?_
    refine K_getR (pc := 20) (i := 10) (j := 1) (d := 3) rfl S_0 rfl (by decide) rfl fw_War_19 ?_
    refine K_cVV (pc := 23) (i := 11) rfl (c_Text_loadInto G (hT := (r4.2.none b9).2) (hl := (r4.2.none b9).1) (hI := hI)) S_1 rfl (lv_War_77 rfl) rfl rfl rfl rfl rfl (fun h23 q23 => ?_)
    obtain ⟨fx23, q23⟩ := q23
    obtain ⟨hI, lw23, lf23⟩ := q23
    have fx := fx.tr fx23 (fun c i q => (by first | (dsimp only at q ⊢; omega) | omega))
    refine K_aload_n (pc := 26) (i := 12) rfl rfl ?_
    refine K_getR (pc := 27) (i := 13) (j := 3) (d := 23) rfl S_0 rfl (by decide) rfl fw_War_29 ?_
    refine K_cVV (pc := 30) (i := 14) rfl (c_Acts_clear G (hI := hI)) S_23 rfl (lv_War_81 rfl) rfl rfl rfl rfl rfl (fun h30 q30 => ?_)
    obtain ⟨fx30, q30⟩ := q30
    obtain ⟨hI, ac30⟩ := q30
    have fx := fx.tr fx30 (fun c i q => (by first | (dsimp only at q ⊢; omega) | omega))
    refine K_iconst (pc := 33) (i := 15) rfl ?_
    refine K_ist_n (pc := 34) (i := 16) (lo' := [(0, _), (1, _)]) rfl rfl rfl rfl ?_
    have L35 : ∀ (n : Nat) (x1 : Int) (ha : kH), (2 - x1).toNat < n → (Gd g ha) → (Fx (fun c i => c = 4 ∨ (6 ≤ c ∧ c ≤ 12) ∨ (c = 23 ∧ i = 2) ∨ ((c = 138 ∨ c = 149) ∧ i = 1)) h ha) → ((0 ≤ x1 ∧ x1 ≤ 2) ∧ (∀ s : Nat, (s : Int) < x1 → ha (138 + 11 * s) 1 = 0) ∧ ∀ c, c < 137 → ha c = h30 c) → K X_War_war G (kZm G 13 (kQi (fun z h' => Fx (fun c i => c = 4 ∨ (6 ≤ c ∧ c ≤ 12) ∨ (c = 23 ∧ i = 2) ∨ ((c = 138 ∨ c = 149) ∧ i = 1)) h h' ∧ (Gd g h' ∧ CWwar h h' z)))) 35 [(0, .ref (G.2.2.2 0)), (1, kI x1)] [] ha := by
      intro n
      induction n with
      | zero => intro x1 ha hm; exact absurd hm (Nat.not_lt_zero _)
      | succ n ih35 =>
        intro x1 ha hm35 hI fx hV35
        refine K_iload_n (pc := 35) (i := 17) rfl rfl ?_
        refine K_iconst (pc := 36) (i := 18) rfl ?_
        first | refine K_icmp_ge 56 (pc := 37) (i := 19) rfl rfl (by omega) (by omega) (fun b37 => ?_) (fun b37 => ?_) | refine K_icmp_ge_an 56 (pc := 37) (i := 19) rfl rfl (fun b37 => ?_) (fun b37 => ?_)
        · skip
          refine K_aload_n (pc := 56) (i := 28) rfl rfl ?_
          refine K_getR (pc := 57) (i := 29) (j := 1) (d := 3) rfl S_0 rfl (by decide) rfl fw_War_19 ?_
          refine K_getR (pc := 60) (i := 30) (j := 0) (d := 6) rfl (S_Sk sk3) rfl (by decide) rfl fw_War_88 ?_
          refine K_getI (pc := 63) (i := 31) (j := 6) rfl (S_Fl fl6) rfl (by decide) rfl fw_War_92 ?_
          refine K_nm (fun v63 e63 => ?_)
          have r63 := rd_kites hI fl6
          rw [← e63] at r63
          exact K_retI (pc := 66) (i := 32) rfl rfl ⟨fx, ⟨hI, v4, r4.2, Or.inr ⟨by omega, e63, lw23.of ((hV35.2.2 4 (by omega)).trans (fx30.cell 4 (fun i => (by first | (dsimp only; omega) | omega)))), lf23.of (fun c a b => (hV35.2.2 c (by omega)).trans (fx30.cell c (fun i => (by first | (dsimp only; omega) | omega)))), by rw [hV35.2.2 23 (by omega)]; exact ac30, fun s hs => hV35.2.1 s (by omega)⟩⟩⟩
        · skip
          refine K_aload_n (pc := 40) (i := 20) rfl rfl ?_
          refine K_getR (pc := 41) (i := 21) (j := 4) (d := 137) rfl S_0 rfl (by decide) rfl fw_War_35 ?_
          refine K_iload_n (pc := 44) (i := 22) rfl rfl ?_
          obtain ⟨q45, hq45, hsq45⟩ := slotAt (a := x1) (by omega) (by omega)
          refine K_aald (pc := 45) (i := 23) (q := q45) rfl S_137 (by decide) (by omega) (by simp; omega) (by decide) hq45 ?_
          obtain ⟨hp45, hr45⟩ := slotAt2 hq45
          refine K_iconst (pc := 46) (i := 24) rfl ?_
          refine K_putB (pc := 47) (i := 25) (j := 1) rfl (S_Sl hsq45) rfl (by decide) rfl rfl rfl fw_War_84 (by omega) ?_
          have hI := st_used hI hsq45 (v := 0) (by omega)
          have fx := Fx.st (c := q45) (i := 1) (v := 0) fx (by first | (dsimp only; omega) | omega | exact not_false)
          have sl47 : ∀ s : Nat, (s : Int) < x1 + 1 → (kU ha q45 1 0) (138 + 11 * s) 1 = 0 := fun s hs => by
              rw [kU_at]
              by_cases q : s = x1.toNat
              · rw [if_pos ⟨by omega, rfl⟩]
              · rw [if_neg (by omega)]
                exact hV35.2.1 s (by omega)
          refine K_inc (pc := 50) (i := 26) (q := 1) (lo' := [(0, _), (1, _)]) rfl rfl rfl rfl rfl ?_
          refine K_goto 35 (pc := 53) (i := 27) rfl rfl ?_
          exact ih35 (x1 + 1) _ (by omega) hI fx ⟨by omega, sl47, fun c hc => (kU_c _ _ _ _ (by omega)).trans (hV35.2.2 c hc)⟩
    exact L35 _ 0 _ (Nat.lt_succ_self _) hI fx ⟨by omega, fun s hs => absurd hs (by omega), fun _ _ => rfl⟩
  · skip
    refine K_bipush (pc := 12) (i := 5) rfl rfl ?_
    exact K_retI (pc := 14) (i := 6) rfl rfl ⟨fx, ⟨hI, v4, r4.2, Or.inl ⟨by omega, rfl, rfl⟩⟩⟩
set_option maxHeartbeats 4000000 in
set_option maxRecDepth 100000 in
theorem c_War_kite (G : kG) {g : kGh} {h : kH} {x1 : Int} {x2 : Int} (s1 : kR x1) (s2 : kR x2) (hI : Gd g h) : Ctr G y_War_kite X_War_kite 13 [.ref (G.2.2.2 0), kI x1, kI x2] h (kQi (fun z h' => Fx (fun c i => False) h h' ∧ (Gd g h' ∧ z = ktF (h 6 6) (fun i a => h (7 + a) i) (eg h 3) x1 x2))) := by
  refine Ctr.ofK (by decide) rfl T_War_kite (Nat.le_of_ble_eq_true rfl) (lo := [(0, .ref (G.2.2.2 0)), (1, kI x1), (2, kI x2)]) rfl ?_
  have fx : Fx (fun c i => False) h h := Fx.rf
  refine K_aload_n (pc := 0) (i := 0) rfl rfl ?_
  refine K_iload_n (pc := 1) (i := 1) rfl rfl ?_
  refine K_cVI (pc := 2) (i := 2) rfl (c_War_isKite G (x1 := x1) (hI := hI) (s1 := by omega)) S_0 rfl (lv_War_97 rfl) rfl rfl rfl rfl rfl (fun v2 h2 q2 => ?_)
  obtain ⟨eh, r2⟩ := q2
  rw [eh]; clear eh
  first | refine K_if_ne 10 (pc := 5) (i := 3) rfl rfl (by omega) (fun b5 => ?_) (fun b5 => ?_) | refine K_if_ne_an 10 (pc := 5) (i := 3) rfl rfl (fun b5 => ?_) (fun b5 => ?_)
  · skip
    refine K_aload_n (pc := 10) (i := 6) rfl rfl ?_
    refine K_getR (pc := 11) (i := 7) (j := 1) (d := 3) rfl S_0 rfl (by decide) rfl fw_War_19 ?_
    refine K_getR (pc := 14) (i := 8) (j := 0) (d := 6) rfl (S_Sk sk3) rfl (by decide) rfl fw_War_88 ?_
    refine K_ast_n (pc := 17) (i := 9) (lo' := [(0, _), (1, _), (2, _), (3, _)]) rfl rfl rfl rfl ?_
    refine K_iload_n (pc := 18) (i := 10) rfl rfl ?_
    by_cases sw19 : (0 : Int) ≤ x2 ∧ x2 ≤ 5
    · skip
      rcases (show x2 = 0 ∨ x2 = 1 ∨ x2 = 2 ∨ x2 = 3 ∨ x2 = 4 ∨ x2 = 5 by omega) with sx19 | sx19 | sx19 | sx19 | sx19 | sx19
      · refine K_tableIn 56 (by omega) (pc := 19) (i := 11) rfl (by omega) (by omega) (by rw [sx19]; rfl) rfl ?_
        refine K_aload_n (pc := 56) (i := 12) rfl rfl ?_
        refine K_getR (pc := 57) (i := 13) (j := 0) (d := 7) rfl (S_Fl fl6) rfl (by decide) rfl fw_War_101 ?_
        refine K_iload_n (pc := 60) (i := 14) rfl rfl ?_
        refine K_iald (pc := 61) (i := 15) rfl (S_Fl1 fl6) (by omega) (by omega) (by decide) ?_
        refine K_nm (fun v61 e61 => ?_)
        have r61 := rd_town hI fl6 (x1).toNat
        rw [← e61] at r61
        exact K_retI (pc := 62) (i := 16) rfl rfl ⟨fx, ⟨hI, ktF_at (by omega) (by omega) (by rw [sx19]; exact e61)⟩⟩
      · refine K_tableIn 63 (by omega) (pc := 19) (i := 11) rfl (by omega) (by omega) (by rw [sx19]; rfl) rfl ?_
        refine K_aload_n (pc := 63) (i := 17) rfl rfl ?_
        refine K_getR (pc := 64) (i := 18) (j := 1) (d := 8) rfl (S_Fl fl6) rfl (by decide) rfl fw_War_105 ?_
        refine K_iload_n (pc := 67) (i := 19) rfl rfl ?_
        refine K_iald (pc := 68) (i := 20) rfl (S_Fl2 fl6) (by omega) (by omega) (by decide) ?_
        refine K_nm (fun v68 e68 => ?_)
        have r68 := rd_stake hI fl6 (x1).toNat
        rw [← e68] at r68
        exact K_retI (pc := 69) (i := 21) rfl rfl ⟨fx, ⟨hI, ktF_at (by omega) (by omega) (by rw [sx19]; exact e68)⟩⟩
      · refine K_tableIn 70 (by omega) (pc := 19) (i := 11) rfl (by omega) (by omega) (by rw [sx19]; rfl) rfl ?_
        refine K_aload_n (pc := 70) (i := 22) rfl rfl ?_
        refine K_getR (pc := 71) (i := 23) (j := 2) (d := 9) rfl (S_Fl fl6) rfl (by decide) rfl fw_War_108 ?_
        refine K_iload_n (pc := 74) (i := 24) rfl rfl ?_
        refine K_iald (pc := 75) (i := 25) rfl (S_Fl3 fl6) (by omega) (by omega) (by decide) ?_
        refine K_nm (fun v75 e75 => ?_)
        have r75 := rd_x hI fl6 (x1).toNat
        rw [← e75] at r75
        exact K_retI (pc := 76) (i := 26) rfl rfl ⟨fx, ⟨hI, ktF_at (by omega) (by omega) (by rw [sx19]; exact e75)⟩⟩
      · refine K_tableIn 77 (by omega) (pc := 19) (i := 11) rfl (by omega) (by omega) (by rw [sx19]; rfl) rfl ?_
        refine K_aload_n (pc := 77) (i := 27) rfl rfl ?_
        refine K_getR (pc := 78) (i := 28) (j := 3) (d := 10) rfl (S_Fl fl6) rfl (by decide) rfl fw_War_111 ?_
        refine K_iload_n (pc := 81) (i := 29) rfl rfl ?_
        refine K_iald (pc := 82) (i := 30) rfl (S_Fl4 fl6) (by omega) (by omega) (by decide) ?_
        refine K_nm (fun v82 e82 => ?_)
        have r82 := rd_height hI fl6 (x1).toNat
        rw [← e82] at r82
        exact K_retI (pc := 83) (i := 31) rfl rfl ⟨fx, ⟨hI, ktF_at (by omega) (by omega) (by rw [sx19]; exact e82)⟩⟩
      · refine K_tableIn 84 (by omega) (pc := 19) (i := 11) rfl (by omega) (by omega) (by rw [sx19]; rfl) rfl ?_
        refine K_aload_n (pc := 84) (i := 32) rfl rfl ?_
        refine K_getR (pc := 85) (i := 33) (j := 4) (d := 11) rfl (S_Fl fl6) rfl (by decide) rfl fw_War_114 ?_
        refine K_iload_n (pc := 88) (i := 34) rfl rfl ?_
        refine K_iald (pc := 89) (i := 35) rfl (S_Fl5 fl6) (by omega) (by omega) (by decide) ?_
        refine K_nm (fun v89 e89 => ?_)
        have r89 := rd_glass hI fl6 (x1).toNat
        rw [← e89] at r89
        exact K_retI (pc := 90) (i := 36) rfl rfl ⟨fx, ⟨hI, ktF_at (by omega) (by omega) (by rw [sx19]; exact e89)⟩⟩
      · refine K_tableIn 91 (by omega) (pc := 19) (i := 11) rfl (by omega) (by omega) (by rw [sx19]; rfl) rfl ?_
        refine K_aload_n (pc := 91) (i := 37) rfl rfl ?_
        refine K_getR (pc := 92) (i := 38) (j := 1) (d := 3) rfl S_0 rfl (by decide) rfl fw_War_19 ?_
        refine K_iload_n (pc := 95) (i := 39) rfl rfl ?_
        refine K_cVI (pc := 96) (i := 40) rfl (c_Sky_edge G (s := 3) (hs := sk3) (x1 := x1) (hI := hI) (s1 := by omega)) (S_Sk sk3) rfl (lv_War_117 rfl) rfl rfl rfl rfl rfl (fun v96 h96 q96 => ?_)
        obtain ⟨eh, r96⟩ := q96
        rw [eh]; clear eh
        exact K_retI (pc := 99) (i := 41) rfl rfl ⟨fx, ⟨hI, ktF_e (by omega) (by omega) r96.2⟩⟩
    · refine K_tableOut 100 (by omega) (pc := 19) (i := 11) rfl (by omega) rfl ?_
      refine K_bipush (pc := 100) (i := 42) rfl rfl ?_
      exact K_retI (pc := 102) (i := 43) rfl rfl ⟨fx, ⟨hI, ktF_o (by omega) (by omega) rfl⟩⟩
  · skip
    refine K_iconst (pc := 8) (i := 4) rfl ?_
    exact K_retI (pc := 9) (i := 5) rfl rfl ⟨fx, ⟨hI, ktF_no (by omega) rfl⟩⟩
set_option maxHeartbeats 4000000 in
set_option maxRecDepth 100000 in
theorem c_War_wind (G : kG) {g : kGh} {h : kH} {x1 : Int} {x2 : Int} (s1 : kR x1) (s2 : kR x2) (hI : Gd g h) : Ctr G y_War_wind X_War_wind 13 [.ref (G.2.2.2 0), kI x1, kI x2] h (kQi (fun z h' => Fx (fun c i => c = 4) h h' ∧ (Gd g h' ∧ CWwind h h' x1 x2 z))) := by
  refine Ctr.ofK (by decide) rfl T_War_wind (Nat.le_of_ble_eq_true rfl) (lo := [(0, .ref (G.2.2.2 0)), (1, kI x1), (2, kI x2)]) rfl ?_
  have fx : Fx (fun c i => c = 4) h h := Fx.rf
  refine K_iload_n (pc := 0) (i := 0) rfl rfl ?_
  refine K_cSI (pc := 1) (i := 1) rfl (c_War_isHeight G (x0 := x1) (s0 := by omega)) (ls_War_121 rfl) rfl rfl rfl rfl (fun v1 h1 q1 => ?_)
  obtain ⟨eh, r1⟩ := q1
  rw [eh]; clear eh
  first | refine K_if_eq 17 (pc := 4) (i := 2) rfl rfl (by omega) (fun b4 => ?_) (fun b4 => ?_) | refine K_if_eq_an 17 (pc := 4) (i := 2) rfl rfl (fun b4 => ?_) (fun b4 => ?_)
  · skip
    refine K_bipush (pc := 17) (i := 8) rfl rfl ?_
    exact K_retI (pc := 19) (i := 9) rfl rfl ⟨fx, ⟨hI, Or.inr ⟨by omega, rfl, rfl⟩⟩⟩
  · skip
    refine K_iload_n (pc := 7) (i := 3) rfl rfl ?_
    refine K_bipush (pc := 8) (i := 4) rfl rfl ?_
    refine K_iconst (pc := 10) (i := 5) rfl ?_
    refine K_cSI (pc := 11) (i := 6) rfl (c_War_isWithin G (x0 := x2) (x1 := -3) (x2 := 3) (s0 := by omega) (s1 := by omega) (s2 := by omega)) (ls_War_124 rfl) rfl rfl rfl rfl (fun v11 h11 q11 => ?_)
    obtain ⟨eh, r11⟩ := q11
    rw [eh]; clear eh
    first | refine K_if_ne 20 (pc := 14) (i := 7) rfl rfl (by omega) (fun b14 => ?_) (fun b14 => ?_) | refine K_if_ne_an 20 (pc := 14) (i := 7) rfl rfl (fun b14 => ?_) (fun b14 => ?_)
    · skip
      refine K_aload_n (pc := 20) (i := 10) rfl rfl ?_
      refine K_getR (pc := 21) (i := 11) (j := 1) (d := 3) rfl S_0 rfl (by decide) rfl fw_War_19 ?_
      refine K_getR (pc := 24) (i := 12) (j := 1) (d := 4) rfl (S_Sk sk3) rfl (by decide) rfl fw_War_128 ?_
      refine K_iload_n (pc := 27) (i := 13) rfl rfl ?_
      refine K_iald (pc := 28) (i := 14) rfl (S_Sk1 sk3) (by omega) (by omega) (by decide) ?_
      refine K_nm (fun v28 e28 => ?_)
      have r28 := rd_wind hI sk3 (x1).toNat
      rw [← e28] at r28
      refine K_ist_n (pc := 29) (i := 15) (lo' := [(0, _), (1, _), (2, _), (3, _)]) rfl rfl rfl rfl ?_
      refine K_aload_n (pc := 30) (i := 16) rfl rfl ?_
      refine K_getR (pc := 31) (i := 17) (j := 1) (d := 3) rfl S_0 rfl (by decide) rfl fw_War_19 ?_
      refine K_getR (pc := 34) (i := 18) (j := 1) (d := 4) rfl (S_Sk sk3) rfl (by decide) rfl fw_War_128 ?_
      refine K_iload_n (pc := 37) (i := 19) rfl rfl ?_
      refine K_iload_n (pc := 38) (i := 20) rfl rfl ?_
      refine K_iast (pc := 39) (i := 21) rfl (S_Sk1 sk3) (by omega) (by omega) (by decide) ?_
      have hI := st_wind hI sk3 (i := (x1).toNat) (v := x2) (by omega)
      have fx := Fx.st (c := 4) (i := (x1).toNat) (v := x2) fx (by first | (dsimp only; omega) | omega | exact not_false)
      refine K_iload_n (pc := 40) (i := 22) rfl rfl ?_
      refine K_iconst (pc := 41) (i := 23) rfl ?_
      refine K_iadd (pc := 42) (i := 24) rfl ?_
      exact K_retI (pc := 43) (i := 25) rfl rfl ⟨fx, ⟨hI, Or.inl ⟨by omega, by rw [e28], fun j => kU_s _ _ _ _ j⟩⟩⟩
    · skip
      refine K_bipush (pc := 17) (i := 8) rfl rfl ?_
      exact K_retI (pc := 19) (i := 9) rfl rfl ⟨fx, ⟨hI, Or.inr ⟨by omega, rfl, rfl⟩⟩⟩
set_option maxHeartbeats 4000000 in
set_option maxRecDepth 100000 in
theorem c_War_rise (G : kG) {g : kGh} {h : kH} {x1 : Int} {x2 : Int} (s1 : kR x1) (s2 : kR x2) (hI : Gd g h) : Ctr G y_War_rise X_War_rise 13 [.ref (G.2.2.2 0), kI x1, kI x2] h (kQi (fun z h' => Fx (fun c i => (6 ≤ c ∧ c ≤ 12) ∨ c = 23 ∨ (25 ≤ c ∧ c ≤ 136)) h h' ∧ (Gd g h' ∧ CWrise h h' x1 x2 z))) := by
  refine Ctr.ofK (by decide) rfl T_War_rise (Nat.le_of_ble_eq_true rfl) (lo := [(0, .ref (G.2.2.2 0)), (1, kI x1), (2, kI x2)]) rfl ?_
  have fx : Fx (fun c i => (6 ≤ c ∧ c ≤ 12) ∨ c = 23 ∨ (25 ≤ c ∧ c ≤ 136)) h h := Fx.rf
  have hI0 := hI
  refine K_aload_n (pc := 0) (i := 0) rfl rfl ?_
  refine K_iload_n (pc := 1) (i := 1) rfl rfl ?_
  refine K_cVI (pc := 2) (i := 2) rfl (c_War_isKite G (x1 := x1) (hI := hI) (s1 := by omega)) S_0 rfl (lv_War_97 rfl) rfl rfl rfl rfl rfl (fun v2 h2 q2 => ?_)
  obtain ⟨eh, r2⟩ := q2
  rw [eh]; clear eh
  first | refine K_if_ne 10 (pc := 5) (i := 3) rfl rfl (by omega) (fun b5 => ?_) (fun b5 => ?_) | refine K_if_ne_an 10 (pc := 5) (i := 3) rfl rfl (fun b5 => ?_) (fun b5 => ?_)
  · skip
    refine K_iload_n (pc := 10) (i := 6) rfl rfl ?_
    refine K_bipush (pc := 11) (i := 7) rfl rfl ?_
    refine K_bipush (pc := 13) (i := 8) rfl rfl ?_
    refine K_cSI (pc := 15) (i := 9) rfl (c_War_isWithin G (x0 := x2) (x1 := -8) (x2 := 8) (s0 := by omega) (s1 := by omega) (s2 := by omega)) (ls_War_124 rfl) rfl rfl rfl rfl (fun v15 h15 q15 => ?_)
    obtain ⟨eh, r15⟩ := q15
    rw [eh]; clear eh
    first | refine K_if_eq 41 (pc := 18) (i := 10) rfl rfl (by omega) (fun b18 => ?_) (fun b18 => ?_) | refine K_if_eq_an 41 (pc := 18) (i := 10) rfl rfl (fun b18 => ?_) (fun b18 => ?_)
    · skip
      refine K_bipush (pc := 41) (i := 21) rfl rfl ?_
      exact K_retI (pc := 43) (i := 22) rfl rfl ⟨fx, ⟨hI, Or.inr (Or.inl ⟨by omega, by first | (rw [← e32]; omega) | (intro q; omega), rfl, rfl⟩)⟩⟩
    · skip
      refine K_aload_n (pc := 21) (i := 11) rfl rfl ?_
      refine K_getR (pc := 22) (i := 12) (j := 1) (d := 3) rfl S_0 rfl (by decide) rfl fw_War_19 ?_
      refine K_getR (pc := 25) (i := 13) (j := 0) (d := 6) rfl (S_Sk sk3) rfl (by decide) rfl fw_War_88 ?_
      refine K_getR (pc := 28) (i := 14) (j := 3) (d := 10) rfl (S_Fl fl6) rfl (by decide) rfl fw_War_111 ?_
      refine K_iload_n (pc := 31) (i := 15) rfl rfl ?_
      refine K_iald (pc := 32) (i := 16) rfl (S_Fl4 fl6) (by omega) (by omega) (by decide) ?_
      refine K_nm (fun v32 e32 => ?_)
      have r32 := rd_height hI fl6 (x1).toNat
      rw [← e32] at r32
      refine K_iload_n (pc := 33) (i := 17) rfl rfl ?_
      refine K_iadd (pc := 34) (i := 18) rfl ?_
      refine K_cSI (pc := 35) (i := 19) rfl (c_War_isHeight G (x0 := v32 + x2) (s0 := by omega)) (ls_War_121 rfl) rfl rfl rfl rfl (fun v35 h35 q35 => ?_)
      obtain ⟨eh, r35⟩ := q35
      rw [eh]; clear eh
      first | refine K_if_ne 44 (pc := 38) (i := 20) rfl rfl (by omega) (fun b38 => ?_) (fun b38 => ?_) | refine K_if_ne_an 44 (pc := 38) (i := 20) rfl rfl (fun b38 => ?_) (fun b38 => ?_)
      · skip
        refine K_aload_n (pc := 44) (i := 23) rfl rfl ?_
        refine K_getR (pc := 45) (i := 24) (j := 3) (d := 23) rfl S_0 rfl (by decide) rfl fw_War_29 ?_
        refine K_aload_n (pc := 48) (i := 25) rfl rfl ?_
        refine K_getR (pc := 49) (i := 26) (j := 1) (d := 3) rfl S_0 rfl (by decide) rfl fw_War_19 ?_
        refine K_getR (pc := 52) (i := 27) (j := 0) (d := 6) rfl (S_Sk sk3) rfl (by decide) rfl fw_War_88 ?_
        refine K_cVV (pc := 55) (i := 28) rfl (c_Acts_remember G (f := 6) (hf := fl6) (hI := hI) (hr := by omega)) S_23 rfl (lv_War_131 rfl) rfl rfl rfl rfl rfl (fun h55 q55 => ?_)
        obtain ⟨fx55, q55⟩ := q55
        obtain ⟨hI, fa55, rm55⟩ := q55
        have fx := fx.tr fx55 (fun c i q => (by first | (dsimp only at q ⊢; omega) | omega))
        refine K_aload_n (pc := 58) (i := 29) rfl rfl ?_
        refine K_getR (pc := 59) (i := 30) (j := 1) (d := 3) rfl S_0 rfl (by decide) rfl fw_War_19 ?_
        refine K_getR (pc := 62) (i := 31) (j := 0) (d := 6) rfl (S_Sk sk3) rfl (by decide) rfl fw_War_88 ?_
        refine K_getR (pc := 65) (i := 32) (j := 3) (d := 10) rfl (S_Fl fl6) rfl (by decide) rfl fw_War_111 ?_
        refine K_iload_n (pc := 68) (i := 33) rfl rfl ?_
        refine K_dup2 (pc := 69) (i := 34) rfl rfl rfl ?_
        refine K_iald (pc := 70) (i := 35) rfl (S_Fl4 fl6) (by omega) (by omega) (by decide) ?_
        refine K_nm (fun v70 e70 => ?_)
        have r70 := rd_height hI fl6 (x1).toNat
        rw [← e70] at r70
        have t70 : v70 = v32 := by rw [e70, e32, fa55 10 (by omega)]
        refine K_iload_n (pc := 71) (i := 36) rfl rfl ?_
        refine K_iadd (pc := 72) (i := 37) rfl ?_
        refine K_iast (pc := 73) (i := 38) rfl (S_Fl4 fl6) (by omega) (by omega) (by decide) ?_
        have hI := st_height hI fl6 (i := (x1).toNat) (v := v70 + x2) (by omega)
        have fx := Fx.st (c := 10) (i := (x1).toNat) (v := v70 + x2) fx (by first | (dsimp only; omega) | omega | exact not_false)
        refine K_aload_n (pc := 74) (i := 39) rfl rfl ?_
        refine K_getR (pc := 75) (i := 40) (j := 1) (d := 3) rfl S_0 rfl (by decide) rfl fw_War_19 ?_
        refine K_getR (pc := 78) (i := 41) (j := 0) (d := 6) rfl (S_Sk sk3) rfl (by decide) rfl fw_War_88 ?_
        refine K_getR (pc := 81) (i := 42) (j := 3) (d := 10) rfl (S_Fl fl6) rfl (by decide) rfl fw_War_111 ?_
        refine K_iload_n (pc := 84) (i := 43) rfl rfl ?_
        refine K_iald (pc := 85) (i := 44) rfl (S_Fl4 fl6) (by omega) (by omega) (by decide) ?_
        refine K_nm (fun v85 e85 => ?_)
        have r85 := rd_height hI fl6 (x1).toNat
        rw [← e85] at r85
        have t85 : v85 = v32 + x2 := by rw [e85, kU_s, if_pos rfl, t70]
        exact K_retI (pc := 86) (i := 45) rfl rfl ⟨fx, ⟨hI, Or.inr (Or.inr ⟨by omega, by rw [← e32]; omega, by rw [t85, e32], AR.of (h1 := h55) ⟨rm55.1, rm55.2.1, fun c a _ q => rm55.2.2 c a q⟩ (rd_actnext hI0) (fun c a b => kU_c _ _ _ _ (by omega)), fun c a b n => (kU_c _ _ _ _ n).trans (fa55 c (by omega)), fun j => by rw [kU_s, fa55 10 (by omega), t70, e32]⟩)⟩⟩
      · skip
        refine K_bipush (pc := 41) (i := 21) rfl rfl ?_
        exact K_retI (pc := 43) (i := 22) rfl rfl ⟨fx, ⟨hI, Or.inr (Or.inl ⟨by omega, by first | (rw [← e32]; omega) | (intro q; omega), rfl, rfl⟩)⟩⟩
  · skip
    refine K_iconst (pc := 8) (i := 4) rfl ?_
    exact K_retI (pc := 9) (i := 5) rfl rfl ⟨fx, ⟨hI, Or.inl ⟨by omega, rfl, rfl⟩⟩⟩
set_option maxHeartbeats 4000000 in
set_option maxRecDepth 100000 in
theorem c_War_run (G : kG) {g : kGh} {h : kH} {x1 : Int} {x2 : Int} (s1 : kR x1) (s2 : kR x2) (hI : Gd g h) : Ctr G y_War_run X_War_run 13 [.ref (G.2.2.2 0), kI x1, kI x2] h (kQi (fun z h' => Fx (fun c i => (6 ≤ c ∧ c ≤ 12) ∨ c = 23 ∨ (25 ≤ c ∧ c ≤ 136)) h h' ∧ (Gd g h' ∧ CWrun h h' x1 x2 z))) := by
  refine Ctr.ofK (by decide) rfl T_War_run (Nat.le_of_ble_eq_true rfl) (lo := [(0, .ref (G.2.2.2 0)), (1, kI x1), (2, kI x2)]) rfl ?_
  have fx : Fx (fun c i => (6 ≤ c ∧ c ≤ 12) ∨ c = 23 ∨ (25 ≤ c ∧ c ≤ 136)) h h := Fx.rf
  have hI0 := hI
  refine K_aload_n (pc := 0) (i := 0) rfl rfl ?_
  refine K_iload_n (pc := 1) (i := 1) rfl rfl ?_
  refine K_cVI (pc := 2) (i := 2) rfl (c_War_isKite G (x1 := x1) (hI := hI) (s1 := by omega)) S_0 rfl (lv_War_97 rfl) rfl rfl rfl rfl rfl (fun v2 h2 q2 => ?_)
  obtain ⟨eh, r2⟩ := q2
  rw [eh]; clear eh
  first | refine K_if_ne 10 (pc := 5) (i := 3) rfl rfl (by omega) (fun b5 => ?_) (fun b5 => ?_) | refine K_if_ne_an 10 (pc := 5) (i := 3) rfl rfl (fun b5 => ?_) (fun b5 => ?_)
  · skip
    refine K_iload_n (pc := 10) (i := 6) rfl rfl ?_
    refine K_cSI (pc := 11) (i := 7) rfl (c_War_isStake G (x0 := x2) (s0 := by omega)) (ls_War_135 rfl) rfl rfl rfl rfl (fun v11 h11 q11 => ?_)
    obtain ⟨eh, r11⟩ := q11
    rw [eh]; clear eh
    first | refine K_if_ne 20 (pc := 14) (i := 8) rfl rfl (by omega) (fun b14 => ?_) (fun b14 => ?_) | refine K_if_ne_an 20 (pc := 14) (i := 8) rfl rfl (fun b14 => ?_) (fun b14 => ?_)
    · skip
      refine K_aload_n (pc := 20) (i := 11) rfl rfl ?_
      refine K_getR (pc := 21) (i := 12) (j := 1) (d := 3) rfl S_0 rfl (by decide) rfl fw_War_19 ?_
      refine K_getR (pc := 24) (i := 13) (j := 0) (d := 6) rfl (S_Sk sk3) rfl (by decide) rfl fw_War_88 ?_
      refine K_iload_n (pc := 27) (i := 14) rfl rfl ?_
      refine K_cVI (pc := 28) (i := 15) rfl (c_Fleet_hasStake G (f := 6) (hf := fl6) (x1 := x2) (hI := hI) (s1 := by omega)) (S_Fl fl6) rfl (lv_War_138 rfl) rfl rfl rfl rfl rfl (fun v28 h28 q28 => ?_)
      obtain ⟨eh, r28⟩ := q28
      rw [eh]; clear eh
      first | refine K_if_eq 37 (pc := 31) (i := 16) rfl rfl (by omega) (fun b31 => ?_) (fun b31 => ?_) | refine K_if_eq_an 37 (pc := 31) (i := 16) rfl rfl (fun b31 => ?_) (fun b31 => ?_)
      · skip
        refine K_aload_n (pc := 37) (i := 19) rfl rfl ?_
        refine K_getR (pc := 38) (i := 20) (j := 3) (d := 23) rfl S_0 rfl (by decide) rfl fw_War_29 ?_
        refine K_aload_n (pc := 41) (i := 21) rfl rfl ?_
        refine K_getR (pc := 42) (i := 22) (j := 1) (d := 3) rfl S_0 rfl (by decide) rfl fw_War_19 ?_
        refine K_getR (pc := 45) (i := 23) (j := 0) (d := 6) rfl (S_Sk sk3) rfl (by decide) rfl fw_War_88 ?_
        refine K_cVV (pc := 48) (i := 24) rfl (c_Acts_remember G (f := 6) (hf := fl6) (hI := hI) (hr := by omega)) S_23 rfl (lv_War_131 rfl) rfl rfl rfl rfl rfl (fun h48 q48 => ?_)
        obtain ⟨fx48, q48⟩ := q48
        obtain ⟨hI, fa48, rm48⟩ := q48
        have fx := fx.tr fx48 (fun c i q => (by first | (dsimp only at q ⊢; omega) | omega))
        refine K_aload_n (pc := 51) (i := 25) rfl rfl ?_
        refine K_getR (pc := 52) (i := 26) (j := 1) (d := 3) rfl S_0 rfl (by decide) rfl fw_War_19 ?_
        refine K_getR (pc := 55) (i := 27) (j := 0) (d := 6) rfl (S_Sk sk3) rfl (by decide) rfl fw_War_88 ?_
        refine K_getR (pc := 58) (i := 28) (j := 1) (d := 8) rfl (S_Fl fl6) rfl (by decide) rfl fw_War_105 ?_
        refine K_iload_n (pc := 61) (i := 29) rfl rfl ?_
        refine K_iald (pc := 62) (i := 30) rfl (S_Fl2 fl6) (by omega) (by omega) (by decide) ?_
        refine K_nm (fun v62 e62 => ?_)
        have r62 := rd_stake hI fl6 (x1).toNat
        rw [← e62] at r62
        have t62 : v62 = h 8 x1.toNat := by rw [e62, fa48 8 (by omega)]
        refine K_ist_n (pc := 63) (i := 31) (lo' := [(0, _), (1, _), (2, _), (3, _)]) rfl rfl rfl rfl ?_
        refine K_aload_n (pc := 64) (i := 32) rfl rfl ?_
        refine K_getR (pc := 65) (i := 33) (j := 1) (d := 3) rfl S_0 rfl (by decide) rfl fw_War_19 ?_
        refine K_getR (pc := 68) (i := 34) (j := 0) (d := 6) rfl (S_Sk sk3) rfl (by decide) rfl fw_War_88 ?_
        refine K_getR (pc := 71) (i := 35) (j := 1) (d := 8) rfl (S_Fl fl6) rfl (by decide) rfl fw_War_105 ?_
        refine K_iload_n (pc := 74) (i := 36) rfl rfl ?_
        refine K_iload_n (pc := 75) (i := 37) rfl rfl ?_
        refine K_iast (pc := 76) (i := 38) rfl (S_Fl2 fl6) (by omega) (by omega) (by decide) ?_
        have hI := st_stake hI fl6 (i := (x1).toNat) (v := x2) (by omega)
        have fx := Fx.st (c := 8) (i := (x1).toNat) (v := x2) fx (by first | (dsimp only; omega) | omega | exact not_false)
        refine K_iload_n (pc := 77) (i := 39) rfl rfl ?_
        refine K_iload_n (pc := 78) (i := 40) rfl rfl ?_
        refine K_isub (pc := 79) (i := 41) rfl ?_
        refine K_mabs (pc := 80) (i := 42) rfl mw_War_141 (by omega) (Nat.le_of_ble_eq_true rfl) ⟨Nat.le_of_ble_eq_true rfl, Nat.le_of_ble_eq_true rfl⟩ ⟨Nat.le_of_ble_eq_true rfl, Nat.le_of_ble_eq_true rfl⟩ ?_
        refine K_nm (fun v80 e80 => ?_)
        have r80 := kAbs_r (a := x2 - v62) (by omega)
        rw [← e80] at r80
        exact K_retI (pc := 83) (i := 43) rfl rfl ⟨fx, ⟨hI, Or.inr (Or.inr (Or.inr ⟨by omega, by omega, r28.elim (fun q => absurd q.1 (by omega)) (fun q => q.2), by rw [e80, t62], AR.of (h1 := h48) ⟨rm48.1, rm48.2.1, fun c a _ q => rm48.2.2 c a q⟩ (rd_actnext hI0) (fun c a b => kU_c _ _ _ _ (by omega)), fun c a b n => (kU_c _ _ _ _ n).trans (fa48 c (by omega)), fun j => by rw [kU_s, fa48 8 (by omega)]⟩))⟩⟩
      · skip
        refine K_bipush (pc := 34) (i := 17) rfl rfl ?_
        exact K_retI (pc := 36) (i := 18) rfl rfl ⟨fx, ⟨hI, Or.inr (Or.inr (Or.inl ⟨by omega, by omega, r28.elim (fun q => q.2) (fun q => absurd q.1 (by omega)), rfl, rfl⟩))⟩⟩
    · skip
      refine K_bipush (pc := 17) (i := 9) rfl rfl ?_
      exact K_retI (pc := 19) (i := 10) rfl rfl ⟨fx, ⟨hI, Or.inr (Or.inl ⟨by omega, by omega, rfl, rfl⟩)⟩⟩
  · skip
    refine K_iconst (pc := 8) (i := 4) rfl ?_
    exact K_retI (pc := 9) (i := 5) rfl rfl ⟨fx, ⟨hI, Or.inl ⟨by omega, rfl, rfl⟩⟩⟩
set_option maxHeartbeats 4000000 in
set_option maxRecDepth 100000 in
theorem c_War_launch (G : kG) {g : kGh} {h : kH} {x1 : Int} {x2 : Int} {x3 : Int} {x4 : Int} (s1 : kR x1) (s2 : kR x2) (s3 : kR x3) (s4 : kR x4) (hI : Gd g h) : Ctr G y_War_launch X_War_launch 13 [.ref (G.2.2.2 0), kI x1, kI x2, kI x3, kI x4] h (kQi (fun z h' => Fx (fun c i => (6 ≤ c ∧ c ≤ 12) ∨ c = 23 ∨ (25 ≤ c ∧ c ≤ 136)) h h' ∧ (Gd g h' ∧ CWlaunch h h' x1 x2 x3 x4 z))) := by
  refine Ctr.ofK (by decide) rfl T_War_launch (Nat.le_of_ble_eq_true rfl) (lo := [(0, .ref (G.2.2.2 0)), (1, kI x1), (2, kI x2), (3, kI x3), (4, kI x4)]) rfl ?_
  have fx : Fx (fun c i => (6 ≤ c ∧ c ≤ 12) ∨ c = 23 ∨ (25 ≤ c ∧ c ≤ 136)) h h := Fx.rf
  have hI0 := hI
  refine K_iload_n (pc := 0) (i := 0) rfl rfl ?_
  refine K_cSI (pc := 1) (i := 1) rfl (c_War_isTown G (x0 := x1) (s0 := by omega)) (ls_War_146 rfl) rfl rfl rfl rfl (fun v1 h1 q1 => ?_)
  obtain ⟨eh, r1⟩ := q1
  rw [eh]; clear eh
  first | refine K_if_eq 29 (pc := 4) (i := 2) rfl rfl (by omega) (fun b4 => ?_) (fun b4 => ?_) | refine K_if_eq_an 29 (pc := 4) (i := 2) rfl rfl (fun b4 => ?_) (fun b4 => ?_)
  · skip
    refine K_bipush (pc := 29) (i := 12) rfl rfl ?_
    exact K_retI (pc := 31) (i := 13) rfl rfl ⟨fx, ⟨hI, Or.inl ⟨by omega, rfl, rfl⟩⟩⟩
  · skip
    refine K_iload_n (pc := 7) (i := 3) rfl rfl ?_
    refine K_cSI (pc := 8) (i := 4) rfl (c_War_isStake G (x0 := x2) (s0 := by omega)) (ls_War_135 rfl) rfl rfl rfl rfl (fun v8 h8 q8 => ?_)
    obtain ⟨eh, r8⟩ := q8
    rw [eh]; clear eh
    first | refine K_if_eq 29 (pc := 11) (i := 5) rfl rfl (by omega) (fun b11 => ?_) (fun b11 => ?_) | refine K_if_eq_an 29 (pc := 11) (i := 5) rfl rfl (fun b11 => ?_) (fun b11 => ?_)
    · skip
      refine K_bipush (pc := 29) (i := 12) rfl rfl ?_
      exact K_retI (pc := 31) (i := 13) rfl rfl ⟨fx, ⟨hI, Or.inl ⟨by omega, rfl, rfl⟩⟩⟩
    · skip
      refine K_iload_n (pc := 14) (i := 6) rfl rfl ?_
      refine K_cSI (pc := 15) (i := 7) rfl (c_War_isHeight G (x0 := x3) (s0 := by omega)) (ls_War_121 rfl) rfl rfl rfl rfl (fun v15 h15 q15 => ?_)
      obtain ⟨eh, r15⟩ := q15
      rw [eh]; clear eh
      first | refine K_if_eq 29 (pc := 18) (i := 8) rfl rfl (by omega) (fun b18 => ?_) (fun b18 => ?_) | refine K_if_eq_an 29 (pc := 18) (i := 8) rfl rfl (fun b18 => ?_) (fun b18 => ?_)
      · skip
        refine K_bipush (pc := 29) (i := 12) rfl rfl ?_
        exact K_retI (pc := 31) (i := 13) rfl rfl ⟨fx, ⟨hI, Or.inl ⟨by omega, rfl, rfl⟩⟩⟩
      · skip
        refine K_iload (pc := 21) (i := 9) rfl rfl ?_
        refine K_cSI (pc := 23) (i := 10) rfl (c_War_isGlass G (x0 := x4) (s0 := by omega)) (ls_War_149 rfl) rfl rfl rfl rfl (fun v23 h23 q23 => ?_)
        obtain ⟨eh, r23⟩ := q23
        rw [eh]; clear eh
        first | refine K_if_ne 32 (pc := 26) (i := 11) rfl rfl (by omega) (fun b26 => ?_) (fun b26 => ?_) | refine K_if_ne_an 32 (pc := 26) (i := 11) rfl rfl (fun b26 => ?_) (fun b26 => ?_)
        · skip
          refine K_aload_n (pc := 32) (i := 14) rfl rfl ?_
          refine K_getR (pc := 33) (i := 15) (j := 1) (d := 3) rfl S_0 rfl (by decide) rfl fw_War_19 ?_
          refine K_getR (pc := 36) (i := 16) (j := 0) (d := 6) rfl (S_Sk sk3) rfl (by decide) rfl fw_War_88 ?_
          refine K_iload_n (pc := 39) (i := 17) rfl rfl ?_
          refine K_cVI (pc := 40) (i := 18) rfl (c_Fleet_hasStake G (f := 6) (hf := fl6) (x1 := x2) (hI := hI) (s1 := by omega)) (S_Fl fl6) rfl (lv_War_138 rfl) rfl rfl rfl rfl rfl (fun v40 h40 q40 => ?_)
          obtain ⟨eh, r40⟩ := q40
          rw [eh]; clear eh
          first | refine K_if_eq 49 (pc := 43) (i := 19) rfl rfl (by omega) (fun b43 => ?_) (fun b43 => ?_) | refine K_if_eq_an 49 (pc := 43) (i := 19) rfl rfl (fun b43 => ?_) (fun b43 => ?_)
          · skip
            refine K_aload_n (pc := 49) (i := 22) rfl rfl ?_
            refine K_getR (pc := 50) (i := 23) (j := 1) (d := 3) rfl S_0 rfl (by decide) rfl fw_War_19 ?_
            refine K_getR (pc := 53) (i := 24) (j := 0) (d := 6) rfl (S_Sk sk3) rfl (by decide) rfl fw_War_88 ?_
            refine K_getI (pc := 56) (i := 25) (j := 6) rfl (S_Fl fl6) rfl (by decide) rfl fw_War_92 ?_
            refine K_nm (fun v56 e56 => ?_)
            have r56 := rd_kites hI fl6
            rw [← e56] at r56
            refine K_bipush (pc := 59) (i := 26) rfl rfl ?_
            first | refine K_icmp_lt 67 (pc := 61) (i := 27) rfl rfl (by omega) (by omega) (fun b61 => ?_) (fun b61 => ?_) | refine K_icmp_lt_an 67 (pc := 61) (i := 27) rfl rfl (fun b61 => ?_) (fun b61 => ?_)
            · skip
              refine K_aload_n (pc := 67) (i := 30) rfl rfl ?_
              refine K_getR (pc := 68) (i := 31) (j := 3) (d := 23) rfl S_0 rfl (by decide) rfl fw_War_29 ?_
              refine K_aload_n (pc := 71) (i := 32) rfl rfl ?_
              refine K_getR (pc := 72) (i := 33) (j := 1) (d := 3) rfl S_0 rfl (by decide) rfl fw_War_19 ?_
              refine K_getR (pc := 75) (i := 34) (j := 0) (d := 6) rfl (S_Sk sk3) rfl (by decide) rfl fw_War_88 ?_
              refine K_cVV (pc := 78) (i := 35) rfl (c_Acts_remember G (f := 6) (hf := fl6) (hI := hI) (hr := by omega)) S_23 rfl (lv_War_131 rfl) rfl rfl rfl rfl rfl (fun h78 q78 => ?_)
              obtain ⟨fx78, q78⟩ := q78
              obtain ⟨hI, fa78, rm78⟩ := q78
              have fx := fx.tr fx78 (fun c i q => (by first | (dsimp only at q ⊢; omega) | omega))
              have n78 : h78 6 6 = h 6 6 := by rw [fa78 6 (by omega)]
              refine K_aload_n (pc := 81) (i := 36) rfl rfl ?_
              refine K_getR (pc := 82) (i := 37) (j := 1) (d := 3) rfl S_0 rfl (by decide) rfl fw_War_19 ?_
              refine K_getR (pc := 85) (i := 38) (j := 0) (d := 6) rfl (S_Sk sk3) rfl (by decide) rfl fw_War_88 ?_
              refine K_iload_n (pc := 88) (i := 39) rfl rfl ?_
              refine K_iload_n (pc := 89) (i := 40) rfl rfl ?_
              refine K_iload_n (pc := 90) (i := 41) rfl rfl ?_
              refine K_iload_n (pc := 91) (i := 42) rfl rfl ?_
              refine K_iload (pc := 92) (i := 43) rfl rfl ?_
              refine K_cVV (pc := 94) (i := 44) rfl (c_Fleet_add G (f := 6) (hf := fl6) (x1 := x1) (x2 := x2) (x3 := x2) (x4 := x3) (x5 := x4) (hI := hI) (s1 := by omega) (s2 := by omega) (s3 := by omega) (s4 := by omega) (s5 := by omega)) (S_Fl fl6) rfl (lv_War_152 rfl) rfl rfl rfl rfl rfl (fun h94 q94 => ?_)
              obtain ⟨fx94, q94⟩ := q94
              obtain ⟨hI, fr94, fa94⟩ := q94
              have fx := fx.tr fx94 (fun c i q => (by first | (dsimp only at q ⊢; omega) | omega))
              have fa95 := FA.of (fa94 (by omega)) fa78
              refine K_aload_n (pc := 97) (i := 45) rfl rfl ?_
              refine K_getR (pc := 98) (i := 46) (j := 1) (d := 3) rfl S_0 rfl (by decide) rfl fw_War_19 ?_
              refine K_getR (pc := 101) (i := 47) (j := 0) (d := 6) rfl (S_Sk sk3) rfl (by decide) rfl fw_War_88 ?_
              refine K_getI (pc := 104) (i := 48) (j := 6) rfl (S_Fl fl6) rfl (by decide) rfl fw_War_92 ?_
              refine K_nm (fun v104 e104 => ?_)
              have r104 := rd_kites hI fl6
              rw [← e104] at r104
              have t104 : v104 = h 6 6 + 1 := by rw [e104]; exact fa95.1
              refine K_iconst (pc := 107) (i := 49) rfl ?_
              refine K_isub (pc := 108) (i := 50) rfl ?_
              exact K_retI (pc := 109) (i := 51) rfl rfl ⟨fx, ⟨hI, Or.inr (Or.inr (Or.inr ⟨by omega, r40.elim (fun q => absurd q.1 (by omega)) (fun q => q.2), by omega, by omega, AR.of (h1 := h78) ⟨rm78.1, rm78.2.1, fun c a _ q => rm78.2.2 c a q⟩ (rd_actnext hI0) (fun c a b => fr94 c (by omega)), fa95⟩))⟩⟩
            · skip
              refine K_bipush (pc := 64) (i := 28) rfl rfl ?_
              exact K_retI (pc := 66) (i := 29) rfl rfl ⟨fx, ⟨hI, Or.inr (Or.inr (Or.inl ⟨by omega, r40.elim (fun q => absurd q.1 (by omega)) (fun q => q.2), by omega, rfl, rfl⟩))⟩⟩
          · skip
            refine K_bipush (pc := 46) (i := 20) rfl rfl ?_
            exact K_retI (pc := 48) (i := 21) rfl rfl ⟨fx, ⟨hI, Or.inr (Or.inl ⟨by omega, r40.elim (fun q => q.2) (fun q => absurd q.1 (by omega)), rfl, rfl⟩)⟩⟩
        · skip
          refine K_bipush (pc := 29) (i := 12) rfl rfl ?_
          exact K_retI (pc := 31) (i := 13) rfl rfl ⟨fx, ⟨hI, Or.inl ⟨by omega, rfl, rfl⟩⟩⟩
set_option maxHeartbeats 4000000 in
set_option maxRecDepth 100000 in
theorem c_War_takeIn (G : kG) {g : kGh} {h : kH} {x1 : Int} (s1 : kR x1) (hI : Gd g h) : Ctr G y_War_takeIn X_War_takeIn 13 [.ref (G.2.2.2 0), kI x1] h (kQi (fun z h' => Fx (fun c i => (6 ≤ c ∧ c ≤ 12) ∨ c = 23 ∨ (25 ≤ c ∧ c ≤ 136)) h h' ∧ (Gd g h' ∧ CWtakeIn h h' x1 z))) := by
  refine Ctr.ofK (by decide) rfl T_War_takeIn (Nat.le_of_ble_eq_true rfl) (lo := [(0, .ref (G.2.2.2 0)), (1, kI x1)]) rfl ?_
  have fx : Fx (fun c i => (6 ≤ c ∧ c ≤ 12) ∨ c = 23 ∨ (25 ≤ c ∧ c ≤ 136)) h h := Fx.rf
  have hI0 := hI
  refine K_aload_n (pc := 0) (i := 0) rfl rfl ?_
  refine K_iload_n (pc := 1) (i := 1) rfl rfl ?_
  refine K_cVI (pc := 2) (i := 2) rfl (c_War_isKite G (x1 := x1) (hI := hI) (s1 := by omega)) S_0 rfl (lv_War_97 rfl) rfl rfl rfl rfl rfl (fun v2 h2 q2 => ?_)
  obtain ⟨eh, r2⟩ := q2
  rw [eh]; clear eh
  first | refine K_if_ne 10 (pc := 5) (i := 3) rfl rfl (by omega) (fun b5 => ?_) (fun b5 => ?_) | refine K_if_ne_an 10 (pc := 5) (i := 3) rfl rfl (fun b5 => ?_) (fun b5 => ?_)
  · skip
    refine K_aload_n (pc := 10) (i := 6) rfl rfl ?_
    refine K_getR (pc := 11) (i := 7) (j := 3) (d := 23) rfl S_0 rfl (by decide) rfl fw_War_29 ?_
    refine K_aload_n (pc := 14) (i := 8) rfl rfl ?_
    refine K_getR (pc := 15) (i := 9) (j := 1) (d := 3) rfl S_0 rfl (by decide) rfl fw_War_19 ?_
    refine K_getR (pc := 18) (i := 10) (j := 0) (d := 6) rfl (S_Sk sk3) rfl (by decide) rfl fw_War_88 ?_
    refine K_cVV (pc := 21) (i := 11) rfl (c_Acts_remember G (f := 6) (hf := fl6) (hI := hI) (hr := by omega)) S_23 rfl (lv_War_131 rfl) rfl rfl rfl rfl rfl (fun h21 q21 => ?_)
    obtain ⟨fx21, q21⟩ := q21
    obtain ⟨hI, fa21, rm21⟩ := q21
    have fx := fx.tr fx21 (fun c i q => (by first | (dsimp only at q ⊢; omega) | omega))
    refine K_aload_n (pc := 24) (i := 12) rfl rfl ?_
    refine K_getR (pc := 25) (i := 13) (j := 1) (d := 3) rfl S_0 rfl (by decide) rfl fw_War_19 ?_
    refine K_getR (pc := 28) (i := 14) (j := 0) (d := 6) rfl (S_Sk sk3) rfl (by decide) rfl fw_War_88 ?_
    refine K_iconst (pc := 31) (i := 15) rfl ?_
    refine K_iload_n (pc := 32) (i := 16) rfl rfl ?_
    refine K_ishl (pc := 33) (i := 17) rfl ?_
    refine K_nm (fun v33 e33 => ?_)
    have r33 := kShl_R 1 x1
    rw [← e33] at r33
    refine K_cVV (pc := 34) (i := 18) rfl (c_Fleet_drop G (f := 6) (hf := fl6) (x1 := v33) (hI := hI)) (S_Fl fl6) rfl (lv_War_156 rfl) rfl rfl rfl rfl rfl (fun h34 q34 => ?_)
    obtain ⟨fx34, q34⟩ := q34
    obtain ⟨hI, fd34⟩ := q34
    have fx := fx.tr fx34 (fun c i q => (by first | (dsimp only at q ⊢; omega) | omega))
    rw [e33] at fd34
    refine K_aload_n (pc := 37) (i := 19) rfl rfl ?_
    refine K_getR (pc := 38) (i := 20) (j := 1) (d := 3) rfl S_0 rfl (by decide) rfl fw_War_19 ?_
    refine K_getR (pc := 41) (i := 21) (j := 0) (d := 6) rfl (S_Sk sk3) rfl (by decide) rfl fw_War_88 ?_
    refine K_getI (pc := 44) (i := 22) (j := 6) rfl (S_Fl fl6) rfl (by decide) rfl fw_War_92 ?_
    refine K_nm (fun v44 e44 => ?_)
    have r44 := rd_kites hI fl6
    rw [← e44] at r44
    exact K_retI (pc := 47) (i := 23) rfl rfl ⟨fx, ⟨hI, Or.inr ⟨by omega, e44, AR.of (h1 := h21) ⟨rm21.1, rm21.2.1, fun c a _ q => rm21.2.2 c a q⟩ (rd_actnext hI0) (fun c a b => fx34.cell c (fun i => (by first | (dsimp only; omega) | omega))), fd34.of fa21⟩⟩⟩
  · skip
    refine K_iconst (pc := 8) (i := 4) rfl ?_
    exact K_retI (pc := 9) (i := 5) rfl rfl ⟨fx, ⟨hI, Or.inl ⟨by omega, rfl, rfl⟩⟩⟩
set_option maxHeartbeats 4000000 in
set_option maxRecDepth 100000 in
theorem c_War_gust (G : kG) {g : kGh} {h : kH}  (hI : Gd g h) : Ctr G y_War_gust X_War_gust 13 [.ref (G.2.2.2 0)] h (kQi (fun z h' => Fx (fun c i => (5 ≤ c ∧ c ≤ 12) ∨ c = 23 ∨ (25 ≤ c ∧ c ≤ 136)) h h' ∧ (Gd g h' ∧ CWgust h h' z))) := by
  refine Ctr.ofK (by decide) rfl T_War_gust (Nat.le_of_ble_eq_true rfl) (lo := [(0, .ref (G.2.2.2 0))]) rfl ?_
  have fx : Fx (fun c i => (5 ≤ c ∧ c ≤ 12) ∨ c = 23 ∨ (25 ≤ c ∧ c ≤ 136)) h h := Fx.rf
  have hI0 := hI
  refine K_aload_n (pc := 0) (i := 0) rfl rfl ?_
  refine K_getR (pc := 1) (i := 1) (j := 3) (d := 23) rfl S_0 rfl (by decide) rfl fw_War_29 ?_
  refine K_aload_n (pc := 4) (i := 2) rfl rfl ?_
  refine K_getR (pc := 5) (i := 3) (j := 1) (d := 3) rfl S_0 rfl (by decide) rfl fw_War_19 ?_
  refine K_getR (pc := 8) (i := 4) (j := 0) (d := 6) rfl (S_Sk sk3) rfl (by decide) rfl fw_War_88 ?_
  refine K_cVV (pc := 11) (i := 5) rfl (c_Acts_remember G (f := 6) (hf := fl6) (hI := hI) (hr := by omega)) S_23 rfl (lv_War_131 rfl) rfl rfl rfl rfl rfl (fun h11 q11 => ?_)
  obtain ⟨fx11, q11⟩ := q11
  obtain ⟨hI, fa11, rm11⟩ := q11
  have fx := fx.tr fx11 (fun c i q => (by first | (dsimp only at q ⊢; omega) | omega))
  refine K_aload_n (pc := 14) (i := 6) rfl rfl ?_
  refine K_getR (pc := 15) (i := 7) (j := 1) (d := 3) rfl S_0 rfl (by decide) rfl fw_War_19 ?_
  refine K_cVI (pc := 18) (i := 8) rfl (c_Sky_blow G (s := 3) (hs := sk3) (hI := hI)) (S_Sk sk3) rfl (lv_War_160 rfl) rfl rfl rfl rfl rfl (fun v18 h18 q18 => ?_)
  obtain ⟨fx18, q18⟩ := q18
  obtain ⟨hI, r18, bw18⟩ := q18
  have fx := fx.tr fx18 (fun c i q => (by first | (dsimp only at q ⊢; omega) | omega))
  exact K_retI (pc := 21) (i := 9) rfl rfl ⟨fx, ⟨hI, by omega, AR.of (h1 := h11) ⟨rm11.1, rm11.2.1, fun c a _ q => rm11.2.2 c a q⟩ (rd_actnext hI0) (fun c a b => fx18.cell c (fun i => (by first | (dsimp only; omega) | omega))), bw18.of fa11⟩⟩
set_option maxHeartbeats 4000000 in
set_option maxRecDepth 100000 in
theorem c_War_undo (G : kG) {g : kGh} {h : kH}  (hI : Gd g h) : Ctr G y_War_undo X_War_undo 13 [.ref (G.2.2.2 0)] h (kQi (fun z h' => Fx (fun c i => (6 ≤ c ∧ c ≤ 12) ∨ c = 23) h h' ∧ (Gd g h' ∧ CWundo h h' z))) := by
  refine Ctr.ofK (by decide) rfl T_War_undo (Nat.le_of_ble_eq_true rfl) (lo := [(0, .ref (G.2.2.2 0))]) rfl ?_
  have fx : Fx (fun c i => (6 ≤ c ∧ c ≤ 12) ∨ c = 23) h h := Fx.rf
  refine K_aload_n (pc := 0) (i := 0) rfl rfl ?_
  refine K_getR (pc := 1) (i := 1) (j := 3) (d := 23) rfl S_0 rfl (by decide) rfl fw_War_29 ?_
  refine K_aload_n (pc := 4) (i := 2) rfl rfl ?_
  refine K_getR (pc := 5) (i := 3) (j := 1) (d := 3) rfl S_0 rfl (by decide) rfl fw_War_19 ?_
  refine K_getR (pc := 8) (i := 4) (j := 0) (d := 6) rfl (S_Sk sk3) rfl (by decide) rfl fw_War_88 ?_
  refine K_cVI (pc := 11) (i := 5) rfl (c_Acts_takeBack G (f := 6) (hf := fl6) (hI := hI) (hr := by omega)) S_23 rfl (lv_War_163 rfl) rfl rfl rfl rfl rfl (fun v11 h11 q11 => ?_)
  obtain ⟨fx11, q11⟩ := q11
  obtain ⟨hI, r11⟩ := q11
  have fx := fx.tr fx11 (fun c i q => (by first | (dsimp only at q ⊢; omega) | omega))
  have k11 : v11 = 0 ∨ v11 = 1 := r11.elim (fun q => Or.inl q.1) (fun q => Or.inr q.1)
  first | refine K_if_eq 27 (pc := 14) (i := 6) rfl rfl (by omega) (fun b14 => ?_) (fun b14 => ?_) | refine K_if_eq_an 27 (pc := 14) (i := 6) rfl rfl (fun b14 => ?_) (fun b14 => ?_)
  · skip
    refine K_bipush (pc := 27) (i := 11) rfl rfl ?_
    exact K_retI (pc := 29) (i := 12) rfl rfl ⟨fx, (by first | exact ⟨hI, Or.inl (r11.elim (fun q => ⟨q.2.1, rfl, q.2.2⟩) (fun q => absurd q.1 (by omega)))⟩ | exact ⟨hI, Or.inr (r11.elim (fun q => absurd q.1 (by omega)) (fun q => ⟨q.2.1, e21.trans q.2.2.2.1, q.2.2⟩))⟩)⟩
  · skip
    refine K_aload_n (pc := 17) (i := 7) rfl rfl ?_
    refine K_getR (pc := 18) (i := 8) (j := 3) (d := 23) rfl S_0 rfl (by decide) rfl fw_War_29 ?_
    refine K_getI (pc := 21) (i := 9) (j := 2) rfl S_23 rfl (by decide) rfl fw_War_167 ?_
    refine K_nm (fun v21 e21 => ?_)
    have r21 := rd_actsize hI
    rw [← e21] at r21
    refine K_goto 29 (pc := 24) (i := 10) rfl rfl ?_
    exact K_retI (pc := 29) (i := 12) rfl rfl ⟨fx, (by first | exact ⟨hI, Or.inl (r11.elim (fun q => ⟨q.2.1, rfl, q.2.2⟩) (fun q => absurd q.1 (by omega)))⟩ | exact ⟨hI, Or.inr (r11.elim (fun q => absurd q.1 (by omega)) (fun q => ⟨q.2.1, e21.trans q.2.2.2.1, q.2.2⟩))⟩)⟩
set_option maxHeartbeats 4000000 in
set_option maxRecDepth 100000 in
theorem c_War_cross (G : kG) {g : kGh} {h : kH} {x1 : Int} {x2 : Int} (s1 : kR x1) (s2 : kR x2) (hI : Gd g h) : Ctr G y_War_cross X_War_cross 13 [.ref (G.2.2.2 0), kI x1, kI x2] h (kQi (fun z h' => Fx (fun c i => False) h h' ∧ (Gd g h' ∧ CWcross h x1 x2 z))) := by
  refine Ctr.ofK (by decide) rfl T_War_cross (Nat.le_of_ble_eq_true rfl) (lo := [(0, .ref (G.2.2.2 0)), (1, kI x1), (2, kI x2)]) rfl ?_
  have fx : Fx (fun c i => False) h h := Fx.rf
  refine K_aload_n (pc := 0) (i := 0) rfl rfl ?_
  refine K_iload_n (pc := 1) (i := 1) rfl rfl ?_
  refine K_iload_n (pc := 2) (i := 2) rfl rfl ?_
  refine K_cVI (pc := 3) (i := 3) rfl (c_War_refusalOfPair G (x1 := x1) (x2 := x2) (hI := hI) (s1 := by omega) (s2 := by omega)) S_0 rfl (lv_War_170 rfl) rfl rfl rfl rfl rfl (fun v3 h3 q3 => ?_)
  obtain ⟨eh, r3⟩ := q3
  rw [eh]; clear eh
  refine K_ist_n (pc := 6) (i := 4) (lo' := [(0, _), (1, _), (2, _), (3, _)]) rfl rfl rfl rfl ?_
  refine K_iload_n (pc := 7) (i := 5) rfl rfl ?_
  first | refine K_if_eq 13 (pc := 8) (i := 6) rfl rfl (by omega) (fun b8 => ?_) (fun b8 => ?_) | refine K_if_eq_an 13 (pc := 8) (i := 6) rfl rfl (fun b8 => ?_) (fun b8 => ?_)
  · skip
    refine K_aload_n (pc := 13) (i := 9) rfl rfl ?_
    refine K_getR (pc := 14) (i := 10) (j := 1) (d := 3) rfl S_0 rfl (by decide) rfl fw_War_19 ?_
    refine K_getR (pc := 17) (i := 11) (j := 0) (d := 6) rfl (S_Sk sk3) rfl (by decide) rfl fw_War_88 ?_
    refine K_iload_n (pc := 20) (i := 12) rfl rfl ?_
    refine K_iload_n (pc := 21) (i := 13) rfl rfl ?_
    refine K_cVI (pc := 22) (i := 14) rfl (c_Fleet_meet G (f := 6) (hf := fl6) (x1 := x1) (x2 := x2) (hI := hI) (s1 := by omega) (s2 := by omega)) (S_Fl fl6) rfl (lv_War_174 rfl) rfl rfl rfl rfl rfl (fun v22 h22 q22 => ?_)
    obtain ⟨eh, r22⟩ := q22
    rw [eh]; clear eh
    first | refine K_if_eq 32 (pc := 25) (i := 15) rfl rfl (by omega) (fun b25 => ?_) (fun b25 => ?_) | refine K_if_eq_an 32 (pc := 25) (i := 15) rfl rfl (fun b25 => ?_) (fun b25 => ?_)
    · skip
      refine K_iconst (pc := 32) (i := 18) rfl ?_
      exact K_retI (pc := 33) (i := 19) rfl rfl ⟨fx, (by first | exact ⟨hI, Or.inr (Or.inr ⟨by omega, by omega, Or.inl ⟨rfl, r22.elim (fun q => q.2) (fun q => absurd q.1 (by omega))⟩⟩)⟩ | exact ⟨hI, Or.inr (Or.inr ⟨by omega, by omega, Or.inr ⟨rfl, r22.elim (fun q => absurd q.1 (by omega)) (fun q => q.2)⟩⟩)⟩)⟩
    · skip
      refine K_iconst (pc := 28) (i := 16) rfl ?_
      refine K_goto 33 (pc := 29) (i := 17) rfl rfl ?_
      exact K_retI (pc := 33) (i := 19) rfl rfl ⟨fx, (by first | exact ⟨hI, Or.inr (Or.inr ⟨by omega, by omega, Or.inl ⟨rfl, r22.elim (fun q => q.2) (fun q => absurd q.1 (by omega))⟩⟩)⟩ | exact ⟨hI, Or.inr (Or.inr ⟨by omega, by omega, Or.inr ⟨rfl, r22.elim (fun q => absurd q.1 (by omega)) (fun q => q.2)⟩⟩)⟩)⟩
  · skip
    refine K_iload_n (pc := 11) (i := 7) rfl rfl ?_
    exact K_retI (pc := 12) (i := 8) rfl rfl ⟨fx, (by first | exact ⟨hI, Or.inl ⟨by omega, by omega⟩⟩ | exact ⟨hI, by rcases r3.2 with q | q | q; exact Or.inl ⟨q.2, q.1⟩; exact Or.inr (Or.inl ⟨q.2.1, q.2.2, q.1⟩); exact absurd q.1 (by omega)⟩)⟩
set_option maxHeartbeats 4000000 in
set_option maxRecDepth 100000 in
theorem c_War_see (G : kG) {g : kGh} {h : kH} {x1 : Int} {x2 : Int} {x3 : Int} (s1 : kR x1) (s2 : kR x2) (s3 : x3 = 0 ∨ x3 = 1) (hI : Gd g h) : Ctr G y_War_see X_War_see 13 [.ref (G.2.2.2 0), kI x1, kI x2, kI x3] h (kQi (fun z h' => Fx (fun c i => 169 ≤ c ∧ c ≤ 172) h h' ∧ (Gd g h' ∧ CWsee h h' x1 x2 x3 z))) := by
  refine Ctr.ofK (by decide) rfl T_War_see (Nat.le_of_ble_eq_true rfl) (lo := [(0, .ref (G.2.2.2 0)), (1, kI x1), (2, kI x2), (3, kI x3)]) rfl ?_
  have fx : Fx (fun c i => 169 ≤ c ∧ c ≤ 172) h h := Fx.rf
  refine K_aload_n (pc := 0) (i := 0) rfl rfl ?_
  refine K_iload_n (pc := 1) (i := 1) rfl rfl ?_
  refine K_cVI (pc := 2) (i := 2) rfl (c_War_isSeenKite G (x1 := x1) (hI := hI) (s1 := by omega)) S_0 rfl (lv_War_223 rfl) rfl rfl rfl rfl rfl (fun v2 h2 q2 => ?_)
  obtain ⟨eh, r2⟩ := q2
  rw [eh]; clear eh
  first | refine K_if_eq 16 (pc := 5) (i := 3) rfl rfl (by omega) (fun b5 => ?_) (fun b5 => ?_) | refine K_if_eq_an 16 (pc := 5) (i := 3) rfl rfl (fun b5 => ?_) (fun b5 => ?_)
  · skip
    refine K_iconst (pc := 16) (i := 8) rfl ?_
    exact K_retI (pc := 17) (i := 9) rfl rfl ⟨fx, ⟨hI, Or.inl ⟨by omega, rfl, rfl⟩⟩⟩
  · skip
    refine K_aload_n (pc := 8) (i := 4) rfl rfl ?_
    refine K_iload_n (pc := 9) (i := 5) rfl rfl ?_
    refine K_cVI (pc := 10) (i := 6) rfl (c_War_isSeenKite G (x1 := x2) (hI := hI) (s1 := by omega)) S_0 rfl (lv_War_223 rfl) rfl rfl rfl rfl rfl (fun v10 h10 q10 => ?_)
    obtain ⟨eh, r10⟩ := q10
    rw [eh]; clear eh
    first | refine K_if_ne 18 (pc := 13) (i := 7) rfl rfl (by omega) (fun b13 => ?_) (fun b13 => ?_) | refine K_if_ne_an 18 (pc := 13) (i := 7) rfl rfl (fun b13 => ?_) (fun b13 => ?_)
    · skip
      refine K_iload_n (pc := 18) (i := 10) rfl rfl ?_
      refine K_iload_n (pc := 19) (i := 11) rfl rfl ?_
      first | refine K_icmp_ne 26 (pc := 20) (i := 12) rfl rfl (by omega) (by omega) (fun b20 => ?_) (fun b20 => ?_) | refine K_icmp_ne_an 26 (pc := 20) (i := 12) rfl rfl (fun b20 => ?_) (fun b20 => ?_)
      · skip
        refine K_aload_n (pc := 26) (i := 15) rfl rfl ?_
        refine K_getR (pc := 27) (i := 16) (j := 6) (d := 169) rfl S_0 rfl (by decide) rfl fw_War_49 ?_
        refine K_iload_n (pc := 30) (i := 17) rfl rfl ?_
        refine K_iload_n (pc := 31) (i := 18) rfl rfl ?_
        refine K_iload_n (pc := 32) (i := 19) rfl rfl ?_
        refine K_cVI (pc := 33) (i := 20) rfl (c_Seen_add G (x1 := x1) (x2 := x2) (x3 := x3) (hI := hI) (s1 := by omega) (s2 := by omega) (s3 := by omega)) S_169 rfl (lv_War_226 rfl) rfl rfl rfl rfl rfl (fun v33 h33 q33 => ?_)
        obtain ⟨fx33, q33⟩ := q33
        obtain ⟨hI, r33⟩ := q33
        have fx := fx.tr fx33 (fun c i q => (by first | (dsimp only at q ⊢; omega) | omega))
        have k33 : v33 = 0 ∨ v33 = 1 := r33.elim (fun q => Or.inl q.1) (fun q => Or.inr q.1)
        first | refine K_if_eq 49 (pc := 36) (i := 21) rfl rfl (by omega) (fun b36 => ?_) (fun b36 => ?_) | refine K_if_eq_an 49 (pc := 36) (i := 21) rfl rfl (fun b36 => ?_) (fun b36 => ?_)
        · skip
          refine K_bipush (pc := 49) (i := 26) rfl rfl ?_
          exact K_retI (pc := 51) (i := 27) rfl rfl ⟨fx, (by first | exact ⟨hI, Or.inr (Or.inr (Or.inl (r33.elim (fun q => ⟨by omega, by omega, q.2.1, rfl, q.2.2⟩) (fun q => absurd q.1 (by omega)))))⟩ | exact ⟨hI, Or.inr (Or.inr (Or.inr (r33.elim (fun q => absurd q.1 (by omega)) (fun q => ⟨by omega, by omega, q.2.1, e43.trans q.2.2.1, q.2.2⟩))))⟩)⟩
        · skip
          refine K_aload_n (pc := 39) (i := 22) rfl rfl ?_
          refine K_getR (pc := 40) (i := 23) (j := 6) (d := 169) rfl S_0 rfl (by decide) rfl fw_War_49 ?_
          refine K_getI (pc := 43) (i := 24) (j := 6) rfl S_169 rfl (by decide) rfl fw_War_229 ?_
          refine K_nm (fun v43 e43 => ?_)
          have r43 := rd_seensize hI
          rw [← e43] at r43
          refine K_goto 51 (pc := 46) (i := 25) rfl rfl ?_
          exact K_retI (pc := 51) (i := 27) rfl rfl ⟨fx, (by first | exact ⟨hI, Or.inr (Or.inr (Or.inl (r33.elim (fun q => ⟨by omega, by omega, q.2.1, rfl, q.2.2⟩) (fun q => absurd q.1 (by omega)))))⟩ | exact ⟨hI, Or.inr (Or.inr (Or.inr (r33.elim (fun q => absurd q.1 (by omega)) (fun q => ⟨by omega, by omega, q.2.1, e43.trans q.2.2.1, q.2.2⟩))))⟩)⟩
      · skip
        refine K_bipush (pc := 23) (i := 13) rfl rfl ?_
        exact K_retI (pc := 25) (i := 14) rfl rfl ⟨fx, ⟨hI, Or.inr (Or.inl ⟨by omega, by omega, rfl, rfl⟩)⟩⟩
    · skip
      refine K_iconst (pc := 16) (i := 8) rfl ?_
      exact K_retI (pc := 17) (i := 9) rfl rfl ⟨fx, ⟨hI, Or.inl ⟨by omega, rfl, rfl⟩⟩⟩
set_option maxHeartbeats 4000000 in
set_option maxRecDepth 100000 in
theorem c_War_unsee (G : kG) {g : kGh} {h : kH}  (hI : Gd g h) : Ctr G y_War_unsee X_War_unsee 13 [.ref (G.2.2.2 0)] h (kQi (fun z h' => Fx (fun c i => 169 ≤ c ∧ c ≤ 172) h h' ∧ (Gd g h' ∧ z = h 169 6 ∧ h' 169 6 = 0 ∧ h' 170 = h 170 ∧ h' 171 = h 171 ∧ h' 172 = h 172))) := by
  refine Ctr.ofK (by decide) rfl T_War_unsee (Nat.le_of_ble_eq_true rfl) (lo := [(0, .ref (G.2.2.2 0))]) rfl ?_
  have fx : Fx (fun c i => 169 ≤ c ∧ c ≤ 172) h h := Fx.rf
  refine K_aload_n (pc := 0) (i := 0) rfl rfl ?_
  refine K_getR (pc := 1) (i := 1) (j := 6) (d := 169) rfl S_0 rfl (by decide) rfl fw_War_49 ?_
  refine K_getI (pc := 4) (i := 2) (j := 6) rfl S_169 rfl (by decide) rfl fw_War_229 ?_
  refine K_nm (fun v4 e4 => ?_)
  have r4 := rd_seensize hI
  rw [← e4] at r4
  refine K_ist_n (pc := 7) (i := 3) (lo' := [(0, _), (1, _)]) rfl rfl rfl rfl ?_
  refine K_aload_n (pc := 8) (i := 4) rfl rfl ?_
  refine K_getR (pc := 9) (i := 5) (j := 6) (d := 169) rfl S_0 rfl (by decide) rfl fw_War_49 ?_
  refine K_iconst (pc := 12) (i := 6) rfl ?_
  refine K_putI (pc := 13) (i := 7) (j := 6) rfl S_169 rfl (by decide) rfl rfl rfl fw_War_229 ?_
  have hI := st_seensize hI (v := 0) (by omega)
  have fx := Fx.st (c := 169) (i := 6) (v := 0) fx (by first | (dsimp only; omega) | omega | exact not_false)
  refine K_iload_n (pc := 16) (i := 8) rfl rfl ?_
  exact K_retI (pc := 17) (i := 9) rfl rfl ⟨fx, ⟨hI, e4, by rw [kU_at, if_pos ⟨rfl, rfl⟩], kU_c _ _ _ _ (by decide), kU_c _ _ _ _ (by decide), kU_c _ _ _ _ (by decide)⟩⟩
set_option maxHeartbeats 4000000 in
set_option maxRecDepth 100000 in
theorem c_War_keep (G : kG) {g : kGh} {h : kH} {x1 : Int} (s1 : kR x1) (hI : Gd g h) : Ctr G y_War_keep X_War_keep 13 [.ref (G.2.2.2 0), kI x1] h (kQi (fun z h' => Fx (fun c i => 138 ≤ c ∧ c ≤ 159) h h' ∧ (Gd g h' ∧ CWkeep h h' x1 z))) := by
  refine Ctr.ofK (by decide) rfl T_War_keep (Nat.le_of_ble_eq_true rfl) (lo := [(0, .ref (G.2.2.2 0)), (1, kI x1)]) rfl ?_
  have fx : Fx (fun c i => 138 ≤ c ∧ c ≤ 159) h h := Fx.rf
  refine K_iload_n (pc := 0) (i := 0) rfl rfl ?_
  refine K_iconst (pc := 1) (i := 1) rfl ?_
  refine K_iconst (pc := 2) (i := 2) rfl ?_
  refine K_cSI (pc := 3) (i := 3) rfl (c_War_isWithin G (x0 := x1) (x1 := 0) (x2 := 1) (s0 := by omega) (s1 := by omega) (s2 := by omega)) (ls_War_124 rfl) rfl rfl rfl rfl (fun v3 h3 q3 => ?_)
  obtain ⟨eh, r3⟩ := q3
  rw [eh]; clear eh
  first | refine K_if_ne 11 (pc := 6) (i := 4) rfl rfl (by omega) (fun b6 => ?_) (fun b6 => ?_) | refine K_if_ne_an 11 (pc := 6) (i := 4) rfl rfl (fun b6 => ?_) (fun b6 => ?_)
  · skip
    refine K_aload_n (pc := 11) (i := 7) rfl rfl ?_
    refine K_getR (pc := 12) (i := 8) (j := 4) (d := 137) rfl S_0 rfl (by decide) rfl fw_War_35 ?_
    refine K_iload_n (pc := 15) (i := 9) rfl rfl ?_
    obtain ⟨q16, hq16, hsq16⟩ := slotAt (a := x1) (by omega) (by omega)
    refine K_aald (pc := 16) (i := 10) (q := q16) rfl S_137 (by decide) (by omega) (by simp; omega) (by decide) hq16 ?_
    obtain ⟨hp16, hr16⟩ := slotAt2 hq16
    refine K_getR (pc := 17) (i := 11) (j := 0) (d := q16 + 1) rfl (S_Sl hsq16) rfl (by decide) rfl fw_War_245 ?_
    refine K_aload_n (pc := 20) (i := 12) rfl rfl ?_
    refine K_getR (pc := 21) (i := 13) (j := 1) (d := 3) rfl S_0 rfl (by decide) rfl fw_War_19 ?_
    refine K_cVV (pc := 24) (i := 14) rfl (c_Sky_copyFrom G (s := q16 + 1) (hs := (sl_sk hsq16)) (s2 := 3) (hs2 := sk3) (hI := hI) (dj := by omega)) (S_Sk (sl_sk hsq16)) rfl (lv_War_201 rfl) rfl rfl rfl rfl rfl (fun h24 q24 => ?_)
    obtain ⟨fx24, q24⟩ := q24
    obtain ⟨hI, fc24, wc24⟩ := q24
    have fx := fx.tr fx24 (fun c i q => (by first | (dsimp only at q ⊢; omega) | omega))
    have hqe : q16 = 138 + 11 * x1.toNat := by omega
    refine K_aload_n (pc := 27) (i := 15) rfl rfl ?_
    refine K_getR (pc := 28) (i := 16) (j := 4) (d := 137) rfl S_0 rfl (by decide) rfl fw_War_35 ?_
    refine K_iload_n (pc := 31) (i := 17) rfl rfl ?_
    obtain ⟨q32, hq32, hsq32⟩ := slotAt (a := x1) (by omega) (by omega)
    refine K_aald (pc := 32) (i := 18) (q := q32) rfl S_137 (by decide) (by omega) (by simp; omega) (by decide) hq32 ?_
    obtain ⟨hp32, hr32⟩ := slotAt2 hq32
    have hqf : q32 = 138 + 11 * x1.toNat := by omega
    refine K_iconst (pc := 33) (i := 19) rfl ?_
    refine K_putB (pc := 34) (i := 20) (j := 1) rfl (S_Sl hsq32) rfl (by decide) rfl rfl rfl fw_War_84 (by omega) ?_
    have hI := st_used hI hsq32 (v := 1) (by omega)
    have fx := Fx.st (c := q32) (i := 1) (v := 1) fx (by first | (dsimp only; omega) | omega | exact not_false)
    refine K_aload_n (pc := 37) (i := 21) rfl rfl ?_
    refine K_getR (pc := 38) (i := 22) (j := 1) (d := 3) rfl S_0 rfl (by decide) rfl fw_War_19 ?_
    refine K_getR (pc := 41) (i := 23) (j := 0) (d := 6) rfl (S_Sk sk3) rfl (by decide) rfl fw_War_88 ?_
    refine K_getI (pc := 44) (i := 24) (j := 6) rfl (S_Fl fl6) rfl (by decide) rfl fw_War_92 ?_
    refine K_nm (fun v44 e44 => ?_)
    have r44 := rd_kites hI fl6
    rw [← e44] at r44
    have t44 : v44 = h 6 6 := by rw [e44, kU_c _ _ _ _ (by omega), fx24.cell 6 (fun i => (by first | (dsimp only; omega) | omega))]
    exact K_retI (pc := 47) (i := 25) rfl rfl ⟨fx, ⟨hI, Or.inr ⟨by omega, t44, by rw [kU_at, if_pos ⟨by omega, rfl⟩], by rw [show 142 + 11 * x1.toNat = q16 + 1 + 3 by omega]; exact fc24.tr (FC.same (fun c a b => kU_c _ _ _ _ (by omega))), fun i hi => by rw [kU_c _ _ _ _ (by omega), show 140 + 11 * x1.toNat = q16 + 1 + 1 by omega, wc24 i, if_pos hi], fun c hc => (kU_c _ _ _ _ (by omega)).trans (fx24.cell c (fun i => (by first | (dsimp only; omega) | omega)))⟩⟩⟩
  · skip
    refine K_iconst (pc := 9) (i := 5) rfl ?_
    exact K_retI (pc := 10) (i := 6) rfl rfl ⟨fx, ⟨hI, Or.inl ⟨by omega, rfl, rfl⟩⟩⟩
set_option maxHeartbeats 4000000 in
set_option maxRecDepth 100000 in
theorem c_War_again (G : kG) {g : kGh} {h : kH} {x1 : Int} (s1 : kR x1) (hI : Gd g h) : Ctr G y_War_again X_War_again 13 [.ref (G.2.2.2 0), kI x1] h (kQi (fun z h' => Fx (fun c i => c = 4 ∨ (6 ≤ c ∧ c ≤ 12) ∨ c = 23) h h' ∧ (Gd g h' ∧ CWagain h h' x1 z))) := by
  refine Ctr.ofK (by decide) rfl T_War_again (Nat.le_of_ble_eq_true rfl) (lo := [(0, .ref (G.2.2.2 0)), (1, kI x1)]) rfl ?_
  have fx : Fx (fun c i => c = 4 ∨ (6 ≤ c ∧ c ≤ 12) ∨ c = 23) h h := Fx.rf
  refine K_iload_n (pc := 0) (i := 0) rfl rfl ?_
  refine K_iconst (pc := 1) (i := 1) rfl ?_
  refine K_iconst (pc := 2) (i := 2) rfl ?_
  refine K_cSI (pc := 3) (i := 3) rfl (c_War_isWithin G (x0 := x1) (x1 := 0) (x2 := 1) (s0 := by omega) (s1 := by omega) (s2 := by omega)) (ls_War_124 rfl) rfl rfl rfl rfl (fun v3 h3 q3 => ?_)
  obtain ⟨eh, r3⟩ := q3
  rw [eh]; clear eh
  first | refine K_if_ne 11 (pc := 6) (i := 4) rfl rfl (by omega) (fun b6 => ?_) (fun b6 => ?_) | refine K_if_ne_an 11 (pc := 6) (i := 4) rfl rfl (fun b6 => ?_) (fun b6 => ?_)
  · skip
    refine K_aload_n (pc := 11) (i := 7) rfl rfl ?_
    refine K_getR (pc := 12) (i := 8) (j := 4) (d := 137) rfl S_0 rfl (by decide) rfl fw_War_35 ?_
    refine K_iload_n (pc := 15) (i := 9) rfl rfl ?_
    obtain ⟨q16, hq16, hsq16⟩ := slotAt (a := x1) (by omega) (by omega)
    refine K_aald (pc := 16) (i := 10) (q := q16) rfl S_137 (by decide) (by omega) (by simp; omega) (by decide) hq16 ?_
    obtain ⟨hp16, hr16⟩ := slotAt2 hq16
    refine K_getI (pc := 17) (i := 11) (j := 1) rfl (S_Sl hsq16) rfl (by decide) rfl fw_War_84 ?_
    refine K_nm (fun v17 e17 => ?_)
    have r17 := rd_used hI hsq16
    rw [← e17] at r17
    have t17 : v17 = h (138 + 11 * x1.toNat) 1 := by rw [e17, show q16 = 138 + 11 * x1.toNat by omega]
    first | refine K_if_ne 26 (pc := 20) (i := 12) rfl rfl (by omega) (fun b20 => ?_) (fun b20 => ?_) | refine K_if_ne_an 26 (pc := 20) (i := 12) rfl rfl (fun b20 => ?_) (fun b20 => ?_)
    · skip
      refine K_aload_n (pc := 26) (i := 15) rfl rfl ?_
      refine K_getR (pc := 27) (i := 16) (j := 1) (d := 3) rfl S_0 rfl (by decide) rfl fw_War_19 ?_
      refine K_aload_n (pc := 30) (i := 17) rfl rfl ?_
      refine K_getR (pc := 31) (i := 18) (j := 4) (d := 137) rfl S_0 rfl (by decide) rfl fw_War_35 ?_
      refine K_iload_n (pc := 34) (i := 19) rfl rfl ?_
      obtain ⟨q35, hq35, hsq35⟩ := slotAt (a := x1) (by omega) (by omega)
      refine K_aald (pc := 35) (i := 20) (q := q35) rfl S_137 (by decide) (by omega) (by simp; omega) (by decide) hq35 ?_
      obtain ⟨hp35, hr35⟩ := slotAt2 hq35
      refine K_getR (pc := 36) (i := 21) (j := 0) (d := q35 + 1) rfl (S_Sl hsq35) rfl (by decide) rfl fw_War_245 ?_
      refine K_cVV (pc := 39) (i := 22) rfl (c_Sky_copyFrom G (s := 3) (hs := sk3) (s2 := q35 + 1) (hs2 := (sl_sk hsq35)) (hI := hI) (dj := by omega)) (S_Sk sk3) rfl (lv_War_201 rfl) rfl rfl rfl rfl rfl (fun h39 q39 => ?_)
      obtain ⟨fx39, q39⟩ := q39
      obtain ⟨hI, fc39, wc39⟩ := q39
      have fx := fx.tr fx39 (fun c i q => (by first | (dsimp only at q ⊢; omega) | omega))
      have hqe : q35 = 138 + 11 * x1.toNat := by omega
      refine K_aload_n (pc := 42) (i := 23) rfl rfl ?_
      refine K_getR (pc := 43) (i := 24) (j := 3) (d := 23) rfl S_0 rfl (by decide) rfl fw_War_29 ?_
      refine K_cVV (pc := 46) (i := 25) rfl (c_Acts_clear G (hI := hI)) S_23 rfl (lv_War_81 rfl) rfl rfl rfl rfl rfl (fun h46 q46 => ?_)
      obtain ⟨fx46, q46⟩ := q46
      obtain ⟨hI, ac46⟩ := q46
      have fx := fx.tr fx46 (fun c i q => (by first | (dsimp only at q ⊢; omega) | omega))
      refine K_aload_n (pc := 49) (i := 26) rfl rfl ?_
      refine K_getR (pc := 50) (i := 27) (j := 1) (d := 3) rfl S_0 rfl (by decide) rfl fw_War_19 ?_
      refine K_getR (pc := 53) (i := 28) (j := 0) (d := 6) rfl (S_Sk sk3) rfl (by decide) rfl fw_War_88 ?_
      refine K_getI (pc := 56) (i := 29) (j := 6) rfl (S_Fl fl6) rfl (by decide) rfl fw_War_92 ?_
      refine K_nm (fun v56 e56 => ?_)
      have r56 := rd_kites hI fl6
      rw [← e56] at r56
      exact K_retI (pc := 59) (i := 30) rfl rfl ⟨fx, ⟨hI, Or.inr (Or.inr ⟨by omega, by omega, e56, by rw [show 142 + 11 * x1.toNat = q35 + 1 + 3 by omega]; exact fc39.tr (FC.same (fun c a b => fx46.cell c (fun i => (by first | (dsimp only; omega) | omega)))), fun i => by rw [fx46.cell 4 (fun i => (by first | (dsimp only; omega) | omega)), show 140 + 11 * x1.toNat = q35 + 1 + 1 by omega]; exact wc39 i, ac46, by rw [fx46 23 1 (by first | (dsimp only; omega) | omega), fx39 23 1 (by first | (dsimp only; omega) | omega)]⟩)⟩⟩
    · skip
      refine K_bipush (pc := 23) (i := 13) rfl rfl ?_
      exact K_retI (pc := 25) (i := 14) rfl rfl ⟨fx, ⟨hI, Or.inr (Or.inl ⟨by omega, by omega, rfl, rfl⟩)⟩⟩
  · skip
    refine K_iconst (pc := 9) (i := 5) rfl ?_
    exact K_retI (pc := 10) (i := 6) rfl rfl ⟨fx, ⟨hI, Or.inl ⟨by omega, rfl, rfl⟩⟩⟩
set_option maxHeartbeats 4000000 in
set_option maxRecDepth 100000 in
theorem c_War_count (G : kG) {g : kGh} {h : kH} {x1 : Int} (s1 : kR x1) (hI : Gd g h) : Ctr G y_War_count X_War_count 13 [.ref (G.2.2.2 0), kI x1] h (kQi (fun z h' => Fx (fun c i => False) h h' ∧ (Gd g h' ∧ z = ctF (h 1 1) (h 6 6) (cnt (h 7) 0 (h 6 6).toNat) (h 12 0) (h 12 1) (h 23 2) (h 169 6) x1))) := by
  refine Ctr.ofK (by decide) rfl T_War_count (Nat.le_of_ble_eq_true rfl) (lo := [(0, .ref (G.2.2.2 0)), (1, kI x1)]) rfl ?_
  have fx : Fx (fun c i => False) h h := Fx.rf
  refine K_iload_n (pc := 0) (i := 0) rfl rfl ?_
  by_cases sw1 : (0 : Int) ≤ x1 ∧ x1 ≤ 6
  · skip
    rcases (show x1 = 0 ∨ x1 = 1 ∨ x1 = 2 ∨ x1 = 3 ∨ x1 = 4 ∨ x1 = 5 ∨ x1 = 6 by omega) with sx1 | sx1 | sx1 | sx1 | sx1 | sx1 | sx1
    · refine K_tableIn 44 (by omega) (pc := 1) (i := 1) rfl (by omega) (by omega) (by rw [sx1]; rfl) rfl ?_
      refine K_aload_n (pc := 44) (i := 2) rfl rfl ?_
      refine K_getR (pc := 45) (i := 3) (j := 0) (d := 1) rfl S_0 rfl (by decide) rfl fw_War_10 ?_
      refine K_getI (pc := 48) (i := 4) (j := 1) rfl S_1 rfl (by decide) rfl fw_War_69 ?_
      refine K_nm (fun v48 e48 => ?_)
      have r48 := rd_len hI
      rw [← e48] at r48
      exact K_retI (pc := 51) (i := 5) rfl rfl ⟨fx, ⟨hI, by rw [sx1, e48]; rfl⟩⟩
    · refine K_tableIn 52 (by omega) (pc := 1) (i := 1) rfl (by omega) (by omega) (by rw [sx1]; rfl) rfl ?_
      refine K_aload_n (pc := 52) (i := 6) rfl rfl ?_
      refine K_getR (pc := 53) (i := 7) (j := 1) (d := 3) rfl S_0 rfl (by decide) rfl fw_War_19 ?_
      refine K_getR (pc := 56) (i := 8) (j := 0) (d := 6) rfl (S_Sk sk3) rfl (by decide) rfl fw_War_88 ?_
      refine K_getI (pc := 59) (i := 9) (j := 6) rfl (S_Fl fl6) rfl (by decide) rfl fw_War_92 ?_
      refine K_nm (fun v59 e59 => ?_)
      have r59 := rd_kites hI fl6
      rw [← e59] at r59
      exact K_retI (pc := 62) (i := 10) rfl rfl ⟨fx, ⟨hI, by rw [sx1, e59]; rfl⟩⟩
    · refine K_tableIn 63 (by omega) (pc := 1) (i := 1) rfl (by omega) (by omega) (by rw [sx1]; rfl) rfl ?_
      refine K_aload_n (pc := 63) (i := 11) rfl rfl ?_
      refine K_getR (pc := 64) (i := 12) (j := 1) (d := 3) rfl S_0 rfl (by decide) rfl fw_War_19 ?_
      refine K_getR (pc := 67) (i := 13) (j := 0) (d := 6) rfl (S_Sk sk3) rfl (by decide) rfl fw_War_88 ?_
      refine K_iconst (pc := 70) (i := 14) rfl ?_
      refine K_cVI (pc := 71) (i := 15) rfl (c_Fleet_ofTown G (f := 6) (hf := fl6) (x1 := 0) (hI := hI) (s1 := by omega)) (S_Fl fl6) rfl (lv_War_217 rfl) rfl rfl rfl rfl rfl (fun v71 h71 q71 => ?_)
      obtain ⟨eh, r71⟩ := q71
      rw [eh]; clear eh
      exact K_retI (pc := 74) (i := 16) rfl rfl ⟨fx, ⟨hI, by rw [sx1, r71.2]; rfl⟩⟩
    · refine K_tableIn 75 (by omega) (pc := 1) (i := 1) rfl (by omega) (by omega) (by rw [sx1]; rfl) rfl ?_
      refine K_aload_n (pc := 75) (i := 17) rfl rfl ?_
      refine K_getR (pc := 76) (i := 18) (j := 1) (d := 3) rfl S_0 rfl (by decide) rfl fw_War_19 ?_
      refine K_getR (pc := 79) (i := 19) (j := 0) (d := 6) rfl (S_Sk sk3) rfl (by decide) rfl fw_War_88 ?_
      refine K_getR (pc := 82) (i := 20) (j := 5) (d := 12) rfl (S_Fl fl6) rfl (by decide) rfl fw_War_248 ?_
      refine K_iconst (pc := 85) (i := 21) rfl ?_
      refine K_iald (pc := 86) (i := 22) rfl (S_Fl6 fl6) (by omega) (by omega) (by decide) ?_
      refine K_nm (fun v86 e86 => ?_)
      exact K_retI (pc := 87) (i := 23) rfl rfl ⟨fx, ⟨hI, by rw [sx1, e86]; rfl⟩⟩
    · refine K_tableIn 88 (by omega) (pc := 1) (i := 1) rfl (by omega) (by omega) (by rw [sx1]; rfl) rfl ?_
      refine K_aload_n (pc := 88) (i := 24) rfl rfl ?_
      refine K_getR (pc := 89) (i := 25) (j := 1) (d := 3) rfl S_0 rfl (by decide) rfl fw_War_19 ?_
      refine K_getR (pc := 92) (i := 26) (j := 0) (d := 6) rfl (S_Sk sk3) rfl (by decide) rfl fw_War_88 ?_
      refine K_getR (pc := 95) (i := 27) (j := 5) (d := 12) rfl (S_Fl fl6) rfl (by decide) rfl fw_War_248 ?_
      refine K_iconst (pc := 98) (i := 28) rfl ?_
      refine K_iald (pc := 99) (i := 29) rfl (S_Fl6 fl6) (by omega) (by omega) (by decide) ?_
      refine K_nm (fun v99 e99 => ?_)
      exact K_retI (pc := 100) (i := 30) rfl rfl ⟨fx, ⟨hI, by rw [sx1, e99]; rfl⟩⟩
    · refine K_tableIn 101 (by omega) (pc := 1) (i := 1) rfl (by omega) (by omega) (by rw [sx1]; rfl) rfl ?_
      refine K_aload_n (pc := 101) (i := 31) rfl rfl ?_
      refine K_getR (pc := 102) (i := 32) (j := 3) (d := 23) rfl S_0 rfl (by decide) rfl fw_War_29 ?_
      refine K_getI (pc := 105) (i := 33) (j := 2) rfl S_23 rfl (by decide) rfl fw_War_167 ?_
      refine K_nm (fun v105 e105 => ?_)
      have r105 := rd_actsize hI
      rw [← e105] at r105
      exact K_retI (pc := 108) (i := 34) rfl rfl ⟨fx, ⟨hI, by rw [sx1, e105]; rfl⟩⟩
    · refine K_tableIn 109 (by omega) (pc := 1) (i := 1) rfl (by omega) (by omega) (by rw [sx1]; rfl) rfl ?_
      refine K_aload_n (pc := 109) (i := 35) rfl rfl ?_
      refine K_getR (pc := 110) (i := 36) (j := 6) (d := 169) rfl S_0 rfl (by decide) rfl fw_War_49 ?_
      refine K_getI (pc := 113) (i := 37) (j := 6) rfl S_169 rfl (by decide) rfl fw_War_229 ?_
      refine K_nm (fun v113 e113 => ?_)
      have r113 := rd_seensize hI
      rw [← e113] at r113
      exact K_retI (pc := 116) (i := 38) rfl rfl ⟨fx, ⟨hI, by rw [sx1, e113]; rfl⟩⟩
  · refine K_tableOut 117 (by omega) (pc := 1) (i := 1) rfl (by omega) rfl ?_
    refine K_bipush (pc := 117) (i := 39) rfl rfl ?_
    exact K_retI (pc := 119) (i := 40) rfl rfl ⟨fx, ⟨hI, by unfold ctF; rw [if_neg (by omega), if_neg (by omega), if_neg (by omega), if_neg (by omega), if_neg (by omega), if_neg (by omega), if_neg (by omega)]⟩⟩
