set_option maxHeartbeats 4000000 in
set_option maxRecDepth 100000 in
theorem c_Text_loadInto (G : kG) {g : kGh} {h : kH} (hT : TxOk h (h 1 1)) (hl : 10 ≤ h 1 1 ∧ (h 1 1 - 10) % 8 = 0) (hI : Gd g h) : Ctr G y_Text_loadInto X_Text_loadInto 3 [.ref (G.2.2.2 1), .ref (G.2.2.2 3)] h (kQv (fun h' => Fx (fun c i => c = 4 ∨ (6 ≤ c ∧ c ≤ 12)) h h' ∧ (Gd g h' ∧ LW h h' 10 ∧ LF h h' ((h 1 1 - 10) / 8)))) := by
  refine Ctr.ofK (by decide) rfl T_Text_loadInto (Nat.le_of_ble_eq_true rfl) (lo := [(0, .ref (G.2.2.2 1)), (1, .ref (G.2.2.2 3))]) rfl ?_
  have fx : Fx (fun c i => c = 4 ∨ (6 ≤ c ∧ c ≤ 12)) h h := Fx.rf
  have hI0 := hI
  have u00 := rd_len hI
  refine K_iconst (pc := 0) (i := 0) rfl ?_
  refine K_ist_n (pc := 1) (i := 1) (lo' := [(0, _), (1, _), (2, _)]) rfl rfl rfl rfl ?_
  have L2 : ∀ (n : Nat) (x2 : Int) (ha : kH), (10 - x2).toNat < n → (Gd g ha) → (Fx (fun c i => c = 4 ∨ (6 ≤ c ∧ c ≤ 12)) h ha) → ((1 ≤ x2 ∧ x2 ≤ 10) ∧ ha 2 = h 2 ∧ ha 1 = h 1 ∧ LW h ha x2) → K X_Text_loadInto G (kZm G 3 (kQv (fun h' => Fx (fun c i => c = 4 ∨ (6 ≤ c ∧ c ≤ 12)) h h' ∧ (Gd g h' ∧ LW h h' 10 ∧ LF h h' ((h 1 1 - 10) / 8))))) 2 [(0, .ref (G.2.2.2 1)), (1, .ref (G.2.2.2 3)), (2, kI x2)] [] ha := by
    intro n
    induction n with
    | zero => intro x2 ha hm; exact absurd hm (Nat.not_lt_zero _)
    | succ n ih2 =>
      intro x2 ha hm2 hI fx hV2
      refine K_iload_n (pc := 2) (i := 2) rfl rfl ?_
      refine K_bipush (pc := 3) (i := 3) rfl rfl ?_
      first | refine K_icmp_gt 27 (pc := 5) (i := 4) rfl rfl (by omega) (by omega) (fun b5 => ?_) (fun b5 => ?_) | refine K_icmp_gt_an 27 (pc := 5) (i := 4) rfl rfl (fun b5 => ?_) (fun b5 => ?_)
      · skip
        refine K_aload_n (pc := 27) (i := 16) rfl rfl ?_
        refine K_getR (pc := 28) (i := 17) (j := 0) (d := 6) rfl (S_Sk sk3) rfl (by decide) rfl fw_Text_52 ?_
        refine K_ast_n (pc := 31) (i := 18) (lo' := [(0, _), (1, _), (2, _)]) rfl rfl rfl rfl ?_
        refine K_aload_n (pc := 32) (i := 19) rfl rfl ?_
        refine K_cVV (pc := 33) (i := 20) rfl (c_Fleet_clear G (f := 6) (hf := fl6) (hI := hI)) (S_Fl fl6) rfl (lv_Text_56 rfl) rfl rfl rfl rfl rfl (fun h33 q33 => ?_)
        obtain ⟨fx33, q33⟩ := q33
        obtain ⟨hI, fr33, cl33⟩ := q33
        have fx := fx.tr fx33 (fun c i q => (by first | (dsimp only at q ⊢; omega) | omega))
        have lw33 : LW h h33 10 := by have q := hV2.2.2.2; rw [show x2 = 10 by omega] at q; exact q.of (fr33 4 (by omega))
        have lf33 : LF h h33 0 := ⟨cl33.1, fun k hk => absurd hk (by omega), cl33.2.1, cl33.2.2⟩
        refine K_aload_n (pc := 36) (i := 21) rfl rfl ?_
        refine K_getI (pc := 37) (i := 22) (j := 1) rfl S_1 rfl (by decide) rfl fw_Text_15 ?_
        refine K_nm (fun v37 e37 => ?_)
        have r37 := rd_len hI
        rw [← e37] at r37
        have t37 : v37 = h 1 1 := by rw [e37, fr33 1 (by omega), hV2.2.2.1]
        have u37 := rd_len hI0
        refine K_bipush (pc := 40) (i := 23) rfl rfl ?_
        refine K_isub (pc := 42) (i := 24) rfl ?_
        refine K_bipush (pc := 43) (i := 25) rfl rfl ?_
        refine K_idiv (pc := 45) (i := 26) rfl (by omega) (by omega) ?_
        refine K_eq (kDiv_eq (by omega) (by omega) (by omega) (by omega)) ?_
        refine K_ist_n (pc := 46) (i := 27) (lo' := [(0, _), (1, _), (2, _), (3, _)]) rfl rfl rfl rfl ?_
        refine K_iconst (pc := 47) (i := 28) rfl ?_
        refine K_ist (pc := 48) (i := 29) (lo' := [(0, _), (1, _), (2, _), (3, _), (4, _)]) rfl rfl rfl rfl ?_
        have L50 : ∀ (n : Nat) (x4 : Int) (ha : kH), (8 - x4).toNat < n → (Gd g ha) → (Fx (fun c i => c = 4 ∨ (6 ≤ c ∧ c ≤ 12)) h ha) → ((0 ≤ x4 ∧ x4 ≤ (h 1 1 - 10) / 8) ∧ ha 2 = h 2 ∧ LW h ha 10 ∧ LF h ha x4) → K X_Text_loadInto G (kZm G 3 (kQv (fun h' => Fx (fun c i => c = 4 ∨ (6 ≤ c ∧ c ≤ 12)) h h' ∧ (Gd g h' ∧ LW h h' 10 ∧ LF h h' ((h 1 1 - 10) / 8))))) 50 [(0, .ref (G.2.2.2 1)), (1, .ref (G.2.2.2 3)), (2, .ref (G.2.2.2 6)), (3, kI ((v37 - 10) / 8)), (4, kI x4)] [] ha := by
          intro n
          induction n with
          | zero => intro x4 ha hm; exact absurd hm (Nat.not_lt_zero _)
          | succ n ih50 =>
            intro x4 ha hm50 hI fx hV50
            refine K_iload (pc := 50) (i := 30) rfl rfl ?_
            refine K_iload_n (pc := 52) (i := 31) rfl rfl ?_
            first | refine K_icmp_ge 115 (pc := 53) (i := 32) rfl rfl (by omega) (by omega) (fun b53 => ?_) (fun b53 => ?_) | refine K_icmp_ge_an 115 (pc := 53) (i := 32) rfl rfl (fun b53 => ?_) (fun b53 => ?_)
            · skip
              exact K_retV (pc := 115) (i := 65) rfl rfl ⟨fx, ⟨hI, hV50.2.2.1, by have q := hV50.2.2.2; rwa [show x4 = (h 1 1 - 10) / 8 by omega] at q⟩⟩
            · skip
              refine K_iload (pc := 56) (i := 33) rfl rfl ?_
              refine K_cSI (pc := 58) (i := 34) rfl (c_Text_placeOf G (x0 := x4)) (ls_Text_44 rfl) rfl rfl rfl rfl (fun v58 h58 q58 => ?_)
              obtain ⟨eh, r58⟩ := q58
              rw [eh]; clear eh
              have u58 := (mayS_r1 (by omega) (by omega)).1 (hT (v58 + 1) (by omega) (by omega))
              have w58 := (mayS_r6 (by omega) (by omega)).1 (hT (v58 + 6) (by omega) (by omega))
              have x58 := ((mayS_r3 (by omega) (by omega)).1 (hT (v58 + 3) (by omega) (by omega))).2.1
              rw [show v58 + 3 - 1 = v58 + 2 by omega] at x58
              have y58 := (mayS_r5 (by omega) (by omega)).1 (hT (v58 + 5) (by omega) (by omega))
              have y2 := y58.2
              rw [show v58 + 5 - 1 = v58 + 4 by omega] at y2
              have y4 := (mayS_r4 (by omega) (by omega)).1 (hT (v58 + 4) (by omega) (by omega))
              have y3 : 0 ≤ prI (h 2) (v58 + 4) := by unfold prI; rw [show v58 + 4 + 1 = v58 + 5 by omega]; omega
              have z58 := (mayS_r7 (by omega) (by omega)).1 (hT (v58 + 7) (by omega) (by omega))
              rw [← hV50.2.1] at u58 w58 x58 y2 y3 z58
              have h66 : ha 6 6 = x4 := hV50.2.2.2.1
              refine K_ist (pc := 61) (i := 35) (lo' := [(0, _), (1, _), (2, _), (3, _), (4, _), (5, _)]) rfl rfl rfl rfl ?_
              refine K_aload_n (pc := 63) (i := 36) rfl rfl ?_
              refine K_aload_n (pc := 64) (i := 37) rfl rfl ?_
              refine K_iload (pc := 65) (i := 38) rfl rfl ?_
              refine K_iconst (pc := 67) (i := 39) rfl ?_
              refine K_iadd (pc := 68) (i := 40) rfl ?_
              refine K_cVI (pc := 69) (i := 41) rfl (c_Text_figure G (x1 := v58 + 1) (hI := hI) (s1 := by omega)) S_1 rfl (lv_Text_27 rfl) rfl rfl rfl rfl rfl (fun v69 h69 q69 => ?_)
              obtain ⟨eh, r69⟩ := q69
              rw [eh]; clear eh
              refine K_aload_n (pc := 72) (i := 42) rfl rfl ?_
              refine K_iload (pc := 73) (i := 43) rfl rfl ?_
              refine K_iconst (pc := 75) (i := 44) rfl ?_
              refine K_iadd (pc := 76) (i := 45) rfl ?_
              refine K_cVI (pc := 77) (i := 46) rfl (c_Text_pair G (x1 := v58 + 2) (hI := hI) (s1 := by omega)) S_1 rfl (lv_Text_35 rfl) rfl rfl rfl rfl rfl (fun v77 h77 q77 => ?_)
              obtain ⟨eh, r77⟩ := q77
              rw [eh]; clear eh
              refine K_aload_n (pc := 80) (i := 47) rfl rfl ?_
              refine K_iload (pc := 81) (i := 48) rfl rfl ?_
              refine K_iconst (pc := 83) (i := 49) rfl ?_
              refine K_iadd (pc := 84) (i := 50) rfl ?_
              refine K_cVI (pc := 85) (i := 51) rfl (c_Text_pair G (x1 := v58 + 4) (hI := hI) (s1 := by omega)) S_1 rfl (lv_Text_35 rfl) rfl rfl rfl rfl rfl (fun v85 h85 q85 => ?_)
              obtain ⟨eh, r85⟩ := q85
              rw [eh]; clear eh
              refine K_aload_n (pc := 88) (i := 52) rfl rfl ?_
              refine K_iload (pc := 89) (i := 53) rfl rfl ?_
              refine K_bipush (pc := 91) (i := 54) rfl rfl ?_
              refine K_iadd (pc := 93) (i := 55) rfl ?_
              refine K_cVI (pc := 94) (i := 56) rfl (c_Text_figure G (x1 := v58 + 6) (hI := hI) (s1 := by omega)) S_1 rfl (lv_Text_27 rfl) rfl rfl rfl rfl rfl (fun v94 h94 q94 => ?_)
              obtain ⟨eh, r94⟩ := q94
              rw [eh]; clear eh
              refine K_aload_n (pc := 97) (i := 57) rfl rfl ?_
              refine K_iload (pc := 98) (i := 58) rfl rfl ?_
              refine K_bipush (pc := 100) (i := 59) rfl rfl ?_
              refine K_iadd (pc := 102) (i := 60) rfl ?_
              refine K_cVI (pc := 103) (i := 61) rfl (c_Text_figure G (x1 := v58 + 7) (hI := hI) (s1 := by omega)) S_1 rfl (lv_Text_27 rfl) rfl rfl rfl rfl rfl (fun v103 h103 q103 => ?_)
              obtain ⟨eh, r103⟩ := q103
              rw [eh]; clear eh
              refine K_cVV (pc := 106) (i := 62) rfl (c_Fleet_add G (f := 6) (hf := fl6) (x1 := v69) (x2 := v77) (x3 := v85) (x4 := v94) (x5 := v103) (hI := hI) (s1 := by omega) (s2 := by omega) (s3 := by omega) (s4 := by omega) (s5 := by omega)) (S_Fl fl6) rfl (lv_Text_61 rfl) rfl rfl rfl rfl rfl (fun h106 q106 => ?_)
              obtain ⟨fx106, q106⟩ := q106
              obtain ⟨hI, fr106, fa106⟩ := q106
              have fx := fx.tr fx106 (fun c i q => (by first | (dsimp only at q ⊢; omega) | omega))
              have lf106 := LF.add hV50.2.2.2 (by omega) (fa106 (by rw [h66]; omega)) (by rw [← r58, ← hV50.2.1]; exact r69.1) (by rw [← r58, ← hV50.2.1]; exact r77.1) (by rw [← r58, ← hV50.2.1]; exact r85.1) (by rw [← r58, ← hV50.2.1]; exact r94.1) (by rw [← r58, ← hV50.2.1]; exact r103.1)
              refine K_inc (pc := 109) (i := 63) (q := 4) (lo' := [(0, _), (1, _), (2, _), (3, _), (4, _), (5, _)]) rfl rfl rfl rfl rfl ?_
              refine K_goto 50 (pc := 112) (i := 64) rfl rfl ?_
              refine K_drop (lo' := [(0, .ref (G.2.2.2 1)), (1, .ref (G.2.2.2 3)), (2, .ref (G.2.2.2 6)), (3, kI ((v37 - 10) / 8)), (4, kI (x4 + 1))]) [0, 1, 2, 3, 4] rfl ?_
              exact ih50 (x4 + 1) _ (by omega) hI fx ⟨by omega, (fr106 2 (by omega)).trans hV50.2.1, hV50.2.2.1.of (fr106 4 (by omega)), lf106⟩
        exact L50 _ 0 _ (Nat.lt_succ_self _) hI fx ⟨by omega, (fr33 2 (by omega)).trans hV2.2.1, lw33, lf33⟩
      · skip
        refine K_aload_n (pc := 8) (i := 5) rfl rfl ?_
        refine K_getR (pc := 9) (i := 6) (j := 1) (d := 4) rfl (S_Sk sk3) rfl (by decide) rfl fw_Text_47 ?_
        refine K_iload_n (pc := 12) (i := 7) rfl rfl ?_
        refine K_aload_n (pc := 13) (i := 8) rfl rfl ?_
        refine K_iload_n (pc := 14) (i := 9) rfl rfl ?_
        refine K_cVI (pc := 15) (i := 10) rfl (c_Text_figure G (x1 := x2) (hI := hI) (s1 := by omega)) S_1 rfl (lv_Text_27 rfl) rfl rfl rfl rfl rfl (fun v15 h15 q15 => ?_)
        obtain ⟨eh, r15⟩ := q15
        rw [eh]; clear eh
        have m15 := (mayS_h (by omega) (by omega)).1 (hT x2 (by omega) (by omega))
        rw [← hV2.2.1] at m15
        refine K_iconst (pc := 18) (i := 11) rfl ?_
        refine K_isub (pc := 19) (i := 12) rfl ?_
        refine K_iast (pc := 20) (i := 13) rfl (S_Sk1 sk3) (by omega) (by omega) (by decide) ?_
        have hI := st_wind hI sk3 (i := (x2).toNat) (v := v15 - 3) (by omega)
        have fx := Fx.st (c := 4) (i := (x2).toNat) (v := v15 - 3) fx (by first | (dsimp only; omega) | omega | exact not_false)
        have lw20 : LW h (kU ha 4 ((x2).toNat) (v15 - 3)) (x2 + 1) := LW.st hV2.2.2.2 (by omega) (by rw [← hV2.2.1]; omega)
        refine K_inc (pc := 21) (i := 14) (q := 2) (lo' := [(0, _), (1, _), (2, _)]) rfl rfl rfl rfl rfl ?_
        refine K_goto 2 (pc := 24) (i := 15) rfl rfl ?_
        exact ih2 (x2 + 1) _ (by omega) hI fx ⟨by omega, (kU_c _ _ _ _ (by decide)).trans hV2.2.1, (kU_c _ _ _ _ (by decide)).trans hV2.2.2.1, lw20⟩
  exact L2 _ 1 _ (Nat.lt_succ_self _) hI fx ⟨by omega, rfl, rfl, LW.z⟩
theorem WCp {h h8 : kH} {s s2 : Nat} (e1 : h8 (s2 + 1) = h (s2 + 1)) (e2 : h8 (s + 1) = h (s + 1)) (i : Nat) : kCpy h8 (s2 + 1) (s + 1) (0 : Int).toNat (0 : Int).toNat (10 : Int).toNat (s + 1) i = if i < 10 then h (s2 + 1) i else h (s + 1) i := by
  rw [kCpy_at]
  by_cases q : i < 10
  · rw [if_pos ⟨rfl, Nat.zero_le _, by omega⟩, if_pos q, e1]
    congr 1
    simp
  · rw [if_neg (by omega), if_neg q, e2]
set_option maxHeartbeats 4000000 in
set_option maxRecDepth 100000 in
theorem c_Sky_copyFrom (G : kG) {g : kGh} {h : kH} {s : Nat} (hs : s ∈ SK) {s2 : Nat} (hs2 : s2 ∈ SK) (dj : s + 10 ≤ s2 ∨ s2 + 10 ≤ s) (hI : Gd g h) : Ctr G y_Sky_copyFrom X_Sky_copyFrom 3 [.ref (G.2.2.2 s), .ref (G.2.2.2 s2)] h (kQv (fun h' => Fx (fun c i => c = s + 1 ∨ (s + 3 ≤ c ∧ c ≤ s + 9)) h h' ∧ (Gd g h' ∧ FC h' (s + 3) h (s2 + 3) ∧ ∀ i, h' (s + 1) i = if i < 10 then h (s2 + 1) i else h (s + 1) i))) := by
  refine Ctr.ofK (by decide) rfl T_Sky_copyFrom (Nat.le_of_ble_eq_true rfl) (lo := [(0, .ref (G.2.2.2 s)), (1, .ref (G.2.2.2 s2))]) rfl ?_
  have fx : Fx (fun c i => c = s + 1 ∨ (s + 3 ≤ c ∧ c ≤ s + 9)) h h := Fx.rf
  refine K_aload_n (pc := 0) (i := 0) rfl rfl ?_
  refine K_getR (pc := 1) (i := 1) (j := 0) (d := s + 3) rfl (S_Sk hs) rfl (by decide) rfl fw_Sky_12 ?_
  refine K_aload_n (pc := 4) (i := 2) rfl rfl ?_
  refine K_getR (pc := 5) (i := 3) (j := 0) (d := s2 + 3) rfl (S_Sk hs2) rfl (by decide) rfl fw_Sky_12 ?_
  refine K_cVV (pc := 8) (i := 4) rfl (c_Fleet_copyFrom G (f := s + 3) (hf := (sk_fl hs)) (f2 := s2 + 3) (hf2 := (sk_fl hs2)) (hI := hI) (dj := by omega)) (S_Fl (sk_fl hs)) rfl (lv_Sky_25 rfl) rfl rfl rfl rfl rfl (fun h8 q8 => ?_)
  obtain ⟨fx8, q8⟩ := q8
  obtain ⟨hI, fr8, fc8⟩ := q8
  have fx := fx.tr fx8 (fun c i q => (by first | (dsimp only at q ⊢; omega) | omega))
  refine K_aload_n (pc := 11) (i := 5) rfl rfl ?_
  refine K_getR (pc := 12) (i := 6) (j := 1) (d := s2 + 1) rfl (S_Sk hs2) rfl (by decide) rfl fw_Sky_18 ?_
  refine K_iconst (pc := 15) (i := 7) rfl ?_
  refine K_aload_n (pc := 16) (i := 8) rfl rfl ?_
  refine K_getR (pc := 17) (i := 9) (j := 1) (d := s + 1) rfl (S_Sk hs) rfl (by decide) rfl fw_Sky_18 ?_
  refine K_iconst (pc := 20) (i := 10) rfl ?_
  refine K_bipush (pc := 21) (i := 11) rfl rfl ?_
  refine K_copy (pc := 23) (i := 12) rfl (S_Sk1 hs2) (S_Sk1 hs) (by omega) (by omega) (by omega) (by omega) (by omega) (by decide) (by decide) mw_Sky_29 (Nat.le_of_ble_eq_true rfl) ⟨Nat.le_of_ble_eq_true rfl, Nat.le_of_ble_eq_true rfl⟩ ?_
  have hI := cp_wind (sp := (0 : Int).toNat) (dp := (0 : Int).toNat) (n := (10 : Int).toNat) hI hs2 hs
  have fx := Fx.cp (c0 := s2 + 1) (c1 := s + 1) (sp := (0 : Int).toNat) (dp := (0 : Int).toNat) (n := (10 : Int).toNat) fx (fun i => (by first | (dsimp only; omega) | omega | exact not_false))
  exact K_retV (pc := 26) (i := 13) rfl rfl ⟨fx, ⟨hI, fc8.tr (FC.same (fun c a b => kCpy_c _ _ _ _ _ _ (by omega))), WCp (fr8 (s2 + 1) (by omega)) (fr8 (s + 1) (by omega))⟩⟩
set_option maxHeartbeats 4000000 in
set_option maxRecDepth 100000 in
theorem c_Sky_edgeAt (G : kG) {g : kGh} {h : kH} {s : Nat} (hs : s ∈ SK){x1 : Int} {x2 : Int} (s1 : 0 ≤ x1 ∧ x1 ≤ 9) (s2 : 0 ≤ x2 ∧ x2 ≤ 9) (hI : Gd g h) : Ctr G y_Sky_edgeAt X_Sky_edgeAt 2 [.ref (G.2.2.2 s), kI x1, kI x2] h (kQi (fun z h' => h' = h ∧ (0 ≤ z ∧ z ≤ 36) ∧ z = x1 * (kAbs (h (s + 1) x2.toNat) + 1))) := by
  refine Ctr.ofK (by decide) rfl T_Sky_edgeAt (Nat.le_of_ble_eq_true rfl) (lo := [(0, .ref (G.2.2.2 s)), (1, kI x1), (2, kI x2)]) rfl ?_
  refine K_iload_n (pc := 0) (i := 0) rfl rfl ?_
  refine K_aload_n (pc := 1) (i := 1) rfl rfl ?_
  refine K_getR (pc := 2) (i := 2) (j := 1) (d := s + 1) rfl (S_Sk hs) rfl (by decide) rfl fw_Sky_18 ?_
  refine K_iload_n (pc := 5) (i := 3) rfl rfl ?_
  refine K_iald (pc := 6) (i := 4) rfl (S_Sk1 hs) (by omega) (by omega) (by decide) ?_
  refine K_nm (fun v6 e6 => ?_)
  have r6 := rd_wind hI hs (x2).toNat
  rw [← e6] at r6
  refine K_mabs (pc := 7) (i := 5) rfl mw_Sky_45 (by omega) (Nat.le_of_ble_eq_true rfl) ⟨Nat.le_of_ble_eq_true rfl, Nat.le_of_ble_eq_true rfl⟩ ⟨Nat.le_of_ble_eq_true rfl, Nat.le_of_ble_eq_true rfl⟩ ?_
  refine K_nm (fun v7 e7 => ?_)
  have r7 := kAbs_r (a := v6) (by omega)
  rw [← e7] at r7
  refine K_iconst (pc := 10) (i := 6) rfl ?_
  refine K_iadd (pc := 11) (i := 7) rfl ?_
  refine K_imul (pc := 12) (i := 8) rfl ?_
  refine K_nm (fun v12 e12 => ?_)
  have u12 := mul_bd (A := 9) (B := 4) (a := x1) (b := v7 + 1) (by omega) (by omega)
  have w12 := Int.mul_nonneg (a := x1) (b := v7 + 1) (by omega) (by omega)
  rw [← e12] at u12 w12
  exact K_retI (pc := 13) (i := 9) rfl rfl ⟨rfl, by omega, by rw [← e6, ← e7, ← e12]⟩
set_option maxHeartbeats 4000000 in
set_option maxRecDepth 100000 in
theorem c_Sky_edge (G : kG) {g : kGh} {h : kH} {s : Nat} (hs : s ∈ SK){x1 : Int} (s1 : 0 ≤ x1 ∧ x1 ≤ 7) (hI : Gd g h) : Ctr G y_Sky_edge X_Sky_edge 3 [.ref (G.2.2.2 s), kI x1] h (kQi (fun z h' => h' = h ∧ (0 ≤ z ∧ z ≤ 36) ∧ z = eg h s x1.toNat)) := by
  refine Ctr.ofK (by decide) rfl T_Sky_edge (Nat.le_of_ble_eq_true rfl) (lo := [(0, .ref (G.2.2.2 s)), (1, kI x1)]) rfl ?_
  refine K_aload_n (pc := 0) (i := 0) rfl rfl ?_
  refine K_aload_n (pc := 1) (i := 1) rfl rfl ?_
  refine K_getR (pc := 2) (i := 2) (j := 0) (d := s + 3) rfl (S_Sk hs) rfl (by decide) rfl fw_Sky_12 ?_
  refine K_getR (pc := 5) (i := 3) (j := 4) (d := s + 3 + 5) rfl (S_Fl (sk_fl hs)) rfl (by decide) rfl fw_Sky_35 ?_
  refine K_iload_n (pc := 8) (i := 4) rfl rfl ?_
  refine K_iald (pc := 9) (i := 5) rfl (S_Fl5 (sk_fl hs)) (by omega) (by omega) (by decide) ?_
  refine K_nm (fun v9 e9 => ?_)
  have r9 := rd_glass hI (sk_fl hs) (x1).toNat
  rw [← e9] at r9
  refine K_aload_n (pc := 10) (i := 6) rfl rfl ?_
  refine K_getR (pc := 11) (i := 7) (j := 0) (d := s + 3) rfl (S_Sk hs) rfl (by decide) rfl fw_Sky_12 ?_
  refine K_getR (pc := 14) (i := 8) (j := 3) (d := s + 3 + 4) rfl (S_Fl (sk_fl hs)) rfl (by decide) rfl fw_Sky_38 ?_
  refine K_iload_n (pc := 17) (i := 9) rfl rfl ?_
  refine K_iald (pc := 18) (i := 10) rfl (S_Fl4 (sk_fl hs)) (by omega) (by omega) (by decide) ?_
  refine K_nm (fun v18 e18 => ?_)
  have r18 := rd_height hI (sk_fl hs) (x1).toNat
  rw [← e18] at r18
  refine K_cVI (pc := 19) (i := 11) rfl (c_Sky_edgeAt G (s := s) (hs := hs) (x1 := v9) (x2 := v18) (hI := hI) (s1 := by omega) (s2 := by omega)) (S_Sk hs) rfl (lv_Sky_41 rfl) rfl rfl rfl rfl rfl (fun v19 h19 q19 => ?_)
  obtain ⟨eh, r19⟩ := q19
  rw [eh]; clear eh
  exact K_retI (pc := 22) (i := 12) rfl rfl ⟨rfl, by omega, by unfold eg; rw [← e9, ← e18]; exact r19.2⟩
set_option maxHeartbeats 4000000 in
set_option maxRecDepth 100000 in
theorem c_Sky_blownX (G : kG) {g : kGh} {h : kH} {s : Nat} (hs : s ∈ SK){x1 : Int} {x2 : Int} (s1 : 0 ≤ x1 ∧ x1 ≤ 40) (s2 : 0 ≤ x2 ∧ x2 ≤ 9) (hI : Gd g h) : Ctr G y_Sky_blownX X_Sky_blownX 2 [.ref (G.2.2.2 s), kI x1, kI x2] h (kQi (fun z h' => h' = h ∧ (0 ≤ z ∧ z ≤ 40) ∧ z = max 0 (min 40 (x1 + h (s + 1) x2.toNat)))) := by
  refine Ctr.ofK (by decide) rfl T_Sky_blownX (Nat.le_of_ble_eq_true rfl) (lo := [(0, .ref (G.2.2.2 s)), (1, kI x1), (2, kI x2)]) rfl ?_
  refine K_iconst (pc := 0) (i := 0) rfl ?_
  refine K_bipush (pc := 1) (i := 1) rfl rfl ?_
  refine K_iload_n (pc := 3) (i := 2) rfl rfl ?_
  refine K_aload_n (pc := 4) (i := 3) rfl rfl ?_
  refine K_getR (pc := 5) (i := 4) (j := 1) (d := s + 1) rfl (S_Sk hs) rfl (by decide) rfl fw_Sky_18 ?_
  refine K_iload_n (pc := 8) (i := 5) rfl rfl ?_
  refine K_iald (pc := 9) (i := 6) rfl (S_Sk1 hs) (by omega) (by omega) (by decide) ?_
  refine K_nm (fun v9 e9 => ?_)
  have r9 := rd_wind hI hs (x2).toNat
  rw [← e9] at r9
  refine K_iadd (pc := 10) (i := 7) rfl ?_
  refine K_mmin (pc := 11) (i := 8) rfl mw_Sky_51 (by omega) (by omega) (Nat.le_of_ble_eq_true rfl) ⟨Nat.le_of_ble_eq_true rfl, Nat.le_of_ble_eq_true rfl⟩ ⟨Nat.le_of_ble_eq_true rfl, Nat.le_of_ble_eq_true rfl⟩ ?_
  refine K_nm (fun v11 e11 => ?_)
  refine K_mmax (pc := 14) (i := 9) rfl mw_Sky_54 (by omega) (by omega) (Nat.le_of_ble_eq_true rfl) ⟨Nat.le_of_ble_eq_true rfl, Nat.le_of_ble_eq_true rfl⟩ ⟨Nat.le_of_ble_eq_true rfl, Nat.le_of_ble_eq_true rfl⟩ ?_
  refine K_nm (fun v14 e14 => ?_)
  exact K_retI (pc := 17) (i := 10) rfl rfl ⟨rfl, by omega, by rw [← e9, ← e11, ← e14]⟩
set_option maxHeartbeats 4000000 in
set_option maxRecDepth 100000 in
theorem c_Sky_fight (G : kG) {g : kGh} {h : kH} {s : Nat} (hs : s ∈ SK) (hI : Gd g h) : Ctr G y_Sky_fight X_Sky_fight 4 [.ref (G.2.2.2 s)] h (kQi (fun z h' => Fx (fun c i => c = s + 2) h h' ∧ (Gd g h' ∧ kR z ∧ CtC h s (h (s + 3) 6) z))) := by
  refine Ctr.ofK (by decide) rfl T_Sky_fight (Nat.le_of_ble_eq_true rfl) (lo := [(0, .ref (G.2.2.2 s))]) rfl ?_
  have fx : Fx (fun c i => c = s + 2) h h := Fx.rf
  have hI0 := hI
  have n00 := rd_kites hI (sk_fl hs)
  refine K_iconst (pc := 0) (i := 0) rfl ?_
  refine K_ist_n (pc := 1) (i := 1) (lo' := [(0, _), (1, _)]) rfl rfl rfl rfl ?_
  have L2 : ∀ (n : Nat) (x1 : Int) (ha : kH), (8 - x1).toNat < n → (Gd g ha) → (Fx (fun c i => c = s + 2) h ha) → ((0 ≤ x1 ∧ x1 ≤ 8) ∧ ∀ k : Nat, (k : Int) < x1 → ha (s + 2) k = eg h s k) → K X_Sky_fight G (kZm G 4 (kQi (fun z h' => Fx (fun c i => c = s + 2) h h' ∧ (Gd g h' ∧ kR z ∧ CtC h s (h (s + 3) 6) z)))) 2 [(0, .ref (G.2.2.2 s)), (1, kI x1)] [] ha := by
    intro n
    induction n with
    | zero => intro x1 ha hm; exact absurd hm (Nat.not_lt_zero _)
    | succ n ih2 =>
      intro x1 ha hm2 hI fx hV2
      refine K_iload_n (pc := 2) (i := 2) rfl rfl ?_
      refine K_aload_n (pc := 3) (i := 3) rfl rfl ?_
      refine K_getR (pc := 4) (i := 4) (j := 0) (d := s + 3) rfl (S_Sk hs) rfl (by decide) rfl fw_Sky_12 ?_
      refine K_getI (pc := 7) (i := 5) (j := 6) rfl (S_Fl (sk_fl hs)) rfl (by decide) rfl fw_Sky_61 ?_
      refine K_nm (fun v7 e7 => ?_)
      have r7 := rd_kites hI (sk_fl hs)
      rw [← e7] at r7
      have en7 : v7 = h (s + 3) 6 := by rw [e7]; exact fx (s + 3) 6 (by first | (dsimp only; omega) | omega | exact not_false)
      first | refine K_icmp_ge 30 (pc := 10) (i := 6) rfl rfl (by omega) (by omega) (fun b10 => ?_) (fun b10 => ?_) | refine K_icmp_ge_an 30 (pc := 10) (i := 6) rfl rfl (fun b10 => ?_) (fun b10 => ?_)
      · skip
        have edA : ∀ k : Nat, (k : Int) < h (s + 3) 6 → ha (s + 2) k = eg h s k := fun k hk => hV2.2 k (by omega)
        have en : ha (s + 3) 6 = h (s + 3) 6 := fx (s + 3) 6 (by first | (dsimp only; omega) | omega | exact not_false)
        refine K_iconst (pc := 30) (i := 16) rfl ?_
        refine K_ist_n (pc := 31) (i := 17) (lo' := [(0, _), (1, _)]) rfl rfl rfl rfl ?_
        refine K_iconst (pc := 32) (i := 18) rfl ?_
        refine K_ist_n (pc := 33) (i := 19) (lo' := [(0, _), (1, _), (2, _)]) rfl rfl rfl rfl ?_
        have L34 : ∀ (n : Nat) (x1 : Int) (x2 : Int), (8 - x2).toNat < n → ((0 ≤ x2 ∧ x2 ≤ 8) ∧ kR x1 ∧ CI h s (h (s + 3) 6) x1 x2 0) → K X_Sky_fight G (kZm G 4 (kQi (fun z h' => Fx (fun c i => c = s + 2) h h' ∧ (Gd g h' ∧ kR z ∧ CtC h s (h (s + 3) 6) z)))) 34 [(0, .ref (G.2.2.2 s)), (1, kI x1), (2, kI x2)] [] ha := by
          intro n
          induction n with
          | zero => intro x1 x2 hm; exact absurd hm (Nat.not_lt_zero _)
          | succ n ih34 =>
            intro x1 x2 hm34 hV34
            refine K_iload_n (pc := 34) (i := 20) rfl rfl ?_
            refine K_aload_n (pc := 35) (i := 21) rfl rfl ?_
            refine K_getR (pc := 36) (i := 22) (j := 0) (d := s + 3) rfl (S_Sk hs) rfl (by decide) rfl fw_Sky_12 ?_
            refine K_getI (pc := 39) (i := 23) (j := 6) rfl (S_Fl (sk_fl hs)) rfl (by decide) rfl fw_Sky_61 ?_
            refine K_nm (fun v39 e39 => ?_)
            have r39 := rd_kites hI (sk_fl hs)
            rw [← e39] at r39
            first | refine K_icmp_ge 147 (pc := 42) (i := 24) rfl rfl (by omega) (by omega) (fun b42 => ?_) (fun b42 => ?_) | refine K_icmp_ge_an 147 (pc := 42) (i := 24) rfl rfl (fun b42 => ?_) (fun b42 => ?_)
            · skip
              refine K_iload_n (pc := 147) (i := 83) rfl rfl ?_
              exact K_retI (pc := 148) (i := 84) rfl rfl ⟨fx, ⟨hI, by omega, hV34.2.2.end (by omega)⟩⟩
            · skip
              refine K_iload_n (pc := 45) (i := 25) rfl rfl ?_
              refine K_iconst (pc := 46) (i := 26) rfl ?_
              refine K_iadd (pc := 47) (i := 27) rfl ?_
              refine K_ist_n (pc := 48) (i := 28) (lo' := [(0, _), (1, _), (2, _), (3, _)]) rfl rfl rfl rfl ?_
              have L49 : ∀ (n : Nat) (x1 : Int) (x3 : Int), (8 - x3).toNat < n → ((0 ≤ x3 ∧ x3 ≤ 8) ∧ kR x1 ∧ x2 < x3 ∧ CI h s (h (s + 3) 6) x1 x2 x3) → K X_Sky_fight G (kZm G 4 (kQi (fun z h' => Fx (fun c i => c = s + 2) h h' ∧ (Gd g h' ∧ kR z ∧ CtC h s (h (s + 3) 6) z)))) 49 [(0, .ref (G.2.2.2 s)), (1, kI x1), (2, kI x2), (3, kI x3)] [] ha := by
                intro n
                induction n with
                | zero => intro x1 x3 hm; exact absurd hm (Nat.not_lt_zero _)
                | succ n ih49 =>
                  intro x1 x3 hm49 hV49
                  refine K_iload_n (pc := 49) (i := 29) rfl rfl ?_
                  refine K_aload_n (pc := 50) (i := 30) rfl rfl ?_
                  refine K_getR (pc := 51) (i := 31) (j := 0) (d := s + 3) rfl (S_Sk hs) rfl (by decide) rfl fw_Sky_12 ?_
                  refine K_getI (pc := 54) (i := 32) (j := 6) rfl (S_Fl (sk_fl hs)) rfl (by decide) rfl fw_Sky_61 ?_
                  refine K_nm (fun v54 e54 => ?_)
                  have r54 := rd_kites hI (sk_fl hs)
                  rw [← e54] at r54
                  first | refine K_icmp_ge 141 (pc := 57) (i := 33) rfl rfl (by omega) (by omega) (fun b57 => ?_) (fun b57 => ?_) | refine K_icmp_ge_an 141 (pc := 57) (i := 33) rfl rfl (fun b57 => ?_) (fun b57 => ?_)
                  · skip
                    refine K_inc (pc := 141) (i := 81) (q := 2) (lo' := [(0, _), (1, _), (2, _), (3, _)]) rfl rfl rfl rfl rfl ?_
                    refine K_goto 34 (pc := 144) (i := 82) rfl rfl ?_
                    refine K_drop (lo' := [(0, .ref (G.2.2.2 s)), (1, kI x1), (2, kI (x2 + 1))]) [0, 1, 2] rfl ?_
                    exact ih34 x1 (x2 + 1) (by omega) ⟨by omega, by omega, hV49.2.2.2.next (by omega)⟩
                  · skip
                    refine K_aload_n (pc := 60) (i := 34) rfl rfl ?_
                    refine K_getR (pc := 61) (i := 35) (j := 0) (d := s + 3) rfl (S_Sk hs) rfl (by decide) rfl fw_Sky_12 ?_
                    refine K_getR (pc := 64) (i := 36) (j := 0) (d := s + 3 + 1) rfl (S_Fl (sk_fl hs)) rfl (by decide) rfl fw_Sky_77 ?_
                    refine K_iload_n (pc := 67) (i := 37) rfl rfl ?_
                    refine K_iald (pc := 68) (i := 38) rfl (S_Fl1 (sk_fl hs)) (by omega) (by omega) (by decide) ?_
                    refine K_nm (fun v68 e68 => ?_)
                    have r68 := rd_town hI (sk_fl hs) (x2).toNat
                    rw [← e68] at r68
                    have w68 : v68 = h (s + 3 + 1) x2.toNat := by rw [e68, fx.cell (s + 3 + 1) (fun i => (by first | (dsimp only; omega) | omega | exact not_false))]
                    refine K_aload_n (pc := 69) (i := 39) rfl rfl ?_
                    refine K_getR (pc := 70) (i := 40) (j := 0) (d := s + 3) rfl (S_Sk hs) rfl (by decide) rfl fw_Sky_12 ?_
                    refine K_getR (pc := 73) (i := 41) (j := 0) (d := s + 3 + 1) rfl (S_Fl (sk_fl hs)) rfl (by decide) rfl fw_Sky_77 ?_
                    refine K_iload_n (pc := 76) (i := 42) rfl rfl ?_
                    refine K_iald (pc := 77) (i := 43) rfl (S_Fl1 (sk_fl hs)) (by omega) (by omega) (by decide) ?_
                    refine K_nm (fun v77 e77 => ?_)
                    have r77 := rd_town hI (sk_fl hs) (x3).toNat
                    rw [← e77] at r77
                    have w77 : v77 = h (s + 3 + 1) x3.toNat := by rw [e77, fx.cell (s + 3 + 1) (fun i => (by first | (dsimp only; omega) | omega | exact not_false))]
                    first | refine K_icmp_eq 135 (pc := 78) (i := 44) rfl rfl (by omega) (by omega) (fun b78 => ?_) (fun b78 => ?_) | refine K_icmp_eq_an 135 (pc := 78) (i := 44) rfl rfl (fun b78 => ?_) (fun b78 => ?_)
                    · skip
                      refine K_inc (pc := 135) (i := 79) (q := 3) (lo' := [(0, _), (1, _), (2, _), (3, _)]) rfl rfl rfl rfl rfl ?_
                      refine K_goto 49 (pc := 138) (i := 80) rfl rfl ?_
                      exact ih49 x1 (x3 + 1) (by omega) (by first | exact ⟨by omega, by omega, by omega, hV49.2.2.2.skip (by omega) (by omega) (fun q => q.1 (by rw [← w68, ← w77]; omega))⟩ | exact ⟨by omega, by omega, by omega, hV49.2.2.2.skip (by omega) (by omega) (fun q => q.2.1 (by rw [← w86, ← w92]; omega))⟩ | exact ⟨by omega, by omega, by omega, hV49.2.2.2.skip (by omega) (by omega) (fun q => r102.elim (fun e => absurd e.1 (by omega)) (fun e => e.2 q.2.2))⟩ | exact ⟨by omega, by omega, by omega, (by rw [e133, e126]; exact hV49.2.2.2.hit (by omega) (by omega) (by omega) ⟨by rw [← w68, ← w77]; omega, by rw [← w86, ← w92]; omega, r102.resolve_right (fun q => by omega) |>.2⟩ (by rw [lo_lt (by rw [← w114, ← w120]; omega)]; omega) (by omega))⟩ | exact ⟨by omega, by omega, by omega, (by rw [e133, e132]; exact hV49.2.2.2.hit (by omega) (by omega) (by omega) ⟨by rw [← w68, ← w77]; omega, by rw [← w86, ← w92]; omega, r102.resolve_right (fun q => by omega) |>.2⟩ (by rw [lo_ge (by rw [← w114, ← w120]; omega)]; omega) (by omega))⟩)
                    · skip
                      refine K_aload_n (pc := 81) (i := 45) rfl rfl ?_
                      refine K_getR (pc := 82) (i := 46) (j := 2) (d := s + 2) rfl (S_Sk hs) rfl (by decide) rfl fw_Sky_22 ?_
                      refine K_iload_n (pc := 85) (i := 47) rfl rfl ?_
                      refine K_iald (pc := 86) (i := 48) rfl (S_Sk2 hs) (by omega) (by omega) (by decide) ?_
                      refine K_nm (fun v86 e86 => ?_)
                      have w86 : v86 = eg h s x2.toNat := by rw [e86]; exact edA _ (by omega)
                      have u86 := eg_r hI0 hs x2.toNat
                      rw [← w86] at u86
                      refine K_aload_n (pc := 87) (i := 49) rfl rfl ?_
                      refine K_getR (pc := 88) (i := 50) (j := 2) (d := s + 2) rfl (S_Sk hs) rfl (by decide) rfl fw_Sky_22 ?_
                      refine K_iload_n (pc := 91) (i := 51) rfl rfl ?_
                      refine K_iald (pc := 92) (i := 52) rfl (S_Sk2 hs) (by omega) (by omega) (by decide) ?_
                      refine K_nm (fun v92 e92 => ?_)
                      have w92 : v92 = eg h s x3.toNat := by rw [e92]; exact edA _ (by omega)
                      have u92 := eg_r hI0 hs x3.toNat
                      rw [← w92] at u92
                      first | refine K_icmp_eq 135 (pc := 93) (i := 53) rfl rfl (by omega) (by omega) (fun b93 => ?_) (fun b93 => ?_) | refine K_icmp_eq_an 135 (pc := 93) (i := 53) rfl rfl (fun b93 => ?_) (fun b93 => ?_)
                      · skip
                        refine K_inc (pc := 135) (i := 79) (q := 3) (lo' := [(0, _), (1, _), (2, _), (3, _)]) rfl rfl rfl rfl rfl ?_
                        refine K_goto 49 (pc := 138) (i := 80) rfl rfl ?_
                        exact ih49 x1 (x3 + 1) (by omega) (by first | exact ⟨by omega, by omega, by omega, hV49.2.2.2.skip (by omega) (by omega) (fun q => q.1 (by rw [← w68, ← w77]; omega))⟩ | exact ⟨by omega, by omega, by omega, hV49.2.2.2.skip (by omega) (by omega) (fun q => q.2.1 (by rw [← w86, ← w92]; omega))⟩ | exact ⟨by omega, by omega, by omega, hV49.2.2.2.skip (by omega) (by omega) (fun q => r102.elim (fun e => absurd e.1 (by omega)) (fun e => e.2 q.2.2))⟩ | exact ⟨by omega, by omega, by omega, (by rw [e133, e126]; exact hV49.2.2.2.hit (by omega) (by omega) (by omega) ⟨by rw [← w68, ← w77]; omega, by rw [← w86, ← w92]; omega, r102.resolve_right (fun q => by omega) |>.2⟩ (by rw [lo_lt (by rw [← w114, ← w120]; omega)]; omega) (by omega))⟩ | exact ⟨by omega, by omega, by omega, (by rw [e133, e132]; exact hV49.2.2.2.hit (by omega) (by omega) (by omega) ⟨by rw [← w68, ← w77]; omega, by rw [← w86, ← w92]; omega, r102.resolve_right (fun q => by omega) |>.2⟩ (by rw [lo_ge (by rw [← w114, ← w120]; omega)]; omega) (by omega))⟩)
                      · skip
                        refine K_aload_n (pc := 96) (i := 54) rfl rfl ?_
                        refine K_getR (pc := 97) (i := 55) (j := 0) (d := s + 3) rfl (S_Sk hs) rfl (by decide) rfl fw_Sky_12 ?_
                        refine K_iload_n (pc := 100) (i := 56) rfl rfl ?_
                        refine K_iload_n (pc := 101) (i := 57) rfl rfl ?_
                        refine K_cVI (pc := 102) (i := 58) rfl (c_Fleet_meet G (f := s + 3) (hf := (sk_fl hs)) (x1 := x2) (x2 := x3) (hI := hI) (s1 := by omega) (s2 := by omega)) (S_Fl (sk_fl hs)) rfl (lv_Sky_87 rfl) rfl rfl rfl rfl rfl (fun v102 h102 q102 => ?_)
                        obtain ⟨eh, r102⟩ := q102
                        rw [eh]; clear eh
                        rw [mt_of (fun c hc => fx.cell c (fun i => (by first | (dsimp only; omega) | omega | exact not_false)))] at r102
                        first | refine K_if_eq 135 (pc := 105) (i := 59) rfl rfl (by omega) (fun b105 => ?_) (fun b105 => ?_) | refine K_if_eq_an 135 (pc := 105) (i := 59) rfl rfl (fun b105 => ?_) (fun b105 => ?_)
                        · skip
                          refine K_inc (pc := 135) (i := 79) (q := 3) (lo' := [(0, _), (1, _), (2, _), (3, _)]) rfl rfl rfl rfl rfl ?_
                          refine K_goto 49 (pc := 138) (i := 80) rfl rfl ?_
                          exact ih49 x1 (x3 + 1) (by omega) (by first | exact ⟨by omega, by omega, by omega, hV49.2.2.2.skip (by omega) (by omega) (fun q => q.1 (by rw [← w68, ← w77]; omega))⟩ | exact ⟨by omega, by omega, by omega, hV49.2.2.2.skip (by omega) (by omega) (fun q => q.2.1 (by rw [← w86, ← w92]; omega))⟩ | exact ⟨by omega, by omega, by omega, hV49.2.2.2.skip (by omega) (by omega) (fun q => r102.elim (fun e => absurd e.1 (by omega)) (fun e => e.2 q.2.2))⟩ | exact ⟨by omega, by omega, by omega, (by rw [e133, e126]; exact hV49.2.2.2.hit (by omega) (by omega) (by omega) ⟨by rw [← w68, ← w77]; omega, by rw [← w86, ← w92]; omega, r102.resolve_right (fun q => by omega) |>.2⟩ (by rw [lo_lt (by rw [← w114, ← w120]; omega)]; omega) (by omega))⟩ | exact ⟨by omega, by omega, by omega, (by rw [e133, e132]; exact hV49.2.2.2.hit (by omega) (by omega) (by omega) ⟨by rw [← w68, ← w77]; omega, by rw [← w86, ← w92]; omega, r102.resolve_right (fun q => by omega) |>.2⟩ (by rw [lo_ge (by rw [← w114, ← w120]; omega)]; omega) (by omega))⟩)
                        · skip
                          refine K_iload_n (pc := 108) (i := 60) rfl rfl ?_
                          refine K_aload_n (pc := 109) (i := 61) rfl rfl ?_
                          refine K_getR (pc := 110) (i := 62) (j := 2) (d := s + 2) rfl (S_Sk hs) rfl (by decide) rfl fw_Sky_22 ?_
                          refine K_iload_n (pc := 113) (i := 63) rfl rfl ?_
                          refine K_iald (pc := 114) (i := 64) rfl (S_Sk2 hs) (by omega) (by omega) (by decide) ?_
                          refine K_nm (fun v114 e114 => ?_)
                          have w114 : v114 = eg h s x2.toNat := by rw [e114]; exact edA _ (by omega)
                          have u114 := eg_r hI0 hs x2.toNat
                          rw [← w114] at u114
                          refine K_aload_n (pc := 115) (i := 65) rfl rfl ?_
                          refine K_getR (pc := 116) (i := 66) (j := 2) (d := s + 2) rfl (S_Sk hs) rfl (by decide) rfl fw_Sky_22 ?_
                          refine K_iload_n (pc := 119) (i := 67) rfl rfl ?_
                          refine K_iald (pc := 120) (i := 68) rfl (S_Sk2 hs) (by omega) (by omega) (by decide) ?_
                          refine K_nm (fun v120 e120 => ?_)
                          have w120 : v120 = eg h s x3.toNat := by rw [e120]; exact edA _ (by omega)
                          have u120 := eg_r hI0 hs x3.toNat
                          rw [← w120] at u120
                          first | refine K_icmp_ge 130 (pc := 121) (i := 69) rfl rfl (by omega) (by omega) (fun b121 => ?_) (fun b121 => ?_) | refine K_icmp_ge_an 130 (pc := 121) (i := 69) rfl rfl (fun b121 => ?_) (fun b121 => ?_)
                          · skip
                            refine K_iconst (pc := 130) (i := 74) rfl ?_
                            refine K_iload_n (pc := 131) (i := 75) rfl rfl ?_
                            refine K_ishl (pc := 132) (i := 76) rfl ?_
                            refine K_nm (fun v132 e132 => ?_)
                            have r132 := kShl_R 1 x3
                            rw [← e132] at r132
                            refine K_ior (pc := 133) (i := 77) rfl ?_
                            refine K_nm (fun v133 e133 => ?_)
                            have r133 := kOr_R x1 v132
                            rw [← e133] at r133
                            refine K_ist_n (pc := 134) (i := 78) (lo' := [(0, _), (1, _), (2, _), (3, _)]) rfl rfl rfl rfl ?_
                            refine K_inc (pc := 135) (i := 79) (q := 3) (lo' := [(0, _), (1, _), (2, _), (3, _)]) rfl rfl rfl rfl rfl ?_
                            refine K_goto 49 (pc := 138) (i := 80) rfl rfl ?_
                            exact ih49 v133 (x3 + 1) (by omega) (by first | exact ⟨by omega, by omega, by omega, hV49.2.2.2.skip (by omega) (by omega) (fun q => q.1 (by rw [← w68, ← w77]; omega))⟩ | exact ⟨by omega, by omega, by omega, hV49.2.2.2.skip (by omega) (by omega) (fun q => q.2.1 (by rw [← w86, ← w92]; omega))⟩ | exact ⟨by omega, by omega, by omega, hV49.2.2.2.skip (by omega) (by omega) (fun q => r102.elim (fun e => absurd e.1 (by omega)) (fun e => e.2 q.2.2))⟩ | exact ⟨by omega, by omega, by omega, (by rw [e133, e126]; exact hV49.2.2.2.hit (by omega) (by omega) (by omega) ⟨by rw [← w68, ← w77]; omega, by rw [← w86, ← w92]; omega, r102.resolve_right (fun q => by omega) |>.2⟩ (by rw [lo_lt (by rw [← w114, ← w120]; omega)]; omega) (by omega))⟩ | exact ⟨by omega, by omega, by omega, (by rw [e133, e132]; exact hV49.2.2.2.hit (by omega) (by omega) (by omega) ⟨by rw [← w68, ← w77]; omega, by rw [← w86, ← w92]; omega, r102.resolve_right (fun q => by omega) |>.2⟩ (by rw [lo_ge (by rw [← w114, ← w120]; omega)]; omega) (by omega))⟩)
                          · skip
                            refine K_iconst (pc := 124) (i := 70) rfl ?_
                            refine K_iload_n (pc := 125) (i := 71) rfl rfl ?_
                            refine K_ishl (pc := 126) (i := 72) rfl ?_
                            refine K_nm (fun v126 e126 => ?_)
                            have r126 := kShl_R 1 x2
                            rw [← e126] at r126
                            refine K_goto 133 (pc := 127) (i := 73) rfl rfl ?_
                            refine K_ior (pc := 133) (i := 77) rfl ?_
                            refine K_nm (fun v133 e133 => ?_)
                            have r133 := kOr_R x1 v126
                            rw [← e133] at r133
                            refine K_ist_n (pc := 134) (i := 78) (lo' := [(0, _), (1, _), (2, _), (3, _)]) rfl rfl rfl rfl ?_
                            refine K_inc (pc := 135) (i := 79) (q := 3) (lo' := [(0, _), (1, _), (2, _), (3, _)]) rfl rfl rfl rfl rfl ?_
                            refine K_goto 49 (pc := 138) (i := 80) rfl rfl ?_
                            exact ih49 v133 (x3 + 1) (by omega) (by first | exact ⟨by omega, by omega, by omega, hV49.2.2.2.skip (by omega) (by omega) (fun q => q.1 (by rw [← w68, ← w77]; omega))⟩ | exact ⟨by omega, by omega, by omega, hV49.2.2.2.skip (by omega) (by omega) (fun q => q.2.1 (by rw [← w86, ← w92]; omega))⟩ | exact ⟨by omega, by omega, by omega, hV49.2.2.2.skip (by omega) (by omega) (fun q => r102.elim (fun e => absurd e.1 (by omega)) (fun e => e.2 q.2.2))⟩ | exact ⟨by omega, by omega, by omega, (by rw [e133, e126]; exact hV49.2.2.2.hit (by omega) (by omega) (by omega) ⟨by rw [← w68, ← w77]; omega, by rw [← w86, ← w92]; omega, r102.resolve_right (fun q => by omega) |>.2⟩ (by rw [lo_lt (by rw [← w114, ← w120]; omega)]; omega) (by omega))⟩ | exact ⟨by omega, by omega, by omega, (by rw [e133, e132]; exact hV49.2.2.2.hit (by omega) (by omega) (by omega) ⟨by rw [← w68, ← w77]; omega, by rw [← w86, ← w92]; omega, r102.resolve_right (fun q => by omega) |>.2⟩ (by rw [lo_ge (by rw [← w114, ← w120]; omega)]; omega) (by omega))⟩)
              exact L49 _ x1 (x2 + 1) (Nat.lt_succ_self _) ⟨by omega, by omega, by omega, hV34.2.2.start⟩
        exact L34 _ 0 0 (Nat.lt_succ_self _) ⟨by omega, by omega, CI.zero⟩
      · skip
        have en : ha (s + 3) 6 = h (s + 3) 6 := fx (s + 3) 6 (by first | (dsimp only; omega) | omega | exact not_false)
        refine K_aload_n (pc := 13) (i := 7) rfl rfl ?_
        refine K_getR (pc := 14) (i := 8) (j := 2) (d := s + 2) rfl (S_Sk hs) rfl (by decide) rfl fw_Sky_22 ?_
        refine K_iload_n (pc := 17) (i := 9) rfl rfl ?_
        refine K_aload_n (pc := 18) (i := 10) rfl rfl ?_
        refine K_iload_n (pc := 19) (i := 11) rfl rfl ?_
        refine K_cVI (pc := 20) (i := 12) rfl (c_Sky_edge G (s := s) (hs := hs) (x1 := x1) (hI := hI) (s1 := by omega)) (S_Sk hs) rfl (lv_Sky_84 rfl) rfl rfl rfl rfl rfl (fun v20 h20 q20 => ?_)
        obtain ⟨eh, r20⟩ := q20
        rw [eh]; clear eh
        have fy := fx
        refine K_iast (pc := 23) (i := 13) rfl (S_Sk2 hs) (by omega) (by omega) (by decide) ?_
        have hI := st_edges hI hs (i := (x1).toNat) (v := v20)
        have fx := Fx.st (c := s + 2) (i := (x1).toNat) (v := v20) fx (by first | (dsimp only; omega) | omega | exact not_false)
        have ed23 : ∀ k : Nat, (k : Int) < x1 + 1 → (kU ha (s + 2) ((x1).toNat) v20) (s + 2) k = eg h s k := fun k hk => if q : k = x1.toNat then (by rw [kU_at, if_pos ⟨rfl, q⟩, r20.2, q]; exact eg_of (fun c hc => fy.cell c (fun i => (by first | (dsimp only; omega) | omega | exact not_false))) _) else (by rw [kU_at, if_neg (by omega)]; exact hV2.2 k (by omega))
        refine K_inc (pc := 24) (i := 14) (q := 1) (lo' := [(0, _), (1, _)]) rfl rfl rfl rfl rfl ?_
        refine K_goto 2 (pc := 27) (i := 15) rfl rfl ?_
        exact ih2 (x1 + 1) _ (by omega) hI fx ⟨by omega, ed23⟩
  exact L2 _ 0 _ (Nat.lt_succ_self _) hI fx ⟨by omega, fun k hk => absurd hk (by omega)⟩
set_option maxHeartbeats 4000000 in
set_option maxRecDepth 100000 in
theorem c_Sky_blow (G : kG) {g : kGh} {h : kH} {s : Nat} (hs : s ∈ SK) (hI : Gd g h) : Ctr G y_Sky_blow X_Sky_blow 5 [.ref (G.2.2.2 s)] h (kQi (fun z h' => Fx (fun c i => s + 2 ≤ c ∧ c ≤ s + 9) h h' ∧ (Gd g h' ∧ kR z ∧ BLW h h' s z))) := by
  refine Ctr.ofK (by decide) rfl T_Sky_blow (Nat.le_of_ble_eq_true rfl) (lo := [(0, .ref (G.2.2.2 s))]) rfl ?_
  have fx : Fx (fun c i => s + 2 ≤ c ∧ c ≤ s + 9) h h := Fx.rf
  have n00 := rd_kites hI (sk_fl hs)
  refine K_iconst (pc := 0) (i := 0) rfl ?_
  refine K_ist_n (pc := 1) (i := 1) (lo' := [(0, _), (1, _)]) rfl rfl rfl rfl ?_
  have L2 : ∀ (n : Nat) (x1 : Int) (ha : kH), (8 - x1).toNat < n → (Gd g ha) → (Fx (fun c i => s + 2 ≤ c ∧ c ≤ s + 9) h ha) → ((0 ≤ x1 ∧ x1 ≤ 8) ∧ BX h ha s x1) → K X_Sky_blow G (kZm G 5 (kQi (fun z h' => Fx (fun c i => s + 2 ≤ c ∧ c ≤ s + 9) h h' ∧ (Gd g h' ∧ kR z ∧ BLW h h' s z)))) 2 [(0, .ref (G.2.2.2 s)), (1, kI x1)] [] ha := by
    intro n
    induction n with
    | zero => intro x1 ha hm; exact absurd hm (Nat.not_lt_zero _)
    | succ n ih2 =>
      intro x1 ha hm2 hI fx hV2
      refine K_iload_n (pc := 2) (i := 2) rfl rfl ?_
      refine K_aload_n (pc := 3) (i := 3) rfl rfl ?_
      refine K_getR (pc := 4) (i := 4) (j := 0) (d := s + 3) rfl (S_Sk hs) rfl (by decide) rfl fw_Sky_12 ?_
      refine K_getI (pc := 7) (i := 5) (j := 6) rfl (S_Fl (sk_fl hs)) rfl (by decide) rfl fw_Sky_61 ?_
      refine K_nm (fun v7 e7 => ?_)
      have r7 := rd_kites hI (sk_fl hs)
      rw [← e7] at r7
      have en7 : v7 = h (s + 3) 6 := by rw [e7, hV2.2.1 _ (by omega)]
      first | refine K_icmp_ge 50 (pc := 10) (i := 6) rfl rfl (by omega) (by omega) (fun b10 => ?_) (fun b10 => ?_) | refine K_icmp_ge_an 50 (pc := 10) (i := 6) rfl rfl (fun b10 => ?_) (fun b10 => ?_)
      · skip
        refine K_aload_n (pc := 50) (i := 26) rfl rfl ?_
        refine K_cVI (pc := 51) (i := 27) rfl (c_Sky_fight G (s := s) (hs := hs) (hI := hI)) (S_Sk hs) rfl (lv_Sky_71 rfl) rfl rfl rfl rfl rfl (fun v51 h51 q51 => ?_)
        obtain ⟨fx51, q51⟩ := q51
        obtain ⟨hI, r51, ct51⟩ := q51
        have fx := fx.tr fx51 (fun c i q => (by first | (dsimp only at q ⊢; omega) | omega))
        have f51 : ∀ c, c ≠ s + 2 → h51 c = ha c := fun c hc => fx51.cell c (fun i => (by first | (dsimp only; omega) | omega | exact not_false))
        have b51 := hV2.2
        have c51 : h (s + 3) 6 ≤ x1 := by omega
        refine K_ist_n (pc := 54) (i := 28) (lo' := [(0, _), (1, _)]) rfl rfl rfl rfl ?_
        refine K_iconst (pc := 55) (i := 29) rfl ?_
        refine K_ist_n (pc := 56) (i := 30) (lo' := [(0, _), (1, _), (2, _)]) rfl rfl rfl rfl ?_
        have L57 : ∀ (n : Nat) (x2 : Int) (ha : kH), (8 - x2).toNat < n → (Gd g ha) → (Fx (fun c i => s + 2 ≤ c ∧ c ≤ s + 9) h ha) → ((0 ≤ x2 ∧ x2 ≤ h (s + 3) 6) ∧ WN h51 ha (s + 3) v51 x2) → K X_Sky_blow G (kZm G 5 (kQi (fun z h' => Fx (fun c i => s + 2 ≤ c ∧ c ≤ s + 9) h h' ∧ (Gd g h' ∧ kR z ∧ BLW h h' s z)))) 57 [(0, .ref (G.2.2.2 s)), (1, kI v51), (2, kI x2)] [] ha := by
          intro n
          induction n with
          | zero => intro x2 ha hm; exact absurd hm (Nat.not_lt_zero _)
          | succ n ih57 =>
            intro x2 ha hm57 hI fx hV57
            refine K_iload_n (pc := 57) (i := 31) rfl rfl ?_
            refine K_aload_n (pc := 58) (i := 32) rfl rfl ?_
            refine K_getR (pc := 59) (i := 33) (j := 0) (d := s + 3) rfl (S_Sk hs) rfl (by decide) rfl fw_Sky_12 ?_
            refine K_getI (pc := 62) (i := 34) (j := 6) rfl (S_Fl (sk_fl hs)) rfl (by decide) rfl fw_Sky_61 ?_
            refine K_nm (fun v62 e62 => ?_)
            have r62 := rd_kites hI (sk_fl hs)
            rw [← e62] at r62
            have en62 : v62 = h (s + 3) 6 := by rw [e62, hV57.2.1 _ (by omega), f51 _ (by omega), b51.1 _ (by omega)]
            first | refine K_icmp_ge 105 (pc := 65) (i := 35) rfl rfl (by omega) (by omega) (fun b65 => ?_) (fun b65 => ?_) | refine K_icmp_ge_an 105 (pc := 65) (i := 35) rfl rfl (fun b65 => ?_) (fun b65 => ?_)
            · skip
              refine K_aload_n (pc := 105) (i := 59) rfl rfl ?_
              refine K_getR (pc := 106) (i := 60) (j := 0) (d := s + 3) rfl (S_Sk hs) rfl (by decide) rfl fw_Sky_12 ?_
              refine K_iload_n (pc := 109) (i := 61) rfl rfl ?_
              refine K_cVV (pc := 110) (i := 62) rfl (c_Fleet_drop G (f := s + 3) (hf := (sk_fl hs)) (x1 := v51) (hI := hI)) (S_Fl (sk_fl hs)) rfl (lv_Sky_80 rfl) rfl rfl rfl rfl rfl (fun h110 q110 => ?_)
              obtain ⟨fx110, q110⟩ := q110
              obtain ⟨hI, fd110⟩ := q110
              have fx := fx.tr fx110 (fun c i q => (by first | (dsimp only at q ⊢; omega) | omega))
              refine K_iload_n (pc := 113) (i := 63) rfl rfl ?_
              exact K_retI (pc := 114) (i := 64) rfl rfl ⟨fx, ⟨hI, by omega, BLW.mk b51 c51 ct51 f51 hV57.2 (by omega) fd110⟩⟩
            · skip
              refine K_iload_n (pc := 68) (i := 36) rfl rfl ?_
              refine K_iload_n (pc := 69) (i := 37) rfl rfl ?_
              refine K_ishr (pc := 70) (i := 38) rfl ?_
              refine K_nm (fun v70 e70 => ?_)
              have r70 := kShr_R v51 x2
              rw [← e70] at r70
              refine K_iconst (pc := 71) (i := 39) rfl ?_
              refine K_iand (pc := 72) (i := 40) rfl ?_
              refine K_nm (fun v72 e72 => ?_)
              have r72 := kAnd_1 v70
              rw [← e72] at r72
              have t72 : v72 = if tb v51 x2 then 1 else 0 := by rw [e72, e70]; exact kbit (by omega)
              first | refine K_if_eq 99 (pc := 73) (i := 41) rfl rfl (by omega) (fun b73 => ?_) (fun b73 => ?_) | refine K_if_eq_an 99 (pc := 73) (i := 41) rfl rfl (fun b73 => ?_) (fun b73 => ?_)
              · skip
                refine K_inc (pc := 99) (i := 57) (q := 2) (lo' := [(0, _), (1, _), (2, _)]) rfl rfl rfl rfl rfl ?_
                refine K_goto 57 (pc := 102) (i := 58) rfl rfl ?_
                exact ih57 (x2 + 1) _ (by omega) hI fx (by first | exact ⟨by omega, wn98⟩ | exact ⟨by omega, hV57.2.no (by omega) (tbf t72 (by omega))⟩)
              · skip
                refine K_aload_n (pc := 76) (i := 42) rfl rfl ?_
                refine K_getR (pc := 77) (i := 43) (j := 0) (d := s + 3) rfl (S_Sk hs) rfl (by decide) rfl fw_Sky_12 ?_
                refine K_getR (pc := 80) (i := 44) (j := 5) (d := s + 3 + 6) rfl (S_Fl (sk_fl hs)) rfl (by decide) rfl fw_Sky_74 ?_
                refine K_iconst (pc := 83) (i := 45) rfl ?_
                refine K_aload_n (pc := 84) (i := 46) rfl rfl ?_
                refine K_getR (pc := 85) (i := 47) (j := 0) (d := s + 3) rfl (S_Sk hs) rfl (by decide) rfl fw_Sky_12 ?_
                refine K_getR (pc := 88) (i := 48) (j := 0) (d := s + 3 + 1) rfl (S_Fl (sk_fl hs)) rfl (by decide) rfl fw_Sky_77 ?_
                refine K_iload_n (pc := 91) (i := 49) rfl rfl ?_
                refine K_iald (pc := 92) (i := 50) rfl (S_Fl1 (sk_fl hs)) (by omega) (by omega) (by decide) ?_
                refine K_nm (fun v92 e92 => ?_)
                have r92 := rd_town hI (sk_fl hs) (x2).toNat
                rw [← e92] at r92
                have w92 : v92 = h51 (s + 3 + 1) x2.toNat := by rw [e92, hV57.2.1 _ (by omega)]
                refine K_isub (pc := 93) (i := 51) rfl ?_
                refine K_dup2 (pc := 94) (i := 52) rfl rfl rfl ?_
                refine K_iald (pc := 95) (i := 53) rfl (S_Fl6 (sk_fl hs)) (by omega) (by omega) (by decide) ?_
                refine K_nm (fun v95 e95 => ?_)
                refine K_iconst (pc := 96) (i := 54) rfl ?_
                refine K_iadd (pc := 97) (i := 55) rfl ?_
                refine K_iast (pc := 98) (i := 56) rfl (S_Fl6 (sk_fl hs)) (by omega) (by omega) (by decide) ?_
                have hI := st_won hI (sk_fl hs) (i := (1 - v92).toNat) (v := v95 + 1)
                have fx := Fx.st (c := s + 3 + 6) (i := (1 - v92).toNat) (v := v95 + 1) fx (by first | (dsimp only; omega) | omega | exact not_false)
                have wn98 := WN.yes (l := (1 - v92).toNat) (w := v95 + 1) hV57.2 (by omega) (tbx t72 (by omega)) (by omega) (by omega) e95 rfl
                refine K_inc (pc := 99) (i := 57) (q := 2) (lo' := [(0, _), (1, _), (2, _)]) rfl rfl rfl rfl rfl ?_
                refine K_goto 57 (pc := 102) (i := 58) rfl rfl ?_
                exact ih57 (x2 + 1) _ (by omega) hI fx (by first | exact ⟨by omega, wn98⟩ | exact ⟨by omega, hV57.2.no (by omega) (tbf t72 (by omega))⟩)
        exact L57 _ 0 _ (Nat.lt_succ_self _) hI fx ⟨by omega, WN.z⟩
      · skip
        refine K_aload_n (pc := 13) (i := 7) rfl rfl ?_
        refine K_getR (pc := 14) (i := 8) (j := 0) (d := s + 3) rfl (S_Sk hs) rfl (by decide) rfl fw_Sky_12 ?_
        refine K_getR (pc := 17) (i := 9) (j := 2) (d := s + 3 + 3) rfl (S_Fl (sk_fl hs)) rfl (by decide) rfl fw_Sky_65 ?_
        refine K_iload_n (pc := 20) (i := 10) rfl rfl ?_
        refine K_aload_n (pc := 21) (i := 11) rfl rfl ?_
        refine K_aload_n (pc := 22) (i := 12) rfl rfl ?_
        refine K_getR (pc := 23) (i := 13) (j := 0) (d := s + 3) rfl (S_Sk hs) rfl (by decide) rfl fw_Sky_12 ?_
        refine K_getR (pc := 26) (i := 14) (j := 2) (d := s + 3 + 3) rfl (S_Fl (sk_fl hs)) rfl (by decide) rfl fw_Sky_65 ?_
        refine K_iload_n (pc := 29) (i := 15) rfl rfl ?_
        refine K_iald (pc := 30) (i := 16) rfl (S_Fl3 (sk_fl hs)) (by omega) (by omega) (by decide) ?_
        refine K_nm (fun v30 e30 => ?_)
        have r30 := rd_x hI (sk_fl hs) (x1).toNat
        rw [← e30] at r30
        refine K_aload_n (pc := 31) (i := 17) rfl rfl ?_
        refine K_getR (pc := 32) (i := 18) (j := 0) (d := s + 3) rfl (S_Sk hs) rfl (by decide) rfl fw_Sky_12 ?_
        refine K_getR (pc := 35) (i := 19) (j := 3) (d := s + 3 + 4) rfl (S_Fl (sk_fl hs)) rfl (by decide) rfl fw_Sky_38 ?_
        refine K_iload_n (pc := 38) (i := 20) rfl rfl ?_
        refine K_iald (pc := 39) (i := 21) rfl (S_Fl4 (sk_fl hs)) (by omega) (by omega) (by decide) ?_
        refine K_nm (fun v39 e39 => ?_)
        have r39 := rd_height hI (sk_fl hs) (x1).toNat
        rw [← e39] at r39
        refine K_cVI (pc := 40) (i := 22) rfl (c_Sky_blownX G (s := s) (hs := hs) (x1 := v30) (x2 := v39) (hI := hI) (s1 := by omega) (s2 := by omega)) (S_Sk hs) rfl (lv_Sky_68 rfl) rfl rfl rfl rfl rfl (fun v40 h40 q40 => ?_)
        obtain ⟨eh, r40⟩ := q40
        rw [eh]; clear eh
        have bx40 : v40 = blX h s x1.toNat := by unfold blX; rw [r40.2, e30, e39, hV2.2.1 (s + 1) (by omega), hV2.2.1 (s + 3 + 4) (by omega), hV2.2.2, if_neg (by omega)]
        refine K_iast (pc := 43) (i := 23) rfl (S_Fl3 (sk_fl hs)) (by omega) (by omega) (by decide) ?_
        have hI := st_x hI (sk_fl hs) (i := (x1).toNat) (v := v40) (by omega)
        have fx := Fx.st (c := s + 3 + 3) (i := (x1).toNat) (v := v40) fx (by first | (dsimp only; omega) | omega | exact not_false)
        have bx43 := BX.st hV2.2 (by omega) bx40
        refine K_inc (pc := 44) (i := 24) (q := 1) (lo' := [(0, _), (1, _)]) rfl rfl rfl rfl rfl ?_
        refine K_goto 2 (pc := 47) (i := 25) rfl rfl ?_
        exact ih2 (x1 + 1) _ (by omega) hI fx ⟨by omega, bx43⟩
  exact L2 _ 0 _ (Nat.lt_succ_self _) hI fx ⟨by omega, BX.z⟩
/-- gusts, one behind another -/
def BTW (s : Nat) : Nat → kH → kH → Prop
  | 0, h, h' => h' = h
  | m + 1, h, h' => ∃ (h1 : kH) (z : Int), BTW s m h h1 ∧ kR z ∧ BLW h1 h' s z ∧ h' (s + 1) = h1 (s + 1)
theorem cw_bd (b : Int) (tn : Nat → Int) (t : Int) : ∀ k : Nat, 0 ≤ cw b tn t k ∧ cw b tn t k ≤ k := by
  intro k
  induction k with
  | zero => exact ⟨Int.le_refl 0, Int.le_refl 0⟩
  | succ k ih => rw [cw]; split <;> omega
theorem BTW.bd {s : Nat} : ∀ {m : Nat} {h h' : kH}, 0 ≤ h (s + 3) 6 → h (s + 3) 6 ≤ 8 → BTW s m h h' → (0 ≤ h' (s + 3) 6 ∧ h' (s + 3) 6 ≤ 8) ∧ ∀ t : Nat, t < 2 → h (s + 3 + 6) t ≤ h' (s + 3 + 6) t ∧ h' (s + 3 + 6) t ≤ h (s + 3 + 6) t + 8 * m := by
  intro m
  induction m with
  | zero =>
    intro h h' h0 h8 a
    have e : h' = h := a
    rw [e]
    exact ⟨⟨h0, h8⟩, fun t _ => by omega⟩
  | succ m ih =>
    intro h h' h0 h8 a
    obtain ⟨h1, z, a1, -, ⟨hx, -, -, b1, -, b3⟩, -⟩ := a
    obtain ⟨c1, c2⟩ := ih h0 h8 a1
    have hk := kc_le (pB z) (h1 (s + 3) 6).toNat
    refine ⟨by rw [b1]; omega, fun t ht => ?_⟩
    have d1 := c2 t ht
    have d2 := cw_bd z (h1 (s + 3 + 1)) t (h1 (s + 3) 6).toNat
    rw [b3 t ht]
    omega
set_option maxHeartbeats 4000000 in
set_option maxRecDepth 100000 in
theorem c_Sky_blowTimes (G : kG) {g : kGh} {h : kH} {s : Nat} (hs : s ∈ SK){x1 : Int} (s1 : 0 ≤ x1 ∧ x1 ≤ 20) (hI : Gd g h) : Ctr G y_Sky_blowTimes X_Sky_blowTimes 6 [.ref (G.2.2.2 s), kI x1] h (kQv (fun h' => Fx (fun c i => s + 2 ≤ c ∧ c ≤ s + 9) h h' ∧ (Gd g h' ∧ BTW s x1.toNat h h'))) := by
  refine Ctr.ofK (by decide) rfl T_Sky_blowTimes (Nat.le_of_ble_eq_true rfl) (lo := [(0, .ref (G.2.2.2 s)), (1, kI x1)]) rfl ?_
  have fx : Fx (fun c i => s + 2 ≤ c ∧ c ≤ s + 9) h h := Fx.rf
  refine K_iconst (pc := 0) (i := 0) rfl ?_
  refine K_ist_n (pc := 1) (i := 1) (lo' := [(0, _), (1, _), (2, _)]) rfl rfl rfl rfl ?_
  have L2 : ∀ (n : Nat) (x2 : Int) (ha : kH), (20 - x2).toNat < n → (Gd g ha) → (Fx (fun c i => s + 2 ≤ c ∧ c ≤ s + 9) h ha) → ((0 ≤ x2 ∧ x2 ≤ x1) ∧ BTW s x2.toNat h ha) → K X_Sky_blowTimes G (kZm G 6 (kQv (fun h' => Fx (fun c i => s + 2 ≤ c ∧ c ≤ s + 9) h h' ∧ (Gd g h' ∧ BTW s x1.toNat h h')))) 2 [(0, .ref (G.2.2.2 s)), (1, kI x1), (2, kI x2)] [] ha := by
    intro n
    induction n with
    | zero => intro x2 ha hm; exact absurd hm (Nat.not_lt_zero _)
    | succ n ih2 =>
      intro x2 ha hm2 hI fx hV2
      refine K_iload_n (pc := 2) (i := 2) rfl rfl ?_
      refine K_iload_n (pc := 3) (i := 3) rfl rfl ?_
      first | refine K_icmp_ge 18 (pc := 4) (i := 4) rfl rfl (by omega) (by omega) (fun b4 => ?_) (fun b4 => ?_) | refine K_icmp_ge_an 18 (pc := 4) (i := 4) rfl rfl (fun b4 => ?_) (fun b4 => ?_)
      · skip
        exact K_retV (pc := 18) (i := 10) rfl rfl ⟨fx, ⟨hI, by have q := hV2.2; rwa [show x2 = x1 by omega] at q⟩⟩
      · skip
        refine K_aload_n (pc := 7) (i := 5) rfl rfl ?_
        refine K_cVI (pc := 8) (i := 6) rfl (c_Sky_blow G (s := s) (hs := hs) (hI := hI)) (S_Sk hs) rfl (lv_Sky_57 rfl) rfl rfl rfl rfl rfl (fun v8 h8 q8 => ?_)
        obtain ⟨fx8, q8⟩ := q8
        obtain ⟨hI, r8, bw8⟩ := q8
        have fx := fx.tr fx8 (fun c i q => (by first | (dsimp only at q ⊢; omega) | omega))
        refine K_pop (pc := 11) (i := 7) rfl rfl ?_
        refine K_inc (pc := 12) (i := 8) (q := 2) (lo' := [(0, _), (1, _), (2, _)]) rfl rfl rfl rfl rfl ?_
        refine K_goto 2 (pc := 15) (i := 9) rfl rfl ?_
        exact ih2 (x2 + 1) _ (by omega) hI fx ⟨by omega, by rw [show (x2 + 1).toNat = x2.toNat + 1 by omega]; exact ⟨_, _, hV2.2, r8, bw8, fx8.cell (s + 1) (fun i => (by first | (dsimp only; omega) | omega | exact not_false))⟩⟩
  exact L2 _ 0 _ (Nat.lt_succ_self _) hI fx ⟨by omega, rfl⟩
