def PM (h : kH) (t gl n : Int) (c : Nat) (v : Int) : Prop := ∃ (k0 k' : Nat → Int) (n' : Int) (d : Nat → Int), AK (h 187) k0 (h 184 4).toNat t ((c / 9 : Nat) : Int) (((c % 9 : Nat) : Int) + 1) gl ∧ MTK (h 188) n.toNat k0 (h 184 4 + 1) k' n' d ∧ v = d t.toNat - d (1 - t).toNat
theorem PM.mk {h hb h1 h2 h3 : kH} {t gl n s e l : Int} {c : Nat} (ec : ((c / 9 : Nat) : Int) = s) (ee : ((c % 9 : Nat) : Int) + 1 = e) (h0 : 0 ≤ h 184 4) (h7 : h 184 4 ≤ 7) (e4 : hb 184 4 = h 184 4) (ks : ∀ j : Nat, (j : Int) < 5 * h 184 4 → hb 187 j = h 187 j) (ak : AK (hb 187) (h1 187) (hb 184 4).toNat t s e gl) (cp : ∀ j : Nat, j < 40 → h2 187 (40 + j) = h1 187 j) (ew : h2 188 = h 188) (hl : l = h 184 4 + 1) (mt : ∃ (k' : Nat → Int) (n' : Int), MTK (h2 188) n.toNat (kap h2 40) l k' n' (h3 192)) : PM h t gl n c (h3 192 t.toNat - h3 192 (1 - t).toNat) := by
  subst ec; subst ee; subst hl
  obtain ⟨k', n', mt⟩ := mt
  rw [ew] at mt
  rw [e4] at ak
  obtain ⟨a0, a1, a2, a3, a4, a5⟩ := ak
  have kp : ∀ j, j < 40 → kap h2 40 j = h1 187 j := fun j hj => cp j hj
  refine ⟨kap h2 40, k', n', h3 192, ⟨fun j hj => ?_, ?_, ?_, ?_, ?_, ?_⟩, mt, rfl⟩
  · rw [kp j (by omega), a0 j hj]; exact ks j (by omega)
  · rw [kp _ (by omega)]; exact a1
  · rw [kp _ (by omega)]; exact a2
  · rw [kp _ (by omega)]; exact a3
  · rw [kp _ (by omega)]; exact a4
  · rw [kp _ (by omega)]; exact a5
def CMtoLaunch (h : kH) (t gl n z : Int) : Prop := (¬ ((0 ≤ t ∧ t ≤ 1) ∧ (0 ≤ gl ∧ gl ≤ 9) ∧ 1 ≤ n ∧ n ≤ 5) ∧ z = -2) ∨ (((0 ≤ t ∧ t ≤ 1) ∧ (0 ≤ gl ∧ gl ≤ 9) ∧ 1 ≤ n ∧ n ≤ 5) ∧ h 184 4 = 8 ∧ z = -4) ∨ (((0 ≤ t ∧ t ≤ 1) ∧ (0 ≤ gl ∧ gl ≤ 9) ∧ 1 ≤ n ∧ n ≤ 5) ∧ h 184 4 ≤ 7 ∧ ∃ m : Int, TLR (PM h t gl n) (fun s => ¬ hsM h s) (-99) (-9) 369 m z)
theorem hsM.of {h hb : kH} {x : Int} (e4 : hb 184 4 = h 184 4) (ks : ∀ j : Nat, (j : Int) < 5 * h 184 4 → hb 187 j = h 187 j) : hsM hb x ↔ hsM h x := by
  unfold hsM
  rw [e4]
  constructor
  · rintro ⟨i, a, b⟩
    exact ⟨i, a, by rw [← ks _ (by omega)]; exact b⟩
  · rintro ⟨i, a, b⟩
    exact ⟨i, a, by rw [ks _ (by omega)]; exact b⟩
set_option maxHeartbeats 4000000 in
set_option maxRecDepth 100000 in
theorem c_Model_toLaunch (G : kG) {g : kGh} {h : kH}  (hT : g.2.2.2.2){x1 : Int} {x2 : Int} {x3 : Int} (s1 : kR x1) (s2 : kR x2) (s3 : kR x3) (hI : Gd g h) : Ctr G y_Model_toLaunch X_Model_toLaunch 13 [.ref (G.2.2.2 184), kI x1, kI x2, kI x3] h (kQi (fun z h' => Fx (fun c i => c = 187 ∨ c = 192 ∨ (c = 184 ∧ i = 4)) h h' ∧ (Gd g h' ∧ (h' 184 4 = h 184 4 ∧ (∀ j : Nat, (j : Int) < 5 * h 184 4 → h' 187 j = h 187 j)) ∧ CMtoLaunch h x1 x2 x3 z))) := by
  refine Ctr.ofK (by decide) rfl T_Model_toLaunch (Nat.le_of_ble_eq_true rfl) (lo := [(0, .ref (G.2.2.2 184)), (1, kI x1), (2, kI x2), (3, kI x3)]) rfl ?_
  have fx : Fx (fun c i => c = 187 ∨ c = 192 ∨ (c = 184 ∧ i = 4)) h h := Fx.rf
  have hm8 := rd_many hI
  refine K_iload_n (pc := 0) (i := 0) rfl rfl ?_
  refine K_i2l (pc := 1) (i := 1) rfl ?_
  refine K_eqJ (kI2l_eq (a := x1) (by omega)) ?_
  refine K_lconst 0 (pc := 2) (i := 2) rfl rfl ?_
  refine K_lconst 1 (pc := 3) (i := 3) rfl rfl ?_
  refine K_cSI (pc := 4) (i := 4) rfl (c_Model_in G (l0 := x1) (l2 := 0) (l4 := 1) (s0 := by omega) (s2 := by omega) (s4 := by omega)) (ls_Model_65 rfl) rfl rfl rfl rfl (fun v4 h4 q4 => ?_)
  obtain ⟨eh, r4⟩ := q4
  rw [eh]; clear eh
  first | refine K_if_eq 34 (pc := 7) (i := 5) rfl rfl (by omega) (fun b7 => ?_) (fun b7 => ?_) | refine K_if_eq_an 34 (pc := 7) (i := 5) rfl rfl (fun b7 => ?_) (fun b7 => ?_)
  · skip
    refine K_bipush (pc := 34) (i := 18) rfl rfl ?_
    exact K_retI (pc := 36) (i := 19) rfl rfl ⟨fx, ⟨hI, ⟨rfl, fun _ _ => rfl⟩, Or.inl ⟨by omega, rfl⟩⟩⟩
  · skip
    refine K_iload_n (pc := 10) (i := 6) rfl rfl ?_
    refine K_i2l (pc := 11) (i := 7) rfl ?_
    refine K_eqJ (kI2l_eq (a := x2) (by omega)) ?_
    refine K_lconst 0 (pc := 12) (i := 8) rfl rfl ?_
    refine K_ldc2 (9) (pc := 13) (i := 9) rfl cl_Model_80 (by decide) ?_
    refine K_cSI (pc := 16) (i := 10) rfl (c_Model_in G (l0 := x2) (l2 := 0) (l4 := 9) (s0 := by omega) (s2 := by omega) (s4 := by omega)) (ls_Model_65 rfl) rfl rfl rfl rfl (fun v16 h16 q16 => ?_)
    obtain ⟨eh, r16⟩ := q16
    rw [eh]; clear eh
    first | refine K_if_eq 34 (pc := 19) (i := 11) rfl rfl (by omega) (fun b19 => ?_) (fun b19 => ?_) | refine K_if_eq_an 34 (pc := 19) (i := 11) rfl rfl (fun b19 => ?_) (fun b19 => ?_)
    · skip
      refine K_bipush (pc := 34) (i := 18) rfl rfl ?_
      exact K_retI (pc := 36) (i := 19) rfl rfl ⟨fx, ⟨hI, ⟨rfl, fun _ _ => rfl⟩, Or.inl ⟨by omega, rfl⟩⟩⟩
    · skip
      refine K_iload_n (pc := 22) (i := 12) rfl rfl ?_
      refine K_i2l (pc := 23) (i := 13) rfl ?_
      refine K_eqJ (kI2l_eq (a := x3) (by omega)) ?_
      refine K_lconst 1 (pc := 24) (i := 14) rfl rfl ?_
      refine K_ldc2 (5) (pc := 25) (i := 15) rfl cl_Model_190 (by decide) ?_
      refine K_cSI (pc := 28) (i := 16) rfl (c_Model_in G (l0 := x3) (l2 := 1) (l4 := 5) (s0 := by omega) (s2 := by omega) (s4 := by omega)) (ls_Model_65 rfl) rfl rfl rfl rfl (fun v28 h28 q28 => ?_)
      obtain ⟨eh, r28⟩ := q28
      rw [eh]; clear eh
      first | refine K_if_ne 37 (pc := 31) (i := 17) rfl rfl (by omega) (fun b31 => ?_) (fun b31 => ?_) | refine K_if_ne_an 37 (pc := 31) (i := 17) rfl rfl (fun b31 => ?_) (fun b31 => ?_)
      · skip
        refine K_aload_n (pc := 37) (i := 20) rfl rfl ?_
        refine K_getI (pc := 38) (i := 21) (j := 4) rfl S_184 rfl (by decide) rfl fw_Model_59 ?_
        refine K_nm (fun v38 e38 => ?_)
        have r38 := rd_many hI
        rw [← e38] at r38
        refine K_bipush (pc := 41) (i := 22) rfl rfl ?_
        first | refine K_icmp_ne 49 (pc := 43) (i := 23) rfl rfl (by omega) (by omega) (fun b43 => ?_) (fun b43 => ?_) | refine K_icmp_ne_an 49 (pc := 43) (i := 23) rfl rfl (fun b43 => ?_) (fun b43 => ?_)
        · skip
          refine K_bipush (pc := 49) (i := 26) rfl rfl ?_
          refine K_ist (pc := 51) (i := 27) (lo' := [(0, _), (1, _), (2, _), (3, _), (4, _)]) rfl rfl rfl rfl ?_
          refine K_bipush (pc := 53) (i := 28) rfl rfl ?_
          refine K_ist (pc := 55) (i := 29) (lo' := [(0, _), (1, _), (2, _), (3, _), (4, _), (5, _)]) rfl rfl rfl rfl ?_
          refine K_iconst (pc := 57) (i := 30) rfl ?_
          refine K_ist (pc := 58) (i := 31) (lo' := [(0, _), (1, _), (2, _), (3, _), (4, _), (5, _), (6, _)]) rfl rfl rfl rfl ?_
          have L60 : ∀ (n : Nat) (x4 : Int) (x5 : Int) (x6 : Int) (ha : kH), (41 - x6).toNat < n → (Gd g ha) → (Fx (fun c i => c = 187 ∨ c = 192 ∨ (c = 184 ∧ i = 4)) h ha) → ((0 ≤ x6 ∧ x6 ≤ 41) ∧ (-100 ≤ x5 ∧ x5 ≤ 100) ∧ (ha 184 4 = h 184 4 ∧ (∀ j : Nat, (j : Int) < 5 * h 184 4 → ha 187 j = h 187 j)) ∧ TLR (PM h x1 x2 x3) (fun s => ¬ hsM h s) (-99) (-9) (9 * x6.toNat) x5 x4) → K X_Model_toLaunch G (kZm G 13 (kQi (fun z h' => Fx (fun c i => c = 187 ∨ c = 192 ∨ (c = 184 ∧ i = 4)) h h' ∧ (Gd g h' ∧ (h' 184 4 = h 184 4 ∧ (∀ j : Nat, (j : Int) < 5 * h 184 4 → h' 187 j = h 187 j)) ∧ CMtoLaunch h x1 x2 x3 z)))) 60 [(0, .ref (G.2.2.2 184)), (1, kI x1), (2, kI x2), (3, kI x3), (4, kI x4), (5, kI x5), (6, kI x6)] [] ha := by
            intro n
            induction n with
            | zero => intro x4 x5 x6 ha hm; exact absurd hm (Nat.not_lt_zero _)
            | succ n ih60 =>
              intro x4 x5 x6 ha hm60 hI fx hV60
              refine K_iload (pc := 60) (i := 32) rfl rfl ?_
              refine K_bipush (pc := 62) (i := 33) rfl rfl ?_
              first | refine K_icmp_ge 186 (pc := 64) (i := 34) rfl rfl (by omega) (by omega) (fun b64 => ?_) (fun b64 => ?_) | refine K_icmp_ge_an 186 (pc := 64) (i := 34) rfl rfl (fun b64 => ?_) (fun b64 => ?_)
              · skip
                refine K_iload (pc := 186) (i := 97) rfl rfl ?_
                exact K_retI (pc := 188) (i := 98) rfl rfl ⟨fx, ⟨hI, hV60.2.2.1, Or.inr (Or.inr ⟨by omega, by omega, x5, by have q := hV60.2.2.2; rwa [show x6.toNat = 41 by omega] at q⟩)⟩⟩
              · skip
                refine K_iconst (pc := 67) (i := 35) rfl ?_
                refine K_ist (pc := 68) (i := 36) (lo' := [(0, _), (1, _), (2, _), (3, _), (4, _), (5, _), (6, _), (7, _)]) rfl rfl rfl rfl ?_
                have L70 : ∀ (n : Nat) (x4b : Int) (x5b : Int) (x7b : Int) (hb : kH), (10 - x7b).toNat < n → (Gd g hb) → (Fx (fun c i => c = 187 ∨ c = 192 ∨ (c = 184 ∧ i = 4)) h hb) → ((1 ≤ x7b ∧ x7b ≤ 10) ∧ (-100 ≤ x5b ∧ x5b ≤ 100) ∧ (hb 184 4 = h 184 4 ∧ (∀ j : Nat, (j : Int) < 5 * h 184 4 → hb 187 j = h 187 j)) ∧ TLR (PM h x1 x2 x3) (fun s => ¬ hsM h s) (-99) (-9) (9 * x6.toNat + (x7b - 1).toNat) x5b x4b) → K X_Model_toLaunch G (kZm G 13 (kQi (fun z h' => Fx (fun c i => c = 187 ∨ c = 192 ∨ (c = 184 ∧ i = 4)) h h' ∧ (Gd g h' ∧ (h' 184 4 = h 184 4 ∧ (∀ j : Nat, (j : Int) < 5 * h 184 4 → h' 187 j = h 187 j)) ∧ CMtoLaunch h x1 x2 x3 z)))) 70 [(0, .ref (G.2.2.2 184)), (1, kI x1), (2, kI x2), (3, kI x3), (4, kI x4b), (5, kI x5b), (6, kI x6), (7, kI x7b)] [] hb := by
                  intro n
                  induction n with
                  | zero => intro x4b x5b x7b hb hm; exact absurd hm (Nat.not_lt_zero _)
                  | succ n ih70 =>
                    intro x4b x5b x7b hb hm70 hI fx hV70
                    refine K_iload (pc := 70) (i := 37) rfl rfl ?_
                    refine K_bipush (pc := 72) (i := 38) rfl rfl ?_
                    first | refine K_icmp_ge 180 (pc := 74) (i := 39) rfl rfl (by omega) (by omega) (fun b74 => ?_) (fun b74 => ?_) | refine K_icmp_ge_an 180 (pc := 74) (i := 39) rfl rfl (fun b74 => ?_) (fun b74 => ?_)
                    · skip
                      refine K_inc (pc := 180) (i := 95) (q := 6) (lo' := [(0, _), (1, _), (2, _), (3, _), (4, _), (5, _), (6, _), (7, _)]) rfl rfl rfl rfl rfl ?_
                      refine K_goto 60 (pc := 183) (i := 96) rfl rfl ?_
                      refine K_drop (lo' := [(0, .ref (G.2.2.2 184)), (1, kI x1), (2, kI x2), (3, kI x3), (4, kI x4b), (5, kI x5b), (6, kI (x6 + 1))]) [0, 1, 2, 3, 4, 5, 6] rfl ?_
                      exact ih60 x4b x5b (x6 + 1) _ (by omega) hI fx (by first | exact ⟨by omega, by omega, hV70.2.2.1, by rw [show 9 * (x6 + 1).toNat = 9 * x6.toNat + (x7b - 1).toNat by omega]; exact hV70.2.2.2⟩ | exact ⟨by omega, by omega, hV70.2.2.1, by rw [show 9 * (x6 + 1).toNat = 9 * x6.toNat + 9 by omega]; exact TLR.skip2 (fun q => q (by rw [show ((x6.toNat : Nat) : Int) = x6 by omega]; exact r80.elim (fun e => e.2) (fun e => absurd e.1 (by omega)))) (by omega) hV70.2.2.2⟩)
                    · skip
                      refine K_aload_n (pc := 77) (i := 40) rfl rfl ?_
                      refine K_iload (pc := 78) (i := 41) rfl rfl ?_
                      refine K_cVI (pc := 80) (i := 42) rfl (c_Model_isStake G (x1 := x6) (hk := (hI.2.2.2.2.2 hT).1) (hI := hI) (s1 := by omega)) S_184 rfl (lv_Model_126 rfl) rfl rfl rfl rfl rfl (fun v80 h80 q80 => ?_)
                      obtain ⟨eh, r80⟩ := q80
                      rw [eh]; clear eh
                      rw [hsM.of hV70.2.2.1.1 hV70.2.2.1.2] at r80
                      have k80 : v80 = 0 ∨ v80 = 1 := r80.elim (fun q => Or.inr q.1) (fun q => Or.inl q.1)
                      first | refine K_if_ne 180 (pc := 83) (i := 43) rfl rfl (by omega) (fun b83 => ?_) (fun b83 => ?_) | refine K_if_ne_an 180 (pc := 83) (i := 43) rfl rfl (fun b83 => ?_) (fun b83 => ?_)
                      · skip
                        refine K_inc (pc := 180) (i := 95) (q := 6) (lo' := [(0, _), (1, _), (2, _), (3, _), (4, _), (5, _), (6, _), (7, _)]) rfl rfl rfl rfl rfl ?_
                        refine K_goto 60 (pc := 183) (i := 96) rfl rfl ?_
                        refine K_drop (lo' := [(0, .ref (G.2.2.2 184)), (1, kI x1), (2, kI x2), (3, kI x3), (4, kI x4b), (5, kI x5b), (6, kI (x6 + 1))]) [0, 1, 2, 3, 4, 5, 6] rfl ?_
                        exact ih60 x4b x5b (x6 + 1) _ (by omega) hI fx (by first | exact ⟨by omega, by omega, hV70.2.2.1, by rw [show 9 * (x6 + 1).toNat = 9 * x6.toNat + (x7b - 1).toNat by omega]; exact hV70.2.2.2⟩ | exact ⟨by omega, by omega, hV70.2.2.1, by rw [show 9 * (x6 + 1).toNat = 9 * x6.toNat + 9 by omega]; exact TLR.skip2 (fun q => q (by rw [show ((x6.toNat : Nat) : Int) = x6 by omega]; exact r80.elim (fun e => e.2) (fun e => absurd e.1 (by omega)))) (by omega) hV70.2.2.2⟩)
                      · skip
                        have fr86 : ¬ hsM h (((9 * x6.toNat + (x7b - 1).toNat) / 9 : Nat) : Int) := by rw [show (((9 * x6.toNat + (x7b - 1).toNat) / 9 : Nat) : Int) = x6 by omega]; exact r80.elim (fun q => absurd q.1 (by omega)) (fun q => q.2)
                        have nf86 : ¬ hsM hb x6 := fun q => fr86 (by rw [show (((9 * x6.toNat + (x7b - 1).toNat) / 9 : Nat) : Int) = x6 by omega]; exact (hsM.of hV70.2.2.1.1 hV70.2.2.1.2).1 q)
                        refine K_aload_n (pc := 86) (i := 44) rfl rfl ?_
                        refine K_iload_n (pc := 87) (i := 45) rfl rfl ?_
                        refine K_iload (pc := 88) (i := 46) rfl rfl ?_
                        refine K_iload (pc := 90) (i := 47) rfl rfl ?_
                        refine K_iload_n (pc := 92) (i := 48) rfl rfl ?_
                        refine K_cVV (pc := 93) (i := 49) rfl (c_Model_add G (x1 := x1) (x2 := x6) (x3 := x7b) (x4 := x2) (hm := by rw [hV70.2.2.1.1]; omega) (hf := nf86) (hI := hI) (s1 := by omega) (s2 := by omega) (s3 := by omega) (s4 := by omega)) S_184 rfl (lv_Model_129 rfl) rfl rfl rfl rfl rfl (fun h93 q93 => ?_)
                        obtain ⟨fx93, q93⟩ := q93
                        obtain ⟨hI, ad93, ak93⟩ := q93
                        have fx := fx.tr fx93 (fun c i q => (by first | (dsimp only at q ⊢; omega) | omega))
                        have hJ := hI
                        refine K_aload_n (pc := 96) (i := 50) rfl rfl ?_
                        refine K_cVV (pc := 97) (i := 51) rfl (c_Model_copy G (hI := hI)) S_184 rfl (lv_Model_165 rfl) rfl rfl rfl rfl rfl (fun h97 q97 => ?_)
                        obtain ⟨fx97, q97⟩ := q97
                        obtain ⟨hI, cp97⟩ := q97
                        have fx := fx.tr fx97 (fun c i q => (by first | (dsimp only at q ⊢; omega) | omega))
                        have fk97 : FK (kap h97 40) (h97 184 4) := by rw [fx97 184 4 (by first | (dsimp only; omega) | omega | exact not_false)]; exact FK.copy (hJ.2.2.2.2.2 hT).1 (rd_many hJ).2 cp97
                        have t97 : h97 184 4 = h 184 4 + 1 := by rw [fx97 184 4 (by first | (dsimp only; omega) | omega | exact not_false), ad93, hV70.2.2.1.1]
                        have w97 : h97 188 = h 188 := fx.cell 188 (fun i => (by first | (dsimp only; omega) | omega))
                        refine K_aload_n (pc := 100) (i := 52) rfl rfl ?_
                        refine K_aload_n (pc := 101) (i := 53) rfl rfl ?_
                        refine K_getI (pc := 102) (i := 54) (j := 4) rfl S_184 rfl (by decide) rfl fw_Model_59 ?_
                        refine K_nm (fun v102 e102 => ?_)
                        have r102 := rd_many hI
                        rw [← e102] at r102
                        refine K_iload_n (pc := 105) (i := 55) rfl rfl ?_
                        refine K_cVV (pc := 106) (i := 56) rfl (c_Model_blowAll G (x1 := v102) (x2 := x3) (hk := by rw [e102]; exact fk97) (hI := hI) (s1 := by omega) (s2 := by omega)) S_184 rfl (lv_Model_168 rfl) rfl rfl rfl rfl rfl (fun h106 q106 => ?_)
                        obtain ⟨fx106, q106⟩ := q106
                        obtain ⟨hI, ga106, mt106⟩ := q106
                        have fx := fx.tr fx106 (fun c i q => (by first | (dsimp only at q ⊢; omega) | omega))
                        refine K_aload_n (pc := 109) (i := 57) rfl rfl ?_
                        refine K_dup (pc := 110) (i := 58) rfl rfl ?_
                        refine K_getI (pc := 111) (i := 59) (j := 4) rfl S_184 rfl (by decide) rfl fw_Model_59 ?_
                        refine K_nm (fun v111 e111 => ?_)
                        have r111 := rd_many hI
                        rw [← e111] at r111
                        have t111 : v111 = h 184 4 + 1 := by rw [e111, fx106 184 4 (by first | (dsimp only; omega) | omega | exact not_false), t97]
                        refine K_iconst (pc := 114) (i := 60) rfl ?_
                        refine K_isub (pc := 115) (i := 61) rfl ?_
                        refine K_putI (pc := 116) (i := 62) (j := 4) rfl S_184 rfl (by decide) rfl rfl rfl fw_Model_59 ?_
                        have hI := st_many hI (v := v111 - 1) (by omega) (fun _ a => a.many (by omega))
                        have fx := Fx.st (c := 184) (i := 4) (v := v111 - 1) fx (by first | (dsimp only; omega) | omega | exact not_false)
                        have t116 : (kU h106 184 4 (v111 - 1)) 184 4 = h 184 4 := by rw [kU_at, if_pos ⟨rfl, rfl⟩]; omega
                        have s116 : ∀ j : Nat, (j : Int) < 5 * h 184 4 → (kU h106 184 4 (v111 - 1)) 187 j = h 187 j := fun j hj => by rw [kU_c _ _ _ _ (by decide), fx106 187 j (by first | (dsimp only; omega) | omega | exact not_false), fx97 187 j (by first | (dsimp only; omega) | omega | exact not_false), ak93.1 j (by rw [hV70.2.2.1.1]; omega)]; exact hV70.2.2.1.2 j hj
                        refine K_aload_n (pc := 119) (i := 63) rfl rfl ?_
                        refine K_getR (pc := 120) (i := 64) (j := 14) (d := 192) rfl S_184 rfl (by decide) rfl fw_Model_31 ?_
                        refine K_iload_n (pc := 123) (i := 65) rfl rfl ?_
                        refine K_iald (pc := 124) (i := 66) rfl S_192 (by omega) (by omega) (by decide) ?_
                        refine K_nm (fun v124 e124 => ?_)
                        have y124 : v124 = h106 192 x1.toNat := by rw [e124, kU_c _ _ _ _ (by decide)]
                        have u124 := ga106 x1.toNat (by omega)
                        rw [← y124] at u124
                        refine K_aload_n (pc := 125) (i := 67) rfl rfl ?_
                        refine K_getR (pc := 126) (i := 68) (j := 14) (d := 192) rfl S_184 rfl (by decide) rfl fw_Model_31 ?_
                        refine K_iconst (pc := 129) (i := 69) rfl ?_
                        refine K_iload_n (pc := 130) (i := 70) rfl rfl ?_
                        refine K_isub (pc := 131) (i := 71) rfl ?_
                        refine K_iald (pc := 132) (i := 72) rfl S_192 (by omega) (by omega) (by decide) ?_
                        refine K_nm (fun v132 e132 => ?_)
                        have y132 : v132 = h106 192 (1 - x1).toNat := by rw [e132, kU_c _ _ _ _ (by decide)]
                        have u132 := ga106 (1 - x1).toNat (by omega)
                        rw [← y132] at u132
                        have pm132 := PM.mk (c := 9 * x6.toNat + (x7b - 1).toNat) (n := x3) (h3 := h106) (by omega) (by omega) hm8.1 (by omega) hV70.2.2.1.1 hV70.2.2.1.2 ak93 cp97 w97 (by rw [e102, t97]) mt106
                        rw [← y124, ← y132] at pm132
                        refine K_isub (pc := 133) (i := 73) rfl ?_
                        refine K_ist (pc := 134) (i := 74) (lo' := [(0, _), (1, _), (2, _), (3, _), (4, _), (5, _), (6, _), (7, _), (8, _)]) rfl rfl rfl rfl ?_
                        refine K_iload (pc := 136) (i := 75) rfl rfl ?_
                        refine K_iload (pc := 138) (i := 76) rfl rfl ?_
                        first | refine K_icmp_le 154 (pc := 140) (i := 77) rfl rfl (by omega) (by omega) (fun b140 => ?_) (fun b140 => ?_) | refine K_icmp_le_an 154 (pc := 140) (i := 77) rfl rfl (fun b140 => ?_) (fun b140 => ?_)
                        · skip
                          refine K_iload (pc := 154) (i := 84) rfl rfl ?_
                          refine K_ist (pc := 156) (i := 85) (lo' := [(0, _), (1, _), (2, _), (3, _), (4, _), (5, _), (6, _), (7, _), (8, _)]) rfl rfl rfl rfl ?_
                          refine K_iload (pc := 158) (i := 86) rfl rfl ?_
                          refine K_iload (pc := 160) (i := 87) rfl rfl ?_
                          first | refine K_icmp_le 170 (pc := 162) (i := 88) rfl rfl (by omega) (by omega) (fun b162 => ?_) (fun b162 => ?_) | refine K_icmp_le_an 170 (pc := 162) (i := 88) rfl rfl (fun b162 => ?_) (fun b162 => ?_)
                          · skip
                            refine K_iload (pc := 170) (i := 91) rfl rfl ?_
                            refine K_ist (pc := 172) (i := 92) (lo' := [(0, _), (1, _), (2, _), (3, _), (4, _), (5, _), (6, _), (7, _), (8, _)]) rfl rfl rfl rfl ?_
                            refine K_inc (pc := 174) (i := 93) (q := 7) (lo' := [(0, _), (1, _), (2, _), (3, _), (4, _), (5, _), (6, _), (7, _), (8, _)]) rfl rfl rfl rfl rfl ?_
                            refine K_goto 70 (pc := 177) (i := 94) rfl rfl ?_
                            refine K_drop (lo' := [(0, .ref (G.2.2.2 184)), (1, kI x1), (2, kI x2), (3, kI x3), (4, kI x4b), (5, kI x5b), (6, kI x6), (7, kI (x7b + 1))]) [0, 1, 2, 3, 4, 5, 6, 7] rfl ?_
                            exact ih70 x4b x5b (x7b + 1) _ (by omega) hI fx (by first | exact ⟨by omega, by omega, ⟨t116, s116⟩, by rw [show 9 * x6.toNat + (x7b + 1 - 1).toNat = (9 * x6.toNat + (x7b - 1).toNat) + 1 by omega]; exact hV70.2.2.2.gt fr86 pm132 (by omega) (by omega)⟩ | exact ⟨by omega, by omega, ⟨t116, s116⟩, by rw [show 9 * x6.toNat + (x7b + 1 - 1).toNat = (9 * x6.toNat + (x7b - 1).toNat) + 1 by omega]; exact hV70.2.2.2.le fr86 pm132 (by omega)⟩ | exact False.elim (by omega))
                          · skip
                            refine K_iload (pc := 165) (i := 89) rfl rfl ?_
                            refine K_goto 172 (pc := 167) (i := 90) rfl rfl ?_
                            refine K_ist (pc := 172) (i := 92) (lo' := [(0, _), (1, _), (2, _), (3, _), (4, _), (5, _), (6, _), (7, _), (8, _)]) rfl rfl rfl rfl ?_
                            refine K_inc (pc := 174) (i := 93) (q := 7) (lo' := [(0, _), (1, _), (2, _), (3, _), (4, _), (5, _), (6, _), (7, _), (8, _)]) rfl rfl rfl rfl rfl ?_
                            refine K_goto 70 (pc := 177) (i := 94) rfl rfl ?_
                            refine K_drop (lo' := [(0, .ref (G.2.2.2 184)), (1, kI x1), (2, kI x2), (3, kI x3), (4, kI x4b), (5, kI (v124 - v132)), (6, kI x6), (7, kI (x7b + 1))]) [0, 1, 2, 3, 4, 5, 6, 7] rfl ?_
                            exact ih70 x4b (v124 - v132) (x7b + 1) _ (by omega) hI fx (by first | exact ⟨by omega, by omega, ⟨t116, s116⟩, by rw [show 9 * x6.toNat + (x7b + 1 - 1).toNat = (9 * x6.toNat + (x7b - 1).toNat) + 1 by omega]; exact hV70.2.2.2.gt fr86 pm132 (by omega) (by omega)⟩ | exact ⟨by omega, by omega, ⟨t116, s116⟩, by rw [show 9 * x6.toNat + (x7b + 1 - 1).toNat = (9 * x6.toNat + (x7b - 1).toNat) + 1 by omega]; exact hV70.2.2.2.le fr86 pm132 (by omega)⟩ | exact False.elim (by omega))
                        · skip
                          refine K_bipush (pc := 143) (i := 78) rfl rfl ?_
                          refine K_iload (pc := 145) (i := 79) rfl rfl ?_
                          refine K_imul (pc := 147) (i := 80) rfl ?_
                          refine K_iload (pc := 148) (i := 81) rfl rfl ?_
                          refine K_iadd (pc := 150) (i := 82) rfl ?_
                          refine K_goto 156 (pc := 151) (i := 83) rfl rfl ?_
                          refine K_ist (pc := 156) (i := 85) (lo' := [(0, _), (1, _), (2, _), (3, _), (4, _), (5, _), (6, _), (7, _), (8, _)]) rfl rfl rfl rfl ?_
                          refine K_iload (pc := 158) (i := 86) rfl rfl ?_
                          refine K_iload (pc := 160) (i := 87) rfl rfl ?_
                          first | refine K_icmp_le 170 (pc := 162) (i := 88) rfl rfl (by omega) (by omega) (fun b162 => ?_) (fun b162 => ?_) | refine K_icmp_le_an 170 (pc := 162) (i := 88) rfl rfl (fun b162 => ?_) (fun b162 => ?_)
                          · skip
                            refine K_iload (pc := 170) (i := 91) rfl rfl ?_
                            refine K_ist (pc := 172) (i := 92) (lo' := [(0, _), (1, _), (2, _), (3, _), (4, _), (5, _), (6, _), (7, _), (8, _)]) rfl rfl rfl rfl ?_
                            refine K_inc (pc := 174) (i := 93) (q := 7) (lo' := [(0, _), (1, _), (2, _), (3, _), (4, _), (5, _), (6, _), (7, _), (8, _)]) rfl rfl rfl rfl rfl ?_
                            refine K_goto 70 (pc := 177) (i := 94) rfl rfl ?_
                            refine K_drop (lo' := [(0, .ref (G.2.2.2 184)), (1, kI x1), (2, kI x2), (3, kI x3), (4, kI ((10 * x6) + x7b)), (5, kI x5b), (6, kI x6), (7, kI (x7b + 1))]) [0, 1, 2, 3, 4, 5, 6, 7] rfl ?_
                            exact ih70 ((10 * x6) + x7b) x5b (x7b + 1) _ (by omega) hI fx (by first | exact ⟨by omega, by omega, ⟨t116, s116⟩, by rw [show 9 * x6.toNat + (x7b + 1 - 1).toNat = (9 * x6.toNat + (x7b - 1).toNat) + 1 by omega]; exact hV70.2.2.2.gt fr86 pm132 (by omega) (by omega)⟩ | exact ⟨by omega, by omega, ⟨t116, s116⟩, by rw [show 9 * x6.toNat + (x7b + 1 - 1).toNat = (9 * x6.toNat + (x7b - 1).toNat) + 1 by omega]; exact hV70.2.2.2.le fr86 pm132 (by omega)⟩ | exact False.elim (by omega))
                          · skip
                            refine K_iload (pc := 165) (i := 89) rfl rfl ?_
                            refine K_goto 172 (pc := 167) (i := 90) rfl rfl ?_
                            refine K_ist (pc := 172) (i := 92) (lo' := [(0, _), (1, _), (2, _), (3, _), (4, _), (5, _), (6, _), (7, _), (8, _)]) rfl rfl rfl rfl ?_
                            refine K_inc (pc := 174) (i := 93) (q := 7) (lo' := [(0, _), (1, _), (2, _), (3, _), (4, _), (5, _), (6, _), (7, _), (8, _)]) rfl rfl rfl rfl rfl ?_
                            refine K_goto 70 (pc := 177) (i := 94) rfl rfl ?_
                            refine K_drop (lo' := [(0, .ref (G.2.2.2 184)), (1, kI x1), (2, kI x2), (3, kI x3), (4, kI ((10 * x6) + x7b)), (5, kI (v124 - v132)), (6, kI x6), (7, kI (x7b + 1))]) [0, 1, 2, 3, 4, 5, 6, 7] rfl ?_
                            exact ih70 ((10 * x6) + x7b) (v124 - v132) (x7b + 1) _ (by omega) hI fx (by first | exact ⟨by omega, by omega, ⟨t116, s116⟩, by rw [show 9 * x6.toNat + (x7b + 1 - 1).toNat = (9 * x6.toNat + (x7b - 1).toNat) + 1 by omega]; exact hV70.2.2.2.gt fr86 pm132 (by omega) (by omega)⟩ | exact ⟨by omega, by omega, ⟨t116, s116⟩, by rw [show 9 * x6.toNat + (x7b + 1 - 1).toNat = (9 * x6.toNat + (x7b - 1).toNat) + 1 by omega]; exact hV70.2.2.2.le fr86 pm132 (by omega)⟩ | exact False.elim (by omega))
                exact L70 _ x4 x5 1 _ (Nat.lt_succ_self _) hI fx ⟨by omega, by omega, hV60.2.2.1, hV60.2.2.2⟩
          exact L60 _ (-9) (-99) 0 _ (Nat.lt_succ_self _) hI fx ⟨by omega, by omega, ⟨rfl, fun _ _ => rfl⟩, rfl, rfl⟩
        · skip
          refine K_bipush (pc := 46) (i := 24) rfl rfl ?_
          exact K_retI (pc := 48) (i := 25) rfl rfl ⟨fx, ⟨hI, ⟨rfl, fun _ _ => rfl⟩, Or.inr (Or.inl ⟨by omega, by omega, rfl⟩)⟩⟩
      · skip
        refine K_bipush (pc := 34) (i := 18) rfl rfl ?_
        exact K_retI (pc := 36) (i := 19) rfl rfl ⟨fx, ⟨hI, ⟨rfl, fun _ _ => rfl⟩, Or.inl ⟨by omega, rfl⟩⟩⟩
