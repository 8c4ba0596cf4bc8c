/-- the wind by a seed -/
def wdv (sd : Int) : Int := kL2i (kLrem (kLushr sd 33) 7) - 3
/-- gusts of an autumn -/
def AUC (s : Nat) (sd : Int) : Nat → kH → kH → Prop
  | 0, h, h' => h' = h
  | m + 1, h, h' => ∃ (h1 h2 : kH) (z : Int), AUC s sd m h h1 ∧ ((∀ c, s + 3 ≤ c → c ≤ s + 9 → h2 c = h1 c) ∧ ∀ i : Nat, 1 ≤ i → i < 10 → h2 (s + 1) i = wdv (itr (9 * m + i) sd)) ∧ kR z ∧ BLW h2 h' s z
def CWautumn (h : kH) (sd x m z : Int) : Prop := (¬ (0 ≤ x ∧ x ≤ 1 ∧ 1 ≤ m ∧ m ≤ 20) ∧ z = -2) ∨ ((0 ≤ x ∧ x ≤ 1 ∧ 1 ≤ m ∧ m ≤ 20) ∧ ∃ ht hz : kH, FC ht 16 h 6 ∧ AUC 13 sd m.toNat ht hz ∧ z = hz 22 x.toNat - h 12 x.toNat)
set_option maxHeartbeats 4000000 in
set_option maxRecDepth 100000 in
theorem c_War_autumn (G : kG) {g : kGh} {h : kH} {x1 : Int} {x2 : Int} (s1 : kR x1) (s2 : kR x2) (hI : Gd g h) : Ctr G y_War_autumn X_War_autumn 13 [.ref (G.2.2.2 0), kI x1, kI x2] h (kQi (fun z h' => Fx (fun c i => c = 0 ∨ (13 ≤ c ∧ c ≤ 22)) h h' ∧ (((¬ (0 ≤ x1 ∧ x1 ≤ 1 ∧ 1 ≤ x2 ∧ x2 ≤ 20) ∧ Gd g h') ∨ ((0 ≤ x1 ∧ x1 ≤ 1 ∧ 1 ≤ x2 ∧ x2 ≤ 20) ∧ Gd (g.1, itr (9 * x2).toNat g.2.1, g.2.2) h')) ∧ CWautumn h g.2.1 x1 x2 z))) := by
  refine Ctr.ofK (by decide) rfl T_War_autumn (Nat.le_of_ble_eq_true rfl) (lo := [(0, .ref (G.2.2.2 0)), (1, kI x1), (2, kI x2)]) rfl ?_
  have fx : Fx (fun c i => c = 0 ∨ (13 ≤ c ∧ c ≤ 22)) h h := Fx.rf
  refine K_iload_n (pc := 0) (i := 0) rfl rfl ?_
  refine K_cSI (pc := 1) (i := 1) rfl (c_War_isTown G (x0 := x1) (s0 := by omega)) (ls_War_146 rfl) rfl rfl rfl rfl (fun v1 h1 q1 => ?_)
  obtain ⟨eh, r1⟩ := q1
  rw [eh]; clear eh
  first | refine K_if_eq 17 (pc := 4) (i := 2) rfl rfl (by omega) (fun b4 => ?_) (fun b4 => ?_) | refine K_if_eq_an 17 (pc := 4) (i := 2) rfl rfl (fun b4 => ?_) (fun b4 => ?_)
  · skip
    refine K_bipush (pc := 17) (i := 8) rfl rfl ?_
    exact K_retI (pc := 19) (i := 9) rfl rfl ⟨fx, ⟨Or.inl ⟨by omega, hI⟩, Or.inl ⟨by omega, rfl⟩⟩⟩
  · skip
    refine K_iload_n (pc := 7) (i := 3) rfl rfl ?_
    refine K_iconst (pc := 8) (i := 4) rfl ?_
    refine K_bipush (pc := 9) (i := 5) rfl rfl ?_
    refine K_cSI (pc := 11) (i := 6) rfl (c_War_isWithin G (x0 := x2) (x1 := 1) (x2 := 20) (s0 := by omega) (s1 := by omega) (s2 := by omega)) (ls_War_124 rfl) rfl rfl rfl rfl (fun v11 h11 q11 => ?_)
    obtain ⟨eh, r11⟩ := q11
    rw [eh]; clear eh
    first | refine K_if_ne 20 (pc := 14) (i := 7) rfl rfl (by omega) (fun b14 => ?_) (fun b14 => ?_) | refine K_if_ne_an 20 (pc := 14) (i := 7) rfl rfl (fun b14 => ?_) (fun b14 => ?_)
    · skip
      refine K_aload_n (pc := 20) (i := 10) rfl rfl ?_
      refine K_getR (pc := 21) (i := 11) (j := 2) (d := 13) rfl S_0 rfl (by decide) rfl fw_War_23 ?_
      refine K_aload_n (pc := 24) (i := 12) rfl rfl ?_
      refine K_getR (pc := 25) (i := 13) (j := 1) (d := 3) rfl S_0 rfl (by decide) rfl fw_War_19 ?_
      refine K_cVV (pc := 28) (i := 14) rfl (c_Sky_copyFrom G (s := 13) (hs := sk13) (s2 := 3) (hs2 := sk3) (hI := hI) (dj := by omega)) (S_Sk sk13) rfl (lv_War_201 rfl) rfl rfl rfl rfl rfl (fun h28 q28 => ?_)
      obtain ⟨fx28, q28⟩ := q28
      obtain ⟨hI, fc28, wc28⟩ := q28
      have fx := fx.tr fx28 (fun c i q => (by first | (dsimp only at q ⊢; omega) | omega))
      refine K_iconst (pc := 31) (i := 15) rfl ?_
      refine K_ist_n (pc := 32) (i := 16) (lo' := [(0, _), (1, _), (2, _), (3, _)]) rfl rfl rfl rfl ?_
      have L33 : ∀ (n : Nat) (x3 : Int) (ha : kH), (x2 - x3).toNat < n → (Fx (fun c i => c = 0 ∨ (13 ≤ c ∧ c ≤ 22)) h ha) → (Gd (g.1, itr (9 * x3).toNat g.2.1, g.2.2) ha ∧ (0 ≤ x3 ∧ x3 ≤ x2) ∧ AUC 13 g.2.1 x3.toNat h28 ha) → K X_War_autumn G (kZm G 13 (kQi (fun z h' => Fx (fun c i => c = 0 ∨ (13 ≤ c ∧ c ≤ 22)) h h' ∧ (((¬ (0 ≤ x1 ∧ x1 ≤ 1 ∧ 1 ≤ x2 ∧ x2 ≤ 20) ∧ Gd g h') ∨ ((0 ≤ x1 ∧ x1 ≤ 1 ∧ 1 ≤ x2 ∧ x2 ≤ 20) ∧ Gd (g.1, itr (9 * x2).toNat g.2.1, g.2.2) h')) ∧ CWautumn h g.2.1 x1 x2 z)))) 33 [(0, .ref (G.2.2.2 0)), (1, kI x1), (2, kI x2), (3, kI x3)] [] ha := by
        intro n
        induction n with
        | zero => intro x3 ha hm; exact absurd hm (Nat.not_lt_zero _)
        | succ n ih33 =>
          intro x3 ha hm33 fx hV33
          have hI := hV33.1
          have hV := hV33.2.1
          refine K_iload_n (pc := 33) (i := 17) rfl rfl ?_
          refine K_iload_n (pc := 34) (i := 18) rfl rfl ?_
          first | refine K_icmp_ge 108 (pc := 35) (i := 19) rfl rfl (by omega) (by omega) (fun b35 => ?_) (fun b35 => ?_) | refine K_icmp_ge_an 108 (pc := 35) (i := 19) rfl rfl (fun b35 => ?_) (fun b35 => ?_)
          · skip
            refine K_aload_n (pc := 108) (i := 55) rfl rfl ?_
            refine K_iload_n (pc := 109) (i := 56) rfl rfl ?_
            refine K_cVI (pc := 110) (i := 57) rfl (c_War_wonInTrial G (x1 := x1) (hI := hI) (s1 := by omega)) S_0 rfl (lv_War_207 rfl) rfl rfl rfl rfl rfl (fun v110 h110 q110 => ?_)
            obtain ⟨eh, r110⟩ := q110
            rw [eh]; clear eh
            exact K_retI (pc := 113) (i := 58) rfl rfl ⟨fx, ⟨Or.inr ⟨by omega, Gd.sdT hI (by rw [show x3 = x2 by omega])⟩, Or.inr ⟨by omega, h28, ha, fc28, by have q := hV33.2.2; rwa [show x3 = x2 by omega] at q, by rw [r110, fx 12 x1.toNat (by first | (dsimp only; omega) | omega | exact not_false)]⟩⟩⟩
          · skip
            refine K_iconst (pc := 38) (i := 20) rfl ?_
            refine K_ist (pc := 39) (i := 21) (lo' := [(0, _), (1, _), (2, _), (3, _), (4, _)]) rfl rfl rfl rfl ?_
            have L41 : ∀ (n : Nat) (x4 : Int) (hb : kH), (10 - x4).toNat < n → (Fx (fun c i => c = 0 ∨ (13 ≤ c ∧ c ≤ 22)) h hb) → (Gd (g.1, itr (9 * x3 + x4 - 1).toNat g.2.1, g.2.2) hb ∧ (1 ≤ x4 ∧ x4 ≤ 10) ∧ (∀ c, c ≠ 0 → c ≠ 14 → hb c = ha c) ∧ ∀ i : Nat, 1 ≤ i → (i : Int) < x4 → hb 14 i = wdv (itr (9 * x3.toNat + i) g.2.1)) → K X_War_autumn G (kZm G 13 (kQi (fun z h' => Fx (fun c i => c = 0 ∨ (13 ≤ c ∧ c ≤ 22)) h h' ∧ (((¬ (0 ≤ x1 ∧ x1 ≤ 1 ∧ 1 ≤ x2 ∧ x2 ≤ 20) ∧ Gd g h') ∨ ((0 ≤ x1 ∧ x1 ≤ 1 ∧ 1 ≤ x2 ∧ x2 ≤ 20) ∧ Gd (g.1, itr (9 * x2).toNat g.2.1, g.2.2) h')) ∧ CWautumn h g.2.1 x1 x2 z)))) 41 [(0, .ref (G.2.2.2 0)), (1, kI x1), (2, kI x2), (3, kI x3), (4, kI x4)] [] hb := by
              intro n
              induction n with
              | zero => intro x4 hb hm; exact absurd hm (Nat.not_lt_zero _)
              | succ n ih41 =>
                intro x4 hb hm41 fx hV41
                have hI := hV41.1
                have hW := hV41.2.1
                have e8 : hb 0 8 = itr (9 * x3 + x4 - 1).toNat g.2.1 := hI.2.2.1
                refine K_iload (pc := 41) (i := 22) rfl rfl ?_
                refine K_bipush (pc := 43) (i := 23) rfl rfl ?_
                first | refine K_icmp_gt 94 (pc := 45) (i := 24) rfl rfl (by omega) (by omega) (fun b45 => ?_) (fun b45 => ?_) | refine K_icmp_gt_an 94 (pc := 45) (i := 24) rfl rfl (fun b45 => ?_) (fun b45 => ?_)
                · skip
                  refine K_aload_n (pc := 94) (i := 49) rfl rfl ?_
                  refine K_getR (pc := 95) (i := 50) (j := 2) (d := 13) rfl S_0 rfl (by decide) rfl fw_War_23 ?_
                  refine K_cVI (pc := 98) (i := 51) rfl (c_Sky_blow G (s := 13) (hs := sk13) (hI := hI)) (S_Sk sk13) rfl (lv_War_160 rfl) rfl rfl rfl rfl rfl (fun v98 h98 q98 => ?_)
                  obtain ⟨fx98, q98⟩ := q98
                  obtain ⟨hI, r98, bw98⟩ := q98
                  have fx := fx.tr fx98 (fun c i q => (by first | (dsimp only at q ⊢; omega) | omega))
                  refine K_pop (pc := 101) (i := 52) rfl rfl ?_
                  refine K_inc (pc := 102) (i := 53) (q := 3) (lo' := [(0, _), (1, _), (2, _), (3, _), (4, _)]) rfl rfl rfl rfl rfl ?_
                  refine K_goto 33 (pc := 105) (i := 54) rfl rfl ?_
                  refine K_drop (lo' := [(0, .ref (G.2.2.2 0)), (1, kI x1), (2, kI x2), (3, kI (x3 + 1))]) [0, 1, 2, 3] rfl ?_
                  exact ih33 (x3 + 1) _ (by omega) fx ⟨Gd.sdT hI (by rw [show (9 * (x3 + 1)).toNat = (9 * x3 + x4 - 1).toNat by omega]), by omega, by rw [show (x3 + 1).toNat = x3.toNat + 1 by omega]; exact ⟨ha, hb, v98, hV33.2.2, ⟨fun c p q => hV41.2.2.1 c (by omega) (by omega), fun i p q => hV41.2.2.2 i p (by omega)⟩, r98, bw98⟩⟩
                · skip
                  refine K_aload_n (pc := 48) (i := 25) rfl rfl ?_
                  refine K_aload_n (pc := 49) (i := 26) rfl rfl ?_
                  refine K_getJ (pc := 50) (i := 27) (j := 8) rfl S_0 rfl (by decide) rfl fw_War_60 ?_
                  refine K_ldc2 (6364136223846793005) (pc := 53) (i := 28) rfl cl_War_239 (by decide) ?_
                  refine K_lmul (pc := 56) (i := 29) rfl ?_
                  refine K_ldc2 (1442695040888963407) (pc := 57) (i := 30) rfl cl_War_241 (by decide) ?_
                  refine K_ladd (pc := 60) (i := 31) rfl ?_
                  refine K_putJ (pc := 61) (i := 32) (j := 8) rfl S_0 rfl (by decide) rfl rfl rfl fw_War_60 ?_
                  have hI := st_seed hI (v := hb 0 8 * 6364136223846793005 + 1442695040888963407)
                  have fx := Fx.st (c := 0) (i := 8) (v := ((hb 0 8) * 6364136223846793005) + 1442695040888963407) fx (by first | (dsimp only; omega) | omega | exact not_false)
                  refine K_aload_n (pc := 64) (i := 33) rfl rfl ?_
                  refine K_getR (pc := 65) (i := 34) (j := 2) (d := 13) rfl S_0 rfl (by decide) rfl fw_War_23 ?_
                  refine K_getR (pc := 68) (i := 35) (j := 1) (d := 14) rfl (S_Sk sk13) rfl (by decide) rfl fw_War_128 ?_
                  refine K_iload (pc := 71) (i := 36) rfl rfl ?_
                  refine K_aload_n (pc := 73) (i := 37) rfl rfl ?_
                  refine K_getJ (pc := 74) (i := 38) (j := 8) rfl S_0 rfl (by decide) rfl fw_War_60 ?_
                  refine K_bipush (pc := 77) (i := 39) rfl rfl ?_
                  refine K_lushr (pc := 79) (i := 40) rfl ?_
                  refine K_ldc2 (7) (pc := 80) (i := 41) rfl cl_War_243 (by decide) ?_
                  refine K_lrem (pc := 83) (i := 42) rfl (by decide) ?_
                  refine K_l2i (pc := 84) (i := 43) rfl ?_
                  refine K_nm (fun v84 e84 => ?_)
                  have r84 := kL2i_R (kLrem (kLushr ((kU hb 0 8 (((hb 0 8) * 6364136223846793005) + 1442695040888963407)) 0 8) 33) 7)
                  rw [← e84] at r84
                  have t84 : 0 ≤ v84 ∧ v84 ≤ 6 := by rw [e84]; exact wd7 _
                  have y84 : v84 - 3 = wdv (itr (9 * x3.toNat + x4.toNat) g.2.1) := by unfold wdv; rw [e84, kU_at, if_pos ⟨rfl, rfl⟩, e8, show 9 * x3.toNat + x4.toNat = (9 * x3 + x4 - 1).toNat + 1 by omega, itr]
                  refine K_iconst (pc := 85) (i := 44) rfl ?_
                  refine K_isub (pc := 86) (i := 45) rfl ?_
                  refine K_iast (pc := 87) (i := 46) rfl (S_Sk1 sk13) (by omega) (by omega) (by decide) ?_
                  have hI := st_wind hI sk13 (i := (x4).toNat) (v := v84 - 3) (by omega)
                  have fx := Fx.st (c := 14) (i := (x4).toNat) (v := v84 - 3) fx (by first | (dsimp only; omega) | omega | exact not_false)
                  have wd87 : ∀ i : Nat, 1 ≤ i → (i : Int) < x4 + 1 → (kU (kU hb 0 8 (((hb 0 8) * 6364136223846793005) + 1442695040888963407)) 14 ((x4).toNat) (v84 - 3)) 14 i = wdv (itr (9 * x3.toNat + i) g.2.1) := fun i p q => by rw [kU_s]; by_cases e : i = x4.toNat; (rw [if_pos e, y84, e]); (rw [if_neg e, kU_c _ _ _ _ (by decide)]; exact hV41.2.2.2 i p (by omega))
                  refine K_inc (pc := 88) (i := 47) (q := 4) (lo' := [(0, _), (1, _), (2, _), (3, _), (4, _)]) rfl rfl rfl rfl rfl ?_
                  refine K_goto 41 (pc := 91) (i := 48) rfl rfl ?_
                  exact ih41 (x4 + 1) _ (by omega) fx ⟨Gd.sdT hI (by rw [show (9 * x3 + (x4 + 1) - 1).toNat = (9 * x3 + x4 - 1).toNat + 1 by omega, itr, ← e8]), by omega, fun c p q => (kU_c _ _ _ _ q).trans ((kU_c _ _ _ _ p).trans (hV41.2.2.1 c p q)), wd87⟩
            exact L41 _ 1 _ (Nat.lt_succ_self _) fx ⟨Gd.sdT hI (by rw [show (9 * x3 + 1 - 1).toNat = (9 * x3).toNat by omega]), by omega, fun _ _ _ => rfl, fun i p q => absurd q (by omega)⟩
      exact L33 _ 0 _ (Nat.lt_succ_self _) fx ⟨Gd.sd rfl hI, by omega, rfl⟩
    · skip
      refine K_bipush (pc := 17) (i := 8) rfl rfl ?_
      exact K_retI (pc := 19) (i := 9) rfl rfl ⟨fx, ⟨Or.inl ⟨by omega, hI⟩, Or.inl ⟨by omega, rfl⟩⟩⟩
