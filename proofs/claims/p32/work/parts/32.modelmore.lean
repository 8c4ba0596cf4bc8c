section
theorem l255 (a : Int) : 0 ≤ kL2i (kLand a 255) ∧ kL2i (kLand a 255) ≤ 255 := by
  have key : ∀ y : Int64, y.toBitVec.toNat < 256 → 0 ≤ y.toInt32.toInt ∧ y.toInt32.toInt ≤ 255 := by
    intro y hy
    have e : y = lN y.toBitVec.toNat := by
      apply Int64.toBitVec_inj.mp
      simp [lN]
    rw [e, lN_i, nI_toInt (by omega)]
    omega
  unfold kL2i kLand
  rw [Int64.ofInt_toInt]
  apply key
  rw [Int64.toBitVec_and, BitVec.toNat_and]
  have : (Int64.ofInt 255).toBitVec.toNat = 255 := by decide
  rw [this]
  exact Nat.lt_of_le_of_lt Nat.and_le_right (by omega)
/-- nothing but the place in the text and the fault has changed -/
def FRm (h h' : kH) : Prop := (∀ c, c ≠ 184 → h' c = h c) ∧ ∀ i, i ≠ 9 → i ≠ 10 → h' 184 i = h 184 i
theorem FRm.rf {h : kH} : FRm h h := ⟨fun _ _ => rfl, fun _ _ _ => rfl⟩
theorem FRm.st {h h1 : kH} {i : Nat} {v : Int} (a : FRm h h1) (hi : i = 9 ∨ i = 10) : FRm h (kU h1 184 i v) := by
  refine ⟨fun c hc => (kU_c _ _ _ _ hc).trans (a.1 c hc), fun j h9 h10 => ?_⟩
  rw [kU_at, if_neg (by omega)]
  exact a.2 j h9 h10
set_option maxHeartbeats 4000000 in
set_option maxRecDepth 100000 in
theorem c_Model_write (G : kG) {g : kGh} {h : kH} {x1 : Int} {l2 : Int} (s1 : kR x1) (hI : Gd g h) : Ctr G y_Model_write X_Model_write 13 [.ref (G.2.2.2 184), kI x1, kJ l2] h (kQi (fun z h' => Fx (fun c i => c = 190 ∨ (c = 184 ∧ i = 8)) h h' ∧ (((1 ≤ x1 ∧ x1 ≤ 8 ∧ g.2.2.1 + x1 ≤ 74 ∧ z = g.2.2.1 + x1 ∧ Gd (g.1, g.2.1, g.2.2.1 + x1, g.2.2.2) h') ∨ ((x1 < 1 ∨ 8 < x1) ∧ z = -2 ∧ Gd g h') ∨ (1 ≤ x1 ∧ x1 ≤ 8 ∧ 74 < g.2.2.1 + x1 ∧ z = -4 ∧ Gd g h')) ∧ ((1 ≤ x1 ∧ x1 ≤ 8 ∧ g.2.2.1 + x1 ≤ 74 → WrB (h 190) (h' 190) g.2.2.1 x1 (-1) l2) ∧ (¬ (1 ≤ x1 ∧ x1 ≤ 8 ∧ g.2.2.1 + x1 ≤ 74) → h' 190 = h 190))))) := by
  refine Ctr.ofK (by decide) rfl T_Model_write (Nat.le_of_ble_eq_true rfl) (lo := [(0, .ref (G.2.2.2 184)), (1, kI x1), (2, kJ l2)]) rfl ?_
  have fx : Fx (fun c i => c = 190 ∨ (c = 184 ∧ i = 8)) h h := Fx.rf
  have e00 : h 184 8 = g.2.2.1 := hI.2.2.2.1
  have e09 := rd_mlength hI
  refine K_iload_n (pc := 0) (i := 0) rfl rfl ?_
  refine K_i2l (pc := 1) (i := 1) rfl ?_
  refine K_eqJ (kI2l_eq (a := x1) (by omega)) ?_
  refine K_lconst 1 (pc := 2) (i := 2) rfl rfl ?_
  refine K_ldc2 (8) (pc := 3) (i := 3) rfl cl_Model_63 (by decide) ?_
  refine K_cSI (pc := 6) (i := 4) rfl (c_Model_in G (l0 := x1) (l2 := 1) (l4 := 8) (s0 := by omega) (s2 := by omega) (s4 := by omega)) (ls_Model_65 rfl) rfl rfl rfl rfl (fun v6 h6 q6 => ?_)
  obtain ⟨eh, r6⟩ := q6
  rw [eh]; clear eh
  first | refine K_if_ne 15 (pc := 9) (i := 5) rfl rfl (by omega) (fun b9 => ?_) (fun b9 => ?_) | refine K_if_ne_an 15 (pc := 9) (i := 5) rfl rfl (fun b9 => ?_) (fun b9 => ?_)
  · skip
    refine K_aload_n (pc := 15) (i := 8) rfl rfl ?_
    refine K_getI (pc := 16) (i := 9) (j := 8) rfl S_184 rfl (by decide) rfl fw_Model_69 ?_
    refine K_nm (fun v16 e16 => ?_)
    have r16 := rd_mlength hI
    rw [← e16] at r16
    refine K_iload_n (pc := 19) (i := 10) rfl rfl ?_
    refine K_iadd (pc := 20) (i := 11) rfl ?_
    refine K_bipush (pc := 21) (i := 12) rfl rfl ?_
    first | refine K_icmp_le 29 (pc := 23) (i := 13) rfl rfl (by omega) (by omega) (fun b23 => ?_) (fun b23 => ?_) | refine K_icmp_le_an 29 (pc := 23) (i := 13) rfl rfl (fun b23 => ?_) (fun b23 => ?_)
    · skip
      refine K_iload_n (pc := 29) (i := 16) rfl rfl ?_
      refine K_iconst (pc := 30) (i := 17) rfl ?_
      refine K_isub (pc := 31) (i := 18) rfl ?_
      refine K_ist (pc := 32) (i := 19) (lo' := [(0, _), (1, _), (2, _), (4, _)]) rfl rfl rfl rfl ?_
      have L34 : ∀ (n : Nat) (x4 : Int) (ha : kH), (x4 + 1).toNat < n → (Fx (fun c i => c = 190 ∨ (c = 184 ∧ i = 8)) h ha) → (Gd (g.1, g.2.1, g.2.2.1 + (x1 - 1 - x4), g.2.2.2) ha ∧ (-1 ≤ x4 ∧ x4 < x1) ∧ WrB (h 190) (ha 190) g.2.2.1 x1 x4 l2) → K X_Model_write G (kZm G 13 (kQi (fun z h' => Fx (fun c i => c = 190 ∨ (c = 184 ∧ i = 8)) h h' ∧ (((1 ≤ x1 ∧ x1 ≤ 8 ∧ g.2.2.1 + x1 ≤ 74 ∧ z = g.2.2.1 + x1 ∧ Gd (g.1, g.2.1, g.2.2.1 + x1, g.2.2.2) h') ∨ ((x1 < 1 ∨ 8 < x1) ∧ z = -2 ∧ Gd g h') ∨ (1 ≤ x1 ∧ x1 ≤ 8 ∧ 74 < g.2.2.1 + x1 ∧ z = -4 ∧ Gd g h')) ∧ ((1 ≤ x1 ∧ x1 ≤ 8 ∧ g.2.2.1 + x1 ≤ 74 → WrB (h 190) (h' 190) g.2.2.1 x1 (-1) l2) ∧ (¬ (1 ≤ x1 ∧ x1 ≤ 8 ∧ g.2.2.1 + x1 ≤ 74) → h' 190 = h 190)))))) 34 [(0, .ref (G.2.2.2 184)), (1, kI x1), (2, kJ l2), (4, kI x4)] [] ha := by
        intro n
        induction n with
        | zero => intro x4 ha hm; exact absurd hm (Nat.not_lt_zero _)
        | succ n ih34 =>
          intro x4 ha hm34 fx hV34
          have hI := hV34.1
          have e01 : ha 184 8 = g.2.2.1 + (x1 - 1 - x4) := hI.2.2.2.1
          have hV := hV34.2.1
          refine K_iload (pc := 34) (i := 20) rfl rfl ?_
          first | refine K_if_lt 76 (pc := 36) (i := 21) rfl rfl (by omega) (fun b36 => ?_) (fun b36 => ?_) | refine K_if_lt_an 76 (pc := 36) (i := 21) rfl rfl (fun b36 => ?_) (fun b36 => ?_)
          · skip
            refine K_aload_n (pc := 76) (i := 43) rfl rfl ?_
            refine K_getI (pc := 77) (i := 44) (j := 8) rfl S_184 rfl (by decide) rfl fw_Model_69 ?_
            refine K_nm (fun v77 e77 => ?_)
            have r77 := rd_mlength hI
            rw [← e77] at r77
            exact K_retI (pc := 80) (i := 45) rfl rfl ⟨fx, ⟨Or.inl ⟨by omega, by omega, by omega, by omega, Gd.mlenT hI (by omega)⟩, fun _ => hV34.2.2.cg rfl (by omega), fun q => absurd (show 1 ≤ x1 ∧ x1 ≤ 8 ∧ g.2.2.1 + x1 ≤ 74 by omega) q⟩⟩
          · skip
            refine K_aload_n (pc := 39) (i := 22) rfl rfl ?_
            refine K_getR (pc := 40) (i := 23) (j := 7) (d := 190) rfl S_184 rfl (by decide) rfl fw_Model_25 ?_
            refine K_aload_n (pc := 43) (i := 24) rfl rfl ?_
            refine K_getI (pc := 44) (i := 25) (j := 8) rfl S_184 rfl (by decide) rfl fw_Model_69 ?_
            refine K_nm (fun v44 e44 => ?_)
            have r44 := rd_mlength hI
            rw [← e44] at r44
            refine K_lload_n (pc := 47) (i := 26) rfl rfl ?_
            refine K_bipush (pc := 48) (i := 27) rfl rfl ?_
            refine K_iload (pc := 50) (i := 28) rfl rfl ?_
            refine K_imul (pc := 52) (i := 29) rfl ?_
            refine K_lshr (pc := 53) (i := 30) rfl ?_
            refine K_ldc2 (255) (pc := 54) (i := 31) rfl cl_Model_72 (by decide) ?_
            refine K_land (pc := 57) (i := 32) rfl ?_
            refine K_l2i (pc := 58) (i := 33) rfl ?_
            refine K_nm (fun v58 e58 => ?_)
            have r58 := kL2i_R (kLand (kLshr l2 (8 * x4)) 255)
            rw [← e58] at r58
            have u58 : 0 ≤ v58 ∧ v58 ≤ 255 := by rw [e58]; exact l255 _
            refine K_iast (pc := 59) (i := 34) rfl S_190 (by omega) (by omega) (by decide) ?_
            have hI := st_mtext hI (i := (v44).toNat) (v := v58) (by omega)
            have fx := Fx.st (c := 190) (i := (v44).toNat) (v := v58) fx (by first | (dsimp only; omega) | omega | exact not_false)
            have wr59 := WrB.st (c := 190) (p := (v44).toNat) (w := v58) hV34.2.2 (by omega) (by omega) (by omega) (by rw [e58]; exact bytM_eq (by omega))
            refine K_aload_n (pc := 60) (i := 35) rfl rfl ?_
            refine K_dup (pc := 61) (i := 36) rfl rfl ?_
            refine K_getI (pc := 62) (i := 37) (j := 8) rfl S_184 rfl (by decide) rfl fw_Model_69 ?_
            refine K_nm (fun v62 e62 => ?_)
            have r62 := rd_mlength hI
            rw [← e62] at r62
            have t62 : v62 = v44 := by rw [e62, e44]; simp [kU]
            refine K_iconst (pc := 65) (i := 38) rfl ?_
            refine K_iadd (pc := 66) (i := 39) rfl ?_
            refine K_putI (pc := 67) (i := 40) (j := 8) rfl S_184 rfl (by decide) rfl rfl rfl fw_Model_69 ?_
            have hI := st_mlength hI (v := v62 + 1) (by omega)
            have fx := Fx.st (c := 184) (i := 8) (v := v62 + 1) fx (by first | (dsimp only; omega) | omega | exact not_false)
            rw [← kU_c (kU ha 190 (v44).toNat v58) 184 8 (v62 + 1) (show (190 : Nat) ≠ 184 by decide)] at wr59
            refine K_inc (pc := 70) (i := 41) (q := 3) (lo' := [(0, _), (1, _), (2, _), (4, _)]) rfl rfl rfl rfl rfl ?_
            refine K_goto 34 (pc := 73) (i := 42) rfl rfl ?_
            exact ih34 (x4 + (-1)) _ (by omega) fx ⟨Gd.mlenT hI (by omega), by omega, wr59.cg rfl (by omega)⟩
      exact L34 _ (x1 - 1) _ (Nat.lt_succ_self _) fx ⟨Gd.mlen (by omega) hI, by omega, WrB.rf⟩
    · skip
      refine K_bipush (pc := 26) (i := 14) rfl rfl ?_
      exact K_retI (pc := 28) (i := 15) rfl rfl ⟨fx, ⟨Or.inr (Or.inr ⟨by omega, by omega, by omega, rfl, hI⟩), fun q => absurd q.2.2 (by omega), fun _ => rfl⟩⟩
  · skip
    refine K_bipush (pc := 12) (i := 6) rfl rfl ?_
    exact K_retI (pc := 14) (i := 7) rfl rfl ⟨fx, ⟨Or.inr (Or.inl ⟨by omega, rfl, hI⟩), fun q => by omega, fun _ => rfl⟩⟩
set_option maxHeartbeats 4000000 in
set_option maxRecDepth 100000 in
theorem c_Model_wipe (G : kG) {g : kGh} {h : kH}  (hI : Gd g h) : Ctr G y_Model_wipe X_Model_wipe 13 [.ref (G.2.2.2 184)] h (kQi (fun z h' => Fx (fun c i => c = 184 ∧ i = 8) h h' ∧ (z = g.2.2.1 ∧ Gd (g.1, g.2.1, 0, g.2.2.2) h'))) := by
  refine Ctr.ofK (by decide) rfl T_Model_wipe (Nat.le_of_ble_eq_true rfl) (lo := [(0, .ref (G.2.2.2 184))]) rfl ?_
  have fx : Fx (fun c i => c = 184 ∧ i = 8) h h := Fx.rf
  have e00 := hI.2.2.2.1
  refine K_aload_n (pc := 0) (i := 0) rfl rfl ?_
  refine K_getI (pc := 1) (i := 1) (j := 8) rfl S_184 rfl (by decide) rfl fw_Model_69 ?_
  refine K_nm (fun v1 e1 => ?_)
  have r1 := rd_mlength hI
  rw [← e1] at r1
  refine K_ist_n (pc := 4) (i := 2) (lo' := [(0, _), (1, _)]) rfl rfl rfl rfl ?_
  refine K_aload_n (pc := 5) (i := 3) rfl rfl ?_
  refine K_iconst (pc := 6) (i := 4) rfl ?_
  refine K_putI (pc := 7) (i := 5) (j := 8) rfl S_184 rfl (by decide) rfl rfl rfl fw_Model_69 ?_
  have hI := st_mlength hI (v := 0) (by omega)
  have fx := Fx.st (c := 184) (i := 8) (v := 0) fx (by first | (dsimp only; omega) | omega | exact not_false)
  refine K_iload_n (pc := 10) (i := 6) rfl rfl ?_
  exact K_retI (pc := 11) (i := 7) rfl rfl ⟨fx, ⟨e1.trans e00, hI⟩⟩
set_option maxHeartbeats 4000000 in
set_option maxRecDepth 100000 in
theorem c_Model_seed (G : kG) {g : kGh} {h : kH} {l1 : Int} (hI : Gd g h) : Ctr G y_Model_seed X_Model_seed 13 [.ref (G.2.2.2 184), kJ l1] h (kQj (fun z h' => Fx (fun c i => c = 184 ∧ i = 22) h h' ∧ (z = g.2.2.2.1 ∧ Gd (g.1, g.2.1, g.2.2.1, l1, g.2.2.2.2) h'))) := by
  refine Ctr.ofK (by decide) rfl T_Model_seed (Nat.le_of_ble_eq_true rfl) (lo := [(0, .ref (G.2.2.2 184)), (1, kJ l1)]) rfl ?_
  have fx : Fx (fun c i => c = 184 ∧ i = 22) h h := Fx.rf
  have hI0 := hI
  refine K_aload_n (pc := 0) (i := 0) rfl rfl ?_
  refine K_getJ (pc := 1) (i := 1) (j := 22) rfl S_184 rfl (by decide) rfl fw_Model_198 ?_
  refine K_lst_n (pc := 4) (i := 2) (lo' := [(0, _), (1, _), (3, _)]) rfl rfl rfl rfl ?_
  refine K_aload_n (pc := 5) (i := 3) rfl rfl ?_
  refine K_lload_n (pc := 6) (i := 4) rfl rfl ?_
  refine K_putJ (pc := 7) (i := 5) (j := 22) rfl S_184 rfl (by decide) rfl rfl rfl fw_Model_198 ?_
  have hI := st_mseed hI (v := l1)
  have fx := Fx.st (c := 184) (i := 22) (v := l1) fx (by first | (dsimp only; omega) | omega | exact not_false)
  refine K_lload_n (pc := 10) (i := 6) rfl rfl ?_
  exact K_retJ (pc := 11) (i := 7) rfl rfl ⟨fx, ⟨hI0.2.2.2.2.1, hI⟩⟩
set_option maxHeartbeats 4000000 in
set_option maxRecDepth 100000 in
theorem c_Model_figure (G : kG) {g : kGh} {h : kH} {x1 : Int} (hI : Gd g h) : Ctr G y_Model_figure X_Model_figure 2 [.ref (G.2.2.2 184), kI x1] h (kQi (fun z h' => Fx (fun c i => c = 184 ∧ (i = 9 ∨ i = 10)) h h' ∧ (Gd g h' ∧ FRm h h' ∧ (0 ≤ z ∧ z ≤ 9 ∧ (z = 0 ∨ tb x1 z = true)) ∧ (h' 184 10 = -9 → h 184 10 = -9 ∧ tb x1 z = true) ∧ Fig h h' x1 z))) := by
  refine Ctr.ofK (by decide) rfl T_Model_figure (Nat.le_of_ble_eq_true rfl) (lo := [(0, .ref (G.2.2.2 184)), (1, kI x1)]) rfl ?_
  have fx : Fx (fun c i => c = 184 ∧ (i = 9 ∨ i = 10)) h h := Fx.rf
  refine K_aload_n (pc := 0) (i := 0) rfl rfl ?_
  refine K_getI (pc := 1) (i := 1) (j := 10) rfl S_184 rfl (by decide) rfl fw_Model_74 ?_
  refine K_nm (fun v1 e1 => ?_)
  have r1 := rd_faultAt hI
  rw [← e1] at r1
  refine K_bipush (pc := 4) (i := 2) rfl rfl ?_
  first | refine K_icmp_ne 35 (pc := 6) (i := 3) rfl rfl (by omega) (by omega) (fun b6 => ?_) (fun b6 => ?_) | refine K_icmp_ne_an 35 (pc := 6) (i := 3) rfl rfl (fun b6 => ?_) (fun b6 => ?_)
  · skip
    refine K_iconst (pc := 35) (i := 17) rfl ?_
    refine K_ist_n (pc := 36) (i := 18) (lo' := [(0, _), (1, _), (2, _)]) rfl rfl rfl rfl ?_
    refine K_iload_n (pc := 37) (i := 19) rfl rfl ?_
    refine K_i2l (pc := 38) (i := 20) rfl ?_
    refine K_eqJ (kI2l_eq (a := -1) (by omega)) ?_
    refine K_lconst 0 (pc := 39) (i := 21) rfl rfl ?_
    refine K_ldc2 (9) (pc := 40) (i := 22) rfl cl_Model_80 (by decide) ?_
    refine K_cSI (pc := 43) (i := 23) rfl (c_Model_in G (l0 := -1) (l2 := 0) (l4 := 9) (s0 := by omega) (s2 := by omega) (s4 := by omega)) (ls_Model_65 rfl) rfl rfl rfl rfl (fun v43 h43 q43 => ?_)
    obtain ⟨eh, r43⟩ := q43
    rw [eh]; clear eh
    first | refine K_if_eq 57 (pc := 46) (i := 24) rfl rfl (by omega) (fun b46 => ?_) (fun b46 => ?_) | refine K_if_eq_an 57 (pc := 46) (i := 24) rfl rfl (fun b46 => ?_) (fun b46 => ?_)
    · skip
      refine K_aload_n (pc := 57) (i := 31) rfl rfl ?_
      refine K_aload_n (pc := 58) (i := 32) rfl rfl ?_
      refine K_getI (pc := 59) (i := 33) (j := 10) rfl S_184 rfl (by decide) rfl fw_Model_74 ?_
      refine K_nm (fun v59 e59 => ?_)
      have r59 := rd_faultAt hI
      rw [← e59] at r59
      refine K_bipush (pc := 62) (i := 34) rfl rfl ?_
      first | refine K_icmp_ne 74 (pc := 64) (i := 35) rfl rfl (by omega) (by omega) (fun b64 => ?_) (fun b64 => ?_) | refine K_icmp_ne_an 74 (pc := 64) (i := 35) rfl rfl (fun b64 => ?_) (fun b64 => ?_)
      · skip
        refine K_aload_n (pc := 74) (i := 39) rfl rfl ?_
        refine K_getI (pc := 75) (i := 40) (j := 10) rfl S_184 rfl (by decide) rfl fw_Model_74 ?_
        refine K_nm (fun v75 e75 => ?_)
        have r75 := rd_faultAt hI
        rw [← e75] at r75
        have t75 : v75 = v59 := by rw [e75, e59]; try simp [kU]
        refine K_putI (pc := 78) (i := 41) (j := 10) rfl S_184 rfl (by decide) rfl rfl rfl fw_Model_74 ?_
        have hI := st_faultAt hI (v := v75) (by omega)
        have fx := Fx.st (c := 184) (i := 10) (v := v75) fx (by first | (dsimp only; omega) | omega | exact not_false)
        refine K_iconst (pc := 81) (i := 42) rfl ?_
        exact K_retI (pc := 82) (i := 43) rfl rfl ⟨fx, ⟨hI, FRm.rf.st (by omega), by omega, fun e => absurd e (by rw [kU_at, if_pos ⟨rfl, rfl⟩]; omega), (by first | exact Or.inr (Or.inr ⟨by omega, by rw [kU_at, if_neg (by omega)], by rw [kU_at, if_pos ⟨rfl, rfl⟩]; omega⟩) | exact Or.inr (Or.inl ⟨by omega, fun q => absurd q.1 (by omega), by rw [kU_at, if_neg (by omega)], by rw [kU_at, if_pos ⟨rfl, rfl⟩]; omega⟩) | exact Or.inr (Or.inl ⟨by omega, fun q => absurd q.2.1 (by rw [u28]; omega), by rw [kU_at, if_neg (by omega)], by rw [kU_at, if_pos ⟨rfl, rfl⟩]; omega⟩) | exact Or.inr (Or.inl ⟨by omega, fun q => absurd q.2.2 (by rw [u28]; exact tbz t53 (by omega)), by rw [kU_at, if_neg (by omega)], by rw [kU_at, if_pos ⟨rfl, rfl⟩]; omega⟩))⟩⟩
      · skip
        refine K_aload_n (pc := 67) (i := 36) rfl rfl ?_
        refine K_getI (pc := 68) (i := 37) (j := 9) rfl S_184 rfl (by decide) rfl fw_Model_77 ?_
        refine K_nm (fun v68 e68 => ?_)
        have r68 := rd_at hI
        rw [← e68] at r68
        refine K_goto 78 (pc := 71) (i := 38) rfl rfl ?_
        refine K_putI (pc := 78) (i := 41) (j := 10) rfl S_184 rfl (by decide) rfl rfl rfl fw_Model_74 ?_
        have hI := st_faultAt hI (v := v68) (by omega)
        have fx := Fx.st (c := 184) (i := 10) (v := v68) fx (by first | (dsimp only; omega) | omega | exact not_false)
        refine K_iconst (pc := 81) (i := 42) rfl ?_
        exact K_retI (pc := 82) (i := 43) rfl rfl ⟨fx, ⟨hI, FRm.rf.st (by omega), by omega, fun e => absurd e (by rw [kU_at, if_pos ⟨rfl, rfl⟩]; omega), (by first | exact Or.inr (Or.inr ⟨by omega, by rw [kU_at, if_neg (by omega)], by rw [kU_at, if_pos ⟨rfl, rfl⟩]; omega⟩) | exact Or.inr (Or.inl ⟨by omega, fun q => absurd q.1 (by omega), by rw [kU_at, if_neg (by omega)], by rw [kU_at, if_pos ⟨rfl, rfl⟩]; omega⟩) | exact Or.inr (Or.inl ⟨by omega, fun q => absurd q.2.1 (by rw [u28]; omega), by rw [kU_at, if_neg (by omega)], by rw [kU_at, if_pos ⟨rfl, rfl⟩]; omega⟩) | exact Or.inr (Or.inl ⟨by omega, fun q => absurd q.2.2 (by rw [u28]; exact tbz t53 (by omega)), by rw [kU_at, if_neg (by omega)], by rw [kU_at, if_pos ⟨rfl, rfl⟩]; omega⟩))⟩⟩
    · skip
      refine K_iload_n (pc := 49) (i := 25) rfl rfl ?_
      refine K_iload_n (pc := 50) (i := 26) rfl rfl ?_
      refine K_ishr (pc := 51) (i := 27) rfl ?_
      refine K_nm (fun v51 e51 => ?_)
      have r51 := kShr_R x1 (-1)
      rw [← e51] at r51
      refine K_iconst (pc := 52) (i := 28) rfl ?_
      refine K_iand (pc := 53) (i := 29) rfl ?_
      refine K_nm (fun v53 e53 => ?_)
      have r53 := kAnd_1 v51
      rw [← e53] at r53
      have t53 : v53 = if tb x1 (-1) then 1 else 0 := by rw [e53, e51]; exact kbit (by omega)
      first | refine K_if_ne 83 (pc := 54) (i := 30) rfl rfl (by omega) (fun b54 => ?_) (fun b54 => ?_) | refine K_if_ne_an 83 (pc := 54) (i := 30) rfl rfl (fun b54 => ?_) (fun b54 => ?_)
      · skip
        refine K_aload_n (pc := 83) (i := 44) rfl rfl ?_
        refine K_dup (pc := 84) (i := 45) rfl rfl ?_
        refine K_getI (pc := 85) (i := 46) (j := 9) rfl S_184 rfl (by decide) rfl fw_Model_77 ?_
        refine K_nm (fun v85 e85 => ?_)
        have r85 := rd_at hI
        rw [← e85] at r85
        have t85 : v85 = h 184 9 := e85
        have t86 : h 184 9 ≤ 73 := by have := rd_mlength hI; omega
        refine K_iconst (pc := 88) (i := 47) rfl ?_
        refine K_iadd (pc := 89) (i := 48) rfl ?_
        refine K_putI (pc := 90) (i := 49) (j := 9) rfl S_184 rfl (by decide) rfl rfl rfl fw_Model_77 ?_
        have hI := st_at hI (v := v85 + 1) (by omega)
        have fx := Fx.st (c := 184) (i := 9) (v := v85 + 1) fx (by first | (dsimp only; omega) | omega | exact not_false)
        refine K_iload_n (pc := 93) (i := 50) rfl rfl ?_
        exact K_retI (pc := 94) (i := 51) rfl rfl ⟨fx, (by first | exact absurd r43 (by omega) | exact ⟨hI, FRm.rf.st (by omega), ⟨by omega, by omega, Or.inr (tbx t53 (by omega))⟩, fun e => ⟨by rw [← e1]; omega, tbx t53 (by omega)⟩, Or.inl ⟨by omega, ⟨by omega, by rw [u28]; omega, by rw [u28]; exact tbx t53 (by omega)⟩, by omega, by rw [kU_at, if_pos ⟨rfl, rfl⟩]; omega, by rw [kU_at, if_neg (by omega)]; omega⟩⟩)⟩
      · skip
        refine K_aload_n (pc := 57) (i := 31) rfl rfl ?_
        refine K_aload_n (pc := 58) (i := 32) rfl rfl ?_
        refine K_getI (pc := 59) (i := 33) (j := 10) rfl S_184 rfl (by decide) rfl fw_Model_74 ?_
        refine K_nm (fun v59 e59 => ?_)
        have r59 := rd_faultAt hI
        rw [← e59] at r59
        refine K_bipush (pc := 62) (i := 34) rfl rfl ?_
        first | refine K_icmp_ne 74 (pc := 64) (i := 35) rfl rfl (by omega) (by omega) (fun b64 => ?_) (fun b64 => ?_) | refine K_icmp_ne_an 74 (pc := 64) (i := 35) rfl rfl (fun b64 => ?_) (fun b64 => ?_)
        · skip
          refine K_aload_n (pc := 74) (i := 39) rfl rfl ?_
          refine K_getI (pc := 75) (i := 40) (j := 10) rfl S_184 rfl (by decide) rfl fw_Model_74 ?_
          refine K_nm (fun v75 e75 => ?_)
          have r75 := rd_faultAt hI
          rw [← e75] at r75
          have t75 : v75 = v59 := by rw [e75, e59]; try simp [kU]
          refine K_putI (pc := 78) (i := 41) (j := 10) rfl S_184 rfl (by decide) rfl rfl rfl fw_Model_74 ?_
          have hI := st_faultAt hI (v := v75) (by omega)
          have fx := Fx.st (c := 184) (i := 10) (v := v75) fx (by first | (dsimp only; omega) | omega | exact not_false)
          refine K_iconst (pc := 81) (i := 42) rfl ?_
          exact K_retI (pc := 82) (i := 43) rfl rfl ⟨fx, ⟨hI, FRm.rf.st (by omega), by omega, fun e => absurd e (by rw [kU_at, if_pos ⟨rfl, rfl⟩]; omega), (by first | exact Or.inr (Or.inr ⟨by omega, by rw [kU_at, if_neg (by omega)], by rw [kU_at, if_pos ⟨rfl, rfl⟩]; omega⟩) | exact Or.inr (Or.inl ⟨by omega, fun q => absurd q.1 (by omega), by rw [kU_at, if_neg (by omega)], by rw [kU_at, if_pos ⟨rfl, rfl⟩]; omega⟩) | exact Or.inr (Or.inl ⟨by omega, fun q => absurd q.2.1 (by rw [u28]; omega), by rw [kU_at, if_neg (by omega)], by rw [kU_at, if_pos ⟨rfl, rfl⟩]; omega⟩) | exact Or.inr (Or.inl ⟨by omega, fun q => absurd q.2.2 (by rw [u28]; exact tbz t53 (by omega)), by rw [kU_at, if_neg (by omega)], by rw [kU_at, if_pos ⟨rfl, rfl⟩]; omega⟩))⟩⟩
        · skip
          refine K_aload_n (pc := 67) (i := 36) rfl rfl ?_
          refine K_getI (pc := 68) (i := 37) (j := 9) rfl S_184 rfl (by decide) rfl fw_Model_77 ?_
          refine K_nm (fun v68 e68 => ?_)
          have r68 := rd_at hI
          rw [← e68] at r68
          refine K_goto 78 (pc := 71) (i := 38) rfl rfl ?_
          refine K_putI (pc := 78) (i := 41) (j := 10) rfl S_184 rfl (by decide) rfl rfl rfl fw_Model_74 ?_
          have hI := st_faultAt hI (v := v68) (by omega)
          have fx := Fx.st (c := 184) (i := 10) (v := v68) fx (by first | (dsimp only; omega) | omega | exact not_false)
          refine K_iconst (pc := 81) (i := 42) rfl ?_
          exact K_retI (pc := 82) (i := 43) rfl rfl ⟨fx, ⟨hI, FRm.rf.st (by omega), by omega, fun e => absurd e (by rw [kU_at, if_pos ⟨rfl, rfl⟩]; omega), (by first | exact Or.inr (Or.inr ⟨by omega, by rw [kU_at, if_neg (by omega)], by rw [kU_at, if_pos ⟨rfl, rfl⟩]; omega⟩) | exact Or.inr (Or.inl ⟨by omega, fun q => absurd q.1 (by omega), by rw [kU_at, if_neg (by omega)], by rw [kU_at, if_pos ⟨rfl, rfl⟩]; omega⟩) | exact Or.inr (Or.inl ⟨by omega, fun q => absurd q.2.1 (by rw [u28]; omega), by rw [kU_at, if_neg (by omega)], by rw [kU_at, if_pos ⟨rfl, rfl⟩]; omega⟩) | exact Or.inr (Or.inl ⟨by omega, fun q => absurd q.2.2 (by rw [u28]; exact tbz t53 (by omega)), by rw [kU_at, if_neg (by omega)], by rw [kU_at, if_pos ⟨rfl, rfl⟩]; omega⟩))⟩⟩
  · skip
    refine K_aload_n (pc := 9) (i := 4) rfl rfl ?_
    refine K_getI (pc := 10) (i := 5) (j := 9) rfl S_184 rfl (by decide) rfl fw_Model_77 ?_
    refine K_nm (fun v10 e10 => ?_)
    have r10 := rd_at hI
    rw [← e10] at r10
    refine K_aload_n (pc := 13) (i := 6) rfl rfl ?_
    refine K_getI (pc := 14) (i := 7) (j := 8) rfl S_184 rfl (by decide) rfl fw_Model_69 ?_
    refine K_nm (fun v14 e14 => ?_)
    have r14 := rd_mlength hI
    rw [← e14] at r14
    first | refine K_icmp_ge 35 (pc := 17) (i := 8) rfl rfl (by omega) (by omega) (fun b17 => ?_) (fun b17 => ?_) | refine K_icmp_ge_an 35 (pc := 17) (i := 8) rfl rfl (fun b17 => ?_) (fun b17 => ?_)
    · skip
      refine K_iconst (pc := 35) (i := 17) rfl ?_
      refine K_ist_n (pc := 36) (i := 18) (lo' := [(0, _), (1, _), (2, _)]) rfl rfl rfl rfl ?_
      refine K_iload_n (pc := 37) (i := 19) rfl rfl ?_
      refine K_i2l (pc := 38) (i := 20) rfl ?_
      refine K_eqJ (kI2l_eq (a := -1) (by omega)) ?_
      refine K_lconst 0 (pc := 39) (i := 21) rfl rfl ?_
      refine K_ldc2 (9) (pc := 40) (i := 22) rfl cl_Model_80 (by decide) ?_
      refine K_cSI (pc := 43) (i := 23) rfl (c_Model_in G (l0 := -1) (l2 := 0) (l4 := 9) (s0 := by omega) (s2 := by omega) (s4 := by omega)) (ls_Model_65 rfl) rfl rfl rfl rfl (fun v43 h43 q43 => ?_)
      obtain ⟨eh, r43⟩ := q43
      rw [eh]; clear eh
      first | refine K_if_eq 57 (pc := 46) (i := 24) rfl rfl (by omega) (fun b46 => ?_) (fun b46 => ?_) | refine K_if_eq_an 57 (pc := 46) (i := 24) rfl rfl (fun b46 => ?_) (fun b46 => ?_)
      · skip
        refine K_aload_n (pc := 57) (i := 31) rfl rfl ?_
        refine K_aload_n (pc := 58) (i := 32) rfl rfl ?_
        refine K_getI (pc := 59) (i := 33) (j := 10) rfl S_184 rfl (by decide) rfl fw_Model_74 ?_
        refine K_nm (fun v59 e59 => ?_)
        have r59 := rd_faultAt hI
        rw [← e59] at r59
        refine K_bipush (pc := 62) (i := 34) rfl rfl ?_
        first | refine K_icmp_ne 74 (pc := 64) (i := 35) rfl rfl (by omega) (by omega) (fun b64 => ?_) (fun b64 => ?_) | refine K_icmp_ne_an 74 (pc := 64) (i := 35) rfl rfl (fun b64 => ?_) (fun b64 => ?_)
        · skip
          refine K_aload_n (pc := 74) (i := 39) rfl rfl ?_
          refine K_getI (pc := 75) (i := 40) (j := 10) rfl S_184 rfl (by decide) rfl fw_Model_74 ?_
          refine K_nm (fun v75 e75 => ?_)
          have r75 := rd_faultAt hI
          rw [← e75] at r75
          have t75 : v75 = v59 := by rw [e75, e59]; try simp [kU]
          refine K_putI (pc := 78) (i := 41) (j := 10) rfl S_184 rfl (by decide) rfl rfl rfl fw_Model_74 ?_
          have hI := st_faultAt hI (v := v75) (by omega)
          have fx := Fx.st (c := 184) (i := 10) (v := v75) fx (by first | (dsimp only; omega) | omega | exact not_false)
          refine K_iconst (pc := 81) (i := 42) rfl ?_
          exact K_retI (pc := 82) (i := 43) rfl rfl ⟨fx, ⟨hI, FRm.rf.st (by omega), by omega, fun e => absurd e (by rw [kU_at, if_pos ⟨rfl, rfl⟩]; omega), (by first | exact Or.inr (Or.inr ⟨by omega, by rw [kU_at, if_neg (by omega)], by rw [kU_at, if_pos ⟨rfl, rfl⟩]; omega⟩) | exact Or.inr (Or.inl ⟨by omega, fun q => absurd q.1 (by omega), by rw [kU_at, if_neg (by omega)], by rw [kU_at, if_pos ⟨rfl, rfl⟩]; omega⟩) | exact Or.inr (Or.inl ⟨by omega, fun q => absurd q.2.1 (by rw [u28]; omega), by rw [kU_at, if_neg (by omega)], by rw [kU_at, if_pos ⟨rfl, rfl⟩]; omega⟩) | exact Or.inr (Or.inl ⟨by omega, fun q => absurd q.2.2 (by rw [u28]; exact tbz t53 (by omega)), by rw [kU_at, if_neg (by omega)], by rw [kU_at, if_pos ⟨rfl, rfl⟩]; omega⟩))⟩⟩
        · skip
          refine K_aload_n (pc := 67) (i := 36) rfl rfl ?_
          refine K_getI (pc := 68) (i := 37) (j := 9) rfl S_184 rfl (by decide) rfl fw_Model_77 ?_
          refine K_nm (fun v68 e68 => ?_)
          have r68 := rd_at hI
          rw [← e68] at r68
          refine K_goto 78 (pc := 71) (i := 38) rfl rfl ?_
          refine K_putI (pc := 78) (i := 41) (j := 10) rfl S_184 rfl (by decide) rfl rfl rfl fw_Model_74 ?_
          have hI := st_faultAt hI (v := v68) (by omega)
          have fx := Fx.st (c := 184) (i := 10) (v := v68) fx (by first | (dsimp only; omega) | omega | exact not_false)
          refine K_iconst (pc := 81) (i := 42) rfl ?_
          exact K_retI (pc := 82) (i := 43) rfl rfl ⟨fx, ⟨hI, FRm.rf.st (by omega), by omega, fun e => absurd e (by rw [kU_at, if_pos ⟨rfl, rfl⟩]; omega), (by first | exact Or.inr (Or.inr ⟨by omega, by rw [kU_at, if_neg (by omega)], by rw [kU_at, if_pos ⟨rfl, rfl⟩]; omega⟩) | exact Or.inr (Or.inl ⟨by omega, fun q => absurd q.1 (by omega), by rw [kU_at, if_neg (by omega)], by rw [kU_at, if_pos ⟨rfl, rfl⟩]; omega⟩) | exact Or.inr (Or.inl ⟨by omega, fun q => absurd q.2.1 (by rw [u28]; omega), by rw [kU_at, if_neg (by omega)], by rw [kU_at, if_pos ⟨rfl, rfl⟩]; omega⟩) | exact Or.inr (Or.inl ⟨by omega, fun q => absurd q.2.2 (by rw [u28]; exact tbz t53 (by omega)), by rw [kU_at, if_neg (by omega)], by rw [kU_at, if_pos ⟨rfl, rfl⟩]; omega⟩))⟩⟩
      · skip
        refine K_iload_n (pc := 49) (i := 25) rfl rfl ?_
        refine K_iload_n (pc := 50) (i := 26) rfl rfl ?_
        refine K_ishr (pc := 51) (i := 27) rfl ?_
        refine K_nm (fun v51 e51 => ?_)
        have r51 := kShr_R x1 (-1)
        rw [← e51] at r51
        refine K_iconst (pc := 52) (i := 28) rfl ?_
        refine K_iand (pc := 53) (i := 29) rfl ?_
        refine K_nm (fun v53 e53 => ?_)
        have r53 := kAnd_1 v51
        rw [← e53] at r53
        have t53 : v53 = if tb x1 (-1) then 1 else 0 := by rw [e53, e51]; exact kbit (by omega)
        first | refine K_if_ne 83 (pc := 54) (i := 30) rfl rfl (by omega) (fun b54 => ?_) (fun b54 => ?_) | refine K_if_ne_an 83 (pc := 54) (i := 30) rfl rfl (fun b54 => ?_) (fun b54 => ?_)
        · skip
          refine K_aload_n (pc := 83) (i := 44) rfl rfl ?_
          refine K_dup (pc := 84) (i := 45) rfl rfl ?_
          refine K_getI (pc := 85) (i := 46) (j := 9) rfl S_184 rfl (by decide) rfl fw_Model_77 ?_
          refine K_nm (fun v85 e85 => ?_)
          have r85 := rd_at hI
          rw [← e85] at r85
          have t85 : v85 = h 184 9 := e85
          have t86 : h 184 9 ≤ 73 := by have := rd_mlength hI; omega
          refine K_iconst (pc := 88) (i := 47) rfl ?_
          refine K_iadd (pc := 89) (i := 48) rfl ?_
          refine K_putI (pc := 90) (i := 49) (j := 9) rfl S_184 rfl (by decide) rfl rfl rfl fw_Model_77 ?_
          have hI := st_at hI (v := v85 + 1) (by omega)
          have fx := Fx.st (c := 184) (i := 9) (v := v85 + 1) fx (by first | (dsimp only; omega) | omega | exact not_false)
          refine K_iload_n (pc := 93) (i := 50) rfl rfl ?_
          exact K_retI (pc := 94) (i := 51) rfl rfl ⟨fx, (by first | exact absurd r43 (by omega) | exact ⟨hI, FRm.rf.st (by omega), ⟨by omega, by omega, Or.inr (tbx t53 (by omega))⟩, fun e => ⟨by rw [← e1]; omega, tbx t53 (by omega)⟩, Or.inl ⟨by omega, ⟨by omega, by rw [u28]; omega, by rw [u28]; exact tbx t53 (by omega)⟩, by omega, by rw [kU_at, if_pos ⟨rfl, rfl⟩]; omega, by rw [kU_at, if_neg (by omega)]; omega⟩⟩)⟩
        · skip
          refine K_aload_n (pc := 57) (i := 31) rfl rfl ?_
          refine K_aload_n (pc := 58) (i := 32) rfl rfl ?_
          refine K_getI (pc := 59) (i := 33) (j := 10) rfl S_184 rfl (by decide) rfl fw_Model_74 ?_
          refine K_nm (fun v59 e59 => ?_)
          have r59 := rd_faultAt hI
          rw [← e59] at r59
          refine K_bipush (pc := 62) (i := 34) rfl rfl ?_
          first | refine K_icmp_ne 74 (pc := 64) (i := 35) rfl rfl (by omega) (by omega) (fun b64 => ?_) (fun b64 => ?_) | refine K_icmp_ne_an 74 (pc := 64) (i := 35) rfl rfl (fun b64 => ?_) (fun b64 => ?_)
          · skip
            refine K_aload_n (pc := 74) (i := 39) rfl rfl ?_
            refine K_getI (pc := 75) (i := 40) (j := 10) rfl S_184 rfl (by decide) rfl fw_Model_74 ?_
            refine K_nm (fun v75 e75 => ?_)
            have r75 := rd_faultAt hI
            rw [← e75] at r75
            have t75 : v75 = v59 := by rw [e75, e59]; try simp [kU]
            refine K_putI (pc := 78) (i := 41) (j := 10) rfl S_184 rfl (by decide) rfl rfl rfl fw_Model_74 ?_
            have hI := st_faultAt hI (v := v75) (by omega)
            have fx := Fx.st (c := 184) (i := 10) (v := v75) fx (by first | (dsimp only; omega) | omega | exact not_false)
            refine K_iconst (pc := 81) (i := 42) rfl ?_
            exact K_retI (pc := 82) (i := 43) rfl rfl ⟨fx, ⟨hI, FRm.rf.st (by omega), by omega, fun e => absurd e (by rw [kU_at, if_pos ⟨rfl, rfl⟩]; omega), (by first | exact Or.inr (Or.inr ⟨by omega, by rw [kU_at, if_neg (by omega)], by rw [kU_at, if_pos ⟨rfl, rfl⟩]; omega⟩) | exact Or.inr (Or.inl ⟨by omega, fun q => absurd q.1 (by omega), by rw [kU_at, if_neg (by omega)], by rw [kU_at, if_pos ⟨rfl, rfl⟩]; omega⟩) | exact Or.inr (Or.inl ⟨by omega, fun q => absurd q.2.1 (by rw [u28]; omega), by rw [kU_at, if_neg (by omega)], by rw [kU_at, if_pos ⟨rfl, rfl⟩]; omega⟩) | exact Or.inr (Or.inl ⟨by omega, fun q => absurd q.2.2 (by rw [u28]; exact tbz t53 (by omega)), by rw [kU_at, if_neg (by omega)], by rw [kU_at, if_pos ⟨rfl, rfl⟩]; omega⟩))⟩⟩
          · skip
            refine K_aload_n (pc := 67) (i := 36) rfl rfl ?_
            refine K_getI (pc := 68) (i := 37) (j := 9) rfl S_184 rfl (by decide) rfl fw_Model_77 ?_
            refine K_nm (fun v68 e68 => ?_)
            have r68 := rd_at hI
            rw [← e68] at r68
            refine K_goto 78 (pc := 71) (i := 38) rfl rfl ?_
            refine K_putI (pc := 78) (i := 41) (j := 10) rfl S_184 rfl (by decide) rfl rfl rfl fw_Model_74 ?_
            have hI := st_faultAt hI (v := v68) (by omega)
            have fx := Fx.st (c := 184) (i := 10) (v := v68) fx (by first | (dsimp only; omega) | omega | exact not_false)
            refine K_iconst (pc := 81) (i := 42) rfl ?_
            exact K_retI (pc := 82) (i := 43) rfl rfl ⟨fx, ⟨hI, FRm.rf.st (by omega), by omega, fun e => absurd e (by rw [kU_at, if_pos ⟨rfl, rfl⟩]; omega), (by first | exact Or.inr (Or.inr ⟨by omega, by rw [kU_at, if_neg (by omega)], by rw [kU_at, if_pos ⟨rfl, rfl⟩]; omega⟩) | exact Or.inr (Or.inl ⟨by omega, fun q => absurd q.1 (by omega), by rw [kU_at, if_neg (by omega)], by rw [kU_at, if_pos ⟨rfl, rfl⟩]; omega⟩) | exact Or.inr (Or.inl ⟨by omega, fun q => absurd q.2.1 (by rw [u28]; omega), by rw [kU_at, if_neg (by omega)], by rw [kU_at, if_pos ⟨rfl, rfl⟩]; omega⟩) | exact Or.inr (Or.inl ⟨by omega, fun q => absurd q.2.2 (by rw [u28]; exact tbz t53 (by omega)), by rw [kU_at, if_neg (by omega)], by rw [kU_at, if_pos ⟨rfl, rfl⟩]; omega⟩))⟩⟩
    · skip
      refine K_aload_n (pc := 20) (i := 9) rfl rfl ?_
      refine K_getR (pc := 21) (i := 10) (j := 7) (d := 190) rfl S_184 rfl (by decide) rfl fw_Model_25 ?_
      refine K_aload_n (pc := 24) (i := 11) rfl rfl ?_
      refine K_getI (pc := 25) (i := 12) (j := 9) rfl S_184 rfl (by decide) rfl fw_Model_77 ?_
      refine K_nm (fun v25 e25 => ?_)
      have r25 := rd_at hI
      rw [← e25] at r25
      have t25 : v25 = v10 := by rw [e25, e10]; try simp [kU]
      refine K_iald (pc := 28) (i := 13) rfl S_190 (by omega) (by omega) (by decide) ?_
      refine K_nm (fun v28 e28 => ?_)
      have r28 := rd_mtext hI (v25).toNat
      rw [← e28] at r28
      have u28 : h 190 (h 184 9).toNat = v28 := by rw [e28, e25]
      refine K_bipush (pc := 29) (i := 14) rfl rfl ?_
      refine K_isub (pc := 31) (i := 15) rfl ?_
      refine K_goto 36 (pc := 32) (i := 16) rfl rfl ?_
      refine K_ist_n (pc := 36) (i := 18) (lo' := [(0, _), (1, _), (2, _)]) rfl rfl rfl rfl ?_
      refine K_iload_n (pc := 37) (i := 19) rfl rfl ?_
      refine K_i2l (pc := 38) (i := 20) rfl ?_
      refine K_eqJ (kI2l_eq (a := v28 - 48) (by omega)) ?_
      refine K_lconst 0 (pc := 39) (i := 21) rfl rfl ?_
      refine K_ldc2 (9) (pc := 40) (i := 22) rfl cl_Model_80 (by decide) ?_
      refine K_cSI (pc := 43) (i := 23) rfl (c_Model_in G (l0 := v28 - 48) (l2 := 0) (l4 := 9) (s0 := by omega) (s2 := by omega) (s4 := by omega)) (ls_Model_65 rfl) rfl rfl rfl rfl (fun v43 h43 q43 => ?_)
      obtain ⟨eh, r43⟩ := q43
      rw [eh]; clear eh
      first | refine K_if_eq 57 (pc := 46) (i := 24) rfl rfl (by omega) (fun b46 => ?_) (fun b46 => ?_) | refine K_if_eq_an 57 (pc := 46) (i := 24) rfl rfl (fun b46 => ?_) (fun b46 => ?_)
      · skip
        refine K_aload_n (pc := 57) (i := 31) rfl rfl ?_
        refine K_aload_n (pc := 58) (i := 32) rfl rfl ?_
        refine K_getI (pc := 59) (i := 33) (j := 10) rfl S_184 rfl (by decide) rfl fw_Model_74 ?_
        refine K_nm (fun v59 e59 => ?_)
        have r59 := rd_faultAt hI
        rw [← e59] at r59
        refine K_bipush (pc := 62) (i := 34) rfl rfl ?_
        first | refine K_icmp_ne 74 (pc := 64) (i := 35) rfl rfl (by omega) (by omega) (fun b64 => ?_) (fun b64 => ?_) | refine K_icmp_ne_an 74 (pc := 64) (i := 35) rfl rfl (fun b64 => ?_) (fun b64 => ?_)
        · skip
          refine K_aload_n (pc := 74) (i := 39) rfl rfl ?_
          refine K_getI (pc := 75) (i := 40) (j := 10) rfl S_184 rfl (by decide) rfl fw_Model_74 ?_
          refine K_nm (fun v75 e75 => ?_)
          have r75 := rd_faultAt hI
          rw [← e75] at r75
          have t75 : v75 = v59 := by rw [e75, e59]; try simp [kU]
          refine K_putI (pc := 78) (i := 41) (j := 10) rfl S_184 rfl (by decide) rfl rfl rfl fw_Model_74 ?_
          have hI := st_faultAt hI (v := v75) (by omega)
          have fx := Fx.st (c := 184) (i := 10) (v := v75) fx (by first | (dsimp only; omega) | omega | exact not_false)
          refine K_iconst (pc := 81) (i := 42) rfl ?_
          exact K_retI (pc := 82) (i := 43) rfl rfl ⟨fx, ⟨hI, FRm.rf.st (by omega), by omega, fun e => absurd e (by rw [kU_at, if_pos ⟨rfl, rfl⟩]; omega), (by first | exact Or.inr (Or.inr ⟨by omega, by rw [kU_at, if_neg (by omega)], by rw [kU_at, if_pos ⟨rfl, rfl⟩]; omega⟩) | exact Or.inr (Or.inl ⟨by omega, fun q => absurd q.1 (by omega), by rw [kU_at, if_neg (by omega)], by rw [kU_at, if_pos ⟨rfl, rfl⟩]; omega⟩) | exact Or.inr (Or.inl ⟨by omega, fun q => absurd q.2.1 (by rw [u28]; omega), by rw [kU_at, if_neg (by omega)], by rw [kU_at, if_pos ⟨rfl, rfl⟩]; omega⟩) | exact Or.inr (Or.inl ⟨by omega, fun q => absurd q.2.2 (by rw [u28]; exact tbz t53 (by omega)), by rw [kU_at, if_neg (by omega)], by rw [kU_at, if_pos ⟨rfl, rfl⟩]; omega⟩))⟩⟩
        · skip
          refine K_aload_n (pc := 67) (i := 36) rfl rfl ?_
          refine K_getI (pc := 68) (i := 37) (j := 9) rfl S_184 rfl (by decide) rfl fw_Model_77 ?_
          refine K_nm (fun v68 e68 => ?_)
          have r68 := rd_at hI
          rw [← e68] at r68
          refine K_goto 78 (pc := 71) (i := 38) rfl rfl ?_
          refine K_putI (pc := 78) (i := 41) (j := 10) rfl S_184 rfl (by decide) rfl rfl rfl fw_Model_74 ?_
          have hI := st_faultAt hI (v := v68) (by omega)
          have fx := Fx.st (c := 184) (i := 10) (v := v68) fx (by first | (dsimp only; omega) | omega | exact not_false)
          refine K_iconst (pc := 81) (i := 42) rfl ?_
          exact K_retI (pc := 82) (i := 43) rfl rfl ⟨fx, ⟨hI, FRm.rf.st (by omega), by omega, fun e => absurd e (by rw [kU_at, if_pos ⟨rfl, rfl⟩]; omega), (by first | exact Or.inr (Or.inr ⟨by omega, by rw [kU_at, if_neg (by omega)], by rw [kU_at, if_pos ⟨rfl, rfl⟩]; omega⟩) | exact Or.inr (Or.inl ⟨by omega, fun q => absurd q.1 (by omega), by rw [kU_at, if_neg (by omega)], by rw [kU_at, if_pos ⟨rfl, rfl⟩]; omega⟩) | exact Or.inr (Or.inl ⟨by omega, fun q => absurd q.2.1 (by rw [u28]; omega), by rw [kU_at, if_neg (by omega)], by rw [kU_at, if_pos ⟨rfl, rfl⟩]; omega⟩) | exact Or.inr (Or.inl ⟨by omega, fun q => absurd q.2.2 (by rw [u28]; exact tbz t53 (by omega)), by rw [kU_at, if_neg (by omega)], by rw [kU_at, if_pos ⟨rfl, rfl⟩]; omega⟩))⟩⟩
      · skip
        refine K_iload_n (pc := 49) (i := 25) rfl rfl ?_
        refine K_iload_n (pc := 50) (i := 26) rfl rfl ?_
        refine K_ishr (pc := 51) (i := 27) rfl ?_
        refine K_nm (fun v51 e51 => ?_)
        have r51 := kShr_R x1 (v28 - 48)
        rw [← e51] at r51
        refine K_iconst (pc := 52) (i := 28) rfl ?_
        refine K_iand (pc := 53) (i := 29) rfl ?_
        refine K_nm (fun v53 e53 => ?_)
        have r53 := kAnd_1 v51
        rw [← e53] at r53
        have t53 : v53 = if tb x1 (v28 - 48) then 1 else 0 := by rw [e53, e51]; exact kbit (by omega)
        first | refine K_if_ne 83 (pc := 54) (i := 30) rfl rfl (by omega) (fun b54 => ?_) (fun b54 => ?_) | refine K_if_ne_an 83 (pc := 54) (i := 30) rfl rfl (fun b54 => ?_) (fun b54 => ?_)
        · skip
          refine K_aload_n (pc := 83) (i := 44) rfl rfl ?_
          refine K_dup (pc := 84) (i := 45) rfl rfl ?_
          refine K_getI (pc := 85) (i := 46) (j := 9) rfl S_184 rfl (by decide) rfl fw_Model_77 ?_
          refine K_nm (fun v85 e85 => ?_)
          have r85 := rd_at hI
          rw [← e85] at r85
          have t85 : v85 = h 184 9 := e85
          have t86 : h 184 9 ≤ 73 := by have := rd_mlength hI; omega
          refine K_iconst (pc := 88) (i := 47) rfl ?_
          refine K_iadd (pc := 89) (i := 48) rfl ?_
          refine K_putI (pc := 90) (i := 49) (j := 9) rfl S_184 rfl (by decide) rfl rfl rfl fw_Model_77 ?_
          have hI := st_at hI (v := v85 + 1) (by omega)
          have fx := Fx.st (c := 184) (i := 9) (v := v85 + 1) fx (by first | (dsimp only; omega) | omega | exact not_false)
          refine K_iload_n (pc := 93) (i := 50) rfl rfl ?_
          exact K_retI (pc := 94) (i := 51) rfl rfl ⟨fx, (by first | exact absurd r43 (by omega) | exact ⟨hI, FRm.rf.st (by omega), ⟨by omega, by omega, Or.inr (tbx t53 (by omega))⟩, fun e => ⟨by rw [← e1]; omega, tbx t53 (by omega)⟩, Or.inl ⟨by omega, ⟨by omega, by rw [u28]; omega, by rw [u28]; exact tbx t53 (by omega)⟩, by omega, by rw [kU_at, if_pos ⟨rfl, rfl⟩]; omega, by rw [kU_at, if_neg (by omega)]; omega⟩⟩)⟩
        · skip
          refine K_aload_n (pc := 57) (i := 31) rfl rfl ?_
          refine K_aload_n (pc := 58) (i := 32) rfl rfl ?_
          refine K_getI (pc := 59) (i := 33) (j := 10) rfl S_184 rfl (by decide) rfl fw_Model_74 ?_
          refine K_nm (fun v59 e59 => ?_)
          have r59 := rd_faultAt hI
          rw [← e59] at r59
          refine K_bipush (pc := 62) (i := 34) rfl rfl ?_
          first | refine K_icmp_ne 74 (pc := 64) (i := 35) rfl rfl (by omega) (by omega) (fun b64 => ?_) (fun b64 => ?_) | refine K_icmp_ne_an 74 (pc := 64) (i := 35) rfl rfl (fun b64 => ?_) (fun b64 => ?_)
          · skip
            refine K_aload_n (pc := 74) (i := 39) rfl rfl ?_
            refine K_getI (pc := 75) (i := 40) (j := 10) rfl S_184 rfl (by decide) rfl fw_Model_74 ?_
            refine K_nm (fun v75 e75 => ?_)
            have r75 := rd_faultAt hI
            rw [← e75] at r75
            have t75 : v75 = v59 := by rw [e75, e59]; try simp [kU]
            refine K_putI (pc := 78) (i := 41) (j := 10) rfl S_184 rfl (by decide) rfl rfl rfl fw_Model_74 ?_
            have hI := st_faultAt hI (v := v75) (by omega)
            have fx := Fx.st (c := 184) (i := 10) (v := v75) fx (by first | (dsimp only; omega) | omega | exact not_false)
            refine K_iconst (pc := 81) (i := 42) rfl ?_
            exact K_retI (pc := 82) (i := 43) rfl rfl ⟨fx, ⟨hI, FRm.rf.st (by omega), by omega, fun e => absurd e (by rw [kU_at, if_pos ⟨rfl, rfl⟩]; omega), (by first | exact Or.inr (Or.inr ⟨by omega, by rw [kU_at, if_neg (by omega)], by rw [kU_at, if_pos ⟨rfl, rfl⟩]; omega⟩) | exact Or.inr (Or.inl ⟨by omega, fun q => absurd q.1 (by omega), by rw [kU_at, if_neg (by omega)], by rw [kU_at, if_pos ⟨rfl, rfl⟩]; omega⟩) | exact Or.inr (Or.inl ⟨by omega, fun q => absurd q.2.1 (by rw [u28]; omega), by rw [kU_at, if_neg (by omega)], by rw [kU_at, if_pos ⟨rfl, rfl⟩]; omega⟩) | exact Or.inr (Or.inl ⟨by omega, fun q => absurd q.2.2 (by rw [u28]; exact tbz t53 (by omega)), by rw [kU_at, if_neg (by omega)], by rw [kU_at, if_pos ⟨rfl, rfl⟩]; omega⟩))⟩⟩
          · skip
            refine K_aload_n (pc := 67) (i := 36) rfl rfl ?_
            refine K_getI (pc := 68) (i := 37) (j := 9) rfl S_184 rfl (by decide) rfl fw_Model_77 ?_
            refine K_nm (fun v68 e68 => ?_)
            have r68 := rd_at hI
            rw [← e68] at r68
            refine K_goto 78 (pc := 71) (i := 38) rfl rfl ?_
            refine K_putI (pc := 78) (i := 41) (j := 10) rfl S_184 rfl (by decide) rfl rfl rfl fw_Model_74 ?_
            have hI := st_faultAt hI (v := v68) (by omega)
            have fx := Fx.st (c := 184) (i := 10) (v := v68) fx (by first | (dsimp only; omega) | omega | exact not_false)
            refine K_iconst (pc := 81) (i := 42) rfl ?_
            exact K_retI (pc := 82) (i := 43) rfl rfl ⟨fx, ⟨hI, FRm.rf.st (by omega), by omega, fun e => absurd e (by rw [kU_at, if_pos ⟨rfl, rfl⟩]; omega), (by first | exact Or.inr (Or.inr ⟨by omega, by rw [kU_at, if_neg (by omega)], by rw [kU_at, if_pos ⟨rfl, rfl⟩]; omega⟩) | exact Or.inr (Or.inl ⟨by omega, fun q => absurd q.1 (by omega), by rw [kU_at, if_neg (by omega)], by rw [kU_at, if_pos ⟨rfl, rfl⟩]; omega⟩) | exact Or.inr (Or.inl ⟨by omega, fun q => absurd q.2.1 (by rw [u28]; omega), by rw [kU_at, if_neg (by omega)], by rw [kU_at, if_pos ⟨rfl, rfl⟩]; omega⟩) | exact Or.inr (Or.inl ⟨by omega, fun q => absurd q.2.2 (by rw [u28]; exact tbz t53 (by omega)), by rw [kU_at, if_neg (by omega)], by rw [kU_at, if_pos ⟨rfl, rfl⟩]; omega⟩))⟩⟩
/-- what the free ones of a set say: the ones of z leave no stake of the first n taken -/
def FrB (h : kH) (t z n : Int) : Prop := ∀ v : Int, 0 ≤ v → v ≤ 9 → tb z v = true → (t = 4 → v = 0) ∧ ∀ k : Nat, (k : Int) < n → h 185 (5 * k + 1) ≠ 10 * t + v
theorem FrI.b {h : kH} {t z n : Int} (a : FrI h t z n) : FrB h t z n := fun v h0 h1 e => ((a v h0 (by omega)).1 e).2
set_option maxHeartbeats 4000000 in
set_option maxRecDepth 100000 in
theorem c_Model_free (G : kG) {g : kGh} {h : kH} {x1 : Int} (s1 : 0 ≤ x1 ∧ x1 ≤ 9) (hr : ∀ k : Nat, (k : Int) < h 184 1 → 0 ≤ h 185 (5 * k + 1) ∧ h 185 (5 * k + 1) ≤ 40) (hI : Gd g h) : Ctr G y_Model_free X_Model_free 1 [.ref (G.2.2.2 184), kI x1] h (kQi (fun z h' => h' = h ∧ kR z ∧ FrI h x1 z (h 184 1))) := by
  refine Ctr.ofK (by decide) rfl T_Model_free (Nat.le_of_ble_eq_true rfl) (lo := [(0, .ref (G.2.2.2 184)), (1, kI x1)]) rfl ?_
  have hm := rd_readMany hI
  refine K_iload_n (pc := 0) (i := 0) rfl rfl ?_
  refine K_iconst (pc := 1) (i := 1) rfl ?_
  first | refine K_icmp_ne 9 (pc := 2) (i := 2) rfl rfl (by omega) (by omega) (fun b2 => ?_) (fun b2 => ?_) | refine K_icmp_ne_an 9 (pc := 2) (i := 2) rfl rfl (fun b2 => ?_) (fun b2 => ?_)
  · skip
    refine K_sipush (pc := 9) (i := 5) rfl rfl ?_
    refine K_ist_n (pc := 12) (i := 6) (lo' := [(0, _), (1, _), (2, _)]) rfl rfl rfl rfl ?_
    refine K_iconst (pc := 13) (i := 7) rfl ?_
    refine K_ist_n (pc := 14) (i := 8) (lo' := [(0, _), (1, _), (2, _), (3, _)]) rfl rfl rfl rfl ?_
    have L15 : ∀ (n : Nat) (x2 : Int) (x3 : Int), (8 - x3).toNat < n → ((0 ≤ x3 ∧ x3 ≤ h 184 1) ∧ kR x2 ∧ FrI h x1 x2 x3) → K X_Model_free G (kZm G 1 (kQi (fun z h' => h' = h ∧ kR z ∧ FrI h x1 z (h 184 1)))) 15 [(0, .ref (G.2.2.2 184)), (1, kI x1), (2, kI x2), (3, kI x3)] [] h := by
      intro n
      induction n with
      | zero => intro x2 x3 hm; exact absurd hm (Nat.not_lt_zero _)
      | succ n ih15 =>
        intro x2 x3 hm15 hV15
        refine K_iload_n (pc := 15) (i := 9) rfl rfl ?_
        refine K_aload_n (pc := 16) (i := 10) rfl rfl ?_
        refine K_getI (pc := 17) (i := 11) (j := 1) rfl S_184 rfl (by decide) rfl fw_Model_82 ?_
        refine K_nm (fun v17 e17 => ?_)
        have r17 := rd_readMany hI
        rw [← e17] at r17
        first | refine K_icmp_ge 66 (pc := 20) (i := 12) rfl rfl (by omega) (by omega) (fun b20 => ?_) (fun b20 => ?_) | refine K_icmp_ge_an 66 (pc := 20) (i := 12) rfl rfl (fun b20 => ?_) (fun b20 => ?_)
        · skip
          refine K_iload_n (pc := 66) (i := 41) rfl rfl ?_
          exact K_retI (pc := 67) (i := 42) rfl rfl ⟨rfl, by omega, (show x3 = h 184 1 by omega) ▸ hV15.2.2⟩
        · skip
          refine K_aload_n (pc := 23) (i := 13) rfl rfl ?_
          refine K_getR (pc := 24) (i := 14) (j := 0) (d := 185) rfl S_184 rfl (by decide) rfl fw_Model_7 ?_
          refine K_iconst (pc := 27) (i := 15) rfl ?_
          refine K_iload_n (pc := 28) (i := 16) rfl rfl ?_
          refine K_imul (pc := 29) (i := 17) rfl ?_
          refine K_iconst (pc := 30) (i := 18) rfl ?_
          refine K_iadd (pc := 31) (i := 19) rfl ?_
          refine K_iald (pc := 32) (i := 20) rfl S_185 (by omega) (by omega) (by decide) ?_
          refine K_nm (fun v32 e32 => ?_)
          have r32 := rd_readKites hI ((5 * x3) + 1).toNat
          rw [← e32] at r32
          have u32 := hr x3.toNat (by omega)
          have w32 : h 185 (5 * x3.toNat + 1) = v32 := by rw [e32, show 5 * x3.toNat + 1 = ((5 * x3) + 1).toNat by omega]
          rw [w32] at u32
          refine K_ist (pc := 33) (i := 21) (lo' := [(0, _), (1, _), (2, _), (3, _), (4, _)]) rfl rfl rfl rfl ?_
          refine K_iload_n (pc := 35) (i := 22) rfl rfl ?_
          refine K_iload (pc := 36) (i := 23) rfl rfl ?_
          refine K_bipush (pc := 38) (i := 24) rfl rfl ?_
          refine K_idiv (pc := 40) (i := 25) rfl (by omega) (by omega) ?_
          refine K_eq (kDiv_eq (by omega) (by omega) (by omega) (by omega)) ?_
          refine K_iload_n (pc := 41) (i := 26) rfl rfl ?_
          first | refine K_icmp_ne 57 (pc := 42) (i := 27) rfl rfl (by omega) (by omega) (fun b42 => ?_) (fun b42 => ?_) | refine K_icmp_ne_an 57 (pc := 42) (i := 27) rfl rfl (fun b42 => ?_) (fun b42 => ?_)
          · skip
            refine K_iconst (pc := 57) (i := 36) rfl ?_
            refine K_iand (pc := 58) (i := 37) rfl ?_
            refine K_nm (fun v58 e58 => ?_)
            have r58 := kAnd_R x2 (-1)
            rw [← e58] at r58
            refine K_ist_n (pc := 59) (i := 38) (lo' := [(0, _), (1, _), (2, _), (3, _), (4, _)]) rfl rfl rfl rfl ?_
            refine K_inc (pc := 60) (i := 39) (q := 3) (lo' := [(0, _), (1, _), (2, _), (3, _), (4, _)]) rfl rfl rfl rfl rfl ?_
            refine K_goto 15 (pc := 63) (i := 40) rfl rfl ?_
            refine K_drop (lo' := [(0, .ref (G.2.2.2 184)), (1, kI x1), (2, kI v58), (3, kI (x3 + 1))]) [0, 1, 2, 3] rfl ?_
            exact ih15 v58 (x3 + 1) (by omega) ⟨by omega, by omega, by rw [e58]; first | (rw [e53, e51]; exact FrI.in hV15.2.2 (by omega) w32 (by omega) (by omega)) | exact FrI.out hV15.2.2 (by omega) w32 (by omega) (by omega)⟩
          · skip
            refine K_iconst (pc := 45) (i := 28) rfl ?_
            refine K_iload (pc := 46) (i := 29) rfl rfl ?_
            refine K_bipush (pc := 48) (i := 30) rfl rfl ?_
            refine K_irem (pc := 50) (i := 31) rfl (by omega) (by omega) ?_
            refine K_eq (kRem_eq (by omega) (by omega) (by omega) (by omega)) ?_
            refine K_ishl (pc := 51) (i := 32) rfl ?_
            refine K_nm (fun v51 e51 => ?_)
            have r51 := kShl_R 1 (v32 % 10)
            rw [← e51] at r51
            refine K_iconst (pc := 52) (i := 33) rfl ?_
            refine K_ixor (pc := 53) (i := 34) rfl ?_
            refine K_nm (fun v53 e53 => ?_)
            have r53 := kXor_R v51 (-1)
            rw [← e53] at r53
            refine K_goto 58 (pc := 54) (i := 35) rfl rfl ?_
            refine K_iand (pc := 58) (i := 37) rfl ?_
            refine K_nm (fun v58 e58 => ?_)
            have r58 := kAnd_R x2 v53
            rw [← e58] at r58
            refine K_ist_n (pc := 59) (i := 38) (lo' := [(0, _), (1, _), (2, _), (3, _), (4, _)]) rfl rfl rfl rfl ?_
            refine K_inc (pc := 60) (i := 39) (q := 3) (lo' := [(0, _), (1, _), (2, _), (3, _), (4, _)]) rfl rfl rfl rfl rfl ?_
            refine K_goto 15 (pc := 63) (i := 40) rfl rfl ?_
            refine K_drop (lo' := [(0, .ref (G.2.2.2 184)), (1, kI x1), (2, kI v58), (3, kI (x3 + 1))]) [0, 1, 2, 3] rfl ?_
            exact ih15 v58 (x3 + 1) (by omega) ⟨by omega, by omega, by rw [e58]; first | (rw [e53, e51]; exact FrI.in hV15.2.2 (by omega) w32 (by omega) (by omega)) | exact FrI.out hV15.2.2 (by omega) w32 (by omega) (by omega)⟩
    exact L15 _ 1023 0 (Nat.lt_succ_self _) ⟨by omega, by omega, by first | exact FrI.oth (by omega) | (rw [show x1 = 4 by omega]; exact FrI.four)⟩
  · skip
    refine K_iconst (pc := 5) (i := 3) rfl ?_
    refine K_goto 12 (pc := 6) (i := 4) rfl rfl ?_
    refine K_ist_n (pc := 12) (i := 6) (lo' := [(0, _), (1, _), (2, _)]) rfl rfl rfl rfl ?_
    refine K_iconst (pc := 13) (i := 7) rfl ?_
    refine K_ist_n (pc := 14) (i := 8) (lo' := [(0, _), (1, _), (2, _), (3, _)]) rfl rfl rfl rfl ?_
    have L15 : ∀ (n : Nat) (x2 : Int) (x3 : Int), (8 - x3).toNat < n → ((0 ≤ x3 ∧ x3 ≤ h 184 1) ∧ kR x2 ∧ FrI h x1 x2 x3) → K X_Model_free G (kZm G 1 (kQi (fun z h' => h' = h ∧ kR z ∧ FrI h x1 z (h 184 1)))) 15 [(0, .ref (G.2.2.2 184)), (1, kI x1), (2, kI x2), (3, kI x3)] [] h := by
      intro n
      induction n with
      | zero => intro x2 x3 hm; exact absurd hm (Nat.not_lt_zero _)
      | succ n ih15 =>
        intro x2 x3 hm15 hV15
        refine K_iload_n (pc := 15) (i := 9) rfl rfl ?_
        refine K_aload_n (pc := 16) (i := 10) rfl rfl ?_
        refine K_getI (pc := 17) (i := 11) (j := 1) rfl S_184 rfl (by decide) rfl fw_Model_82 ?_
        refine K_nm (fun v17 e17 => ?_)
        have r17 := rd_readMany hI
        rw [← e17] at r17
        first | refine K_icmp_ge 66 (pc := 20) (i := 12) rfl rfl (by omega) (by omega) (fun b20 => ?_) (fun b20 => ?_) | refine K_icmp_ge_an 66 (pc := 20) (i := 12) rfl rfl (fun b20 => ?_) (fun b20 => ?_)
        · skip
          refine K_iload_n (pc := 66) (i := 41) rfl rfl ?_
          exact K_retI (pc := 67) (i := 42) rfl rfl ⟨rfl, by omega, (show x3 = h 184 1 by omega) ▸ hV15.2.2⟩
        · skip
          refine K_aload_n (pc := 23) (i := 13) rfl rfl ?_
          refine K_getR (pc := 24) (i := 14) (j := 0) (d := 185) rfl S_184 rfl (by decide) rfl fw_Model_7 ?_
          refine K_iconst (pc := 27) (i := 15) rfl ?_
          refine K_iload_n (pc := 28) (i := 16) rfl rfl ?_
          refine K_imul (pc := 29) (i := 17) rfl ?_
          refine K_iconst (pc := 30) (i := 18) rfl ?_
          refine K_iadd (pc := 31) (i := 19) rfl ?_
          refine K_iald (pc := 32) (i := 20) rfl S_185 (by omega) (by omega) (by decide) ?_
          refine K_nm (fun v32 e32 => ?_)
          have r32 := rd_readKites hI ((5 * x3) + 1).toNat
          rw [← e32] at r32
          have u32 := hr x3.toNat (by omega)
          have w32 : h 185 (5 * x3.toNat + 1) = v32 := by rw [e32, show 5 * x3.toNat + 1 = ((5 * x3) + 1).toNat by omega]
          rw [w32] at u32
          refine K_ist (pc := 33) (i := 21) (lo' := [(0, _), (1, _), (2, _), (3, _), (4, _)]) rfl rfl rfl rfl ?_
          refine K_iload_n (pc := 35) (i := 22) rfl rfl ?_
          refine K_iload (pc := 36) (i := 23) rfl rfl ?_
          refine K_bipush (pc := 38) (i := 24) rfl rfl ?_
          refine K_idiv (pc := 40) (i := 25) rfl (by omega) (by omega) ?_
          refine K_eq (kDiv_eq (by omega) (by omega) (by omega) (by omega)) ?_
          refine K_iload_n (pc := 41) (i := 26) rfl rfl ?_
          first | refine K_icmp_ne 57 (pc := 42) (i := 27) rfl rfl (by omega) (by omega) (fun b42 => ?_) (fun b42 => ?_) | refine K_icmp_ne_an 57 (pc := 42) (i := 27) rfl rfl (fun b42 => ?_) (fun b42 => ?_)
          · skip
            refine K_iconst (pc := 57) (i := 36) rfl ?_
            refine K_iand (pc := 58) (i := 37) rfl ?_
            refine K_nm (fun v58 e58 => ?_)
            have r58 := kAnd_R x2 (-1)
            rw [← e58] at r58
            refine K_ist_n (pc := 59) (i := 38) (lo' := [(0, _), (1, _), (2, _), (3, _), (4, _)]) rfl rfl rfl rfl ?_
            refine K_inc (pc := 60) (i := 39) (q := 3) (lo' := [(0, _), (1, _), (2, _), (3, _), (4, _)]) rfl rfl rfl rfl rfl ?_
            refine K_goto 15 (pc := 63) (i := 40) rfl rfl ?_
            refine K_drop (lo' := [(0, .ref (G.2.2.2 184)), (1, kI x1), (2, kI v58), (3, kI (x3 + 1))]) [0, 1, 2, 3] rfl ?_
            exact ih15 v58 (x3 + 1) (by omega) ⟨by omega, by omega, by rw [e58]; first | (rw [e53, e51]; exact FrI.in hV15.2.2 (by omega) w32 (by omega) (by omega)) | exact FrI.out hV15.2.2 (by omega) w32 (by omega) (by omega)⟩
          · skip
            refine K_iconst (pc := 45) (i := 28) rfl ?_
            refine K_iload (pc := 46) (i := 29) rfl rfl ?_
            refine K_bipush (pc := 48) (i := 30) rfl rfl ?_
            refine K_irem (pc := 50) (i := 31) rfl (by omega) (by omega) ?_
            refine K_eq (kRem_eq (by omega) (by omega) (by omega) (by omega)) ?_
            refine K_ishl (pc := 51) (i := 32) rfl ?_
            refine K_nm (fun v51 e51 => ?_)
            have r51 := kShl_R 1 (v32 % 10)
            rw [← e51] at r51
            refine K_iconst (pc := 52) (i := 33) rfl ?_
            refine K_ixor (pc := 53) (i := 34) rfl ?_
            refine K_nm (fun v53 e53 => ?_)
            have r53 := kXor_R v51 (-1)
            rw [← e53] at r53
            refine K_goto 58 (pc := 54) (i := 35) rfl rfl ?_
            refine K_iand (pc := 58) (i := 37) rfl ?_
            refine K_nm (fun v58 e58 => ?_)
            have r58 := kAnd_R x2 v53
            rw [← e58] at r58
            refine K_ist_n (pc := 59) (i := 38) (lo' := [(0, _), (1, _), (2, _), (3, _), (4, _)]) rfl rfl rfl rfl ?_
            refine K_inc (pc := 60) (i := 39) (q := 3) (lo' := [(0, _), (1, _), (2, _), (3, _), (4, _)]) rfl rfl rfl rfl rfl ?_
            refine K_goto 15 (pc := 63) (i := 40) rfl rfl ?_
            refine K_drop (lo' := [(0, .ref (G.2.2.2 184)), (1, kI x1), (2, kI v58), (3, kI (x3 + 1))]) [0, 1, 2, 3] rfl ?_
            exact ih15 v58 (x3 + 1) (by omega) ⟨by omega, by omega, by rw [e58]; first | (rw [e53, e51]; exact FrI.in hV15.2.2 (by omega) w32 (by omega) (by omega)) | exact FrI.out hV15.2.2 (by omega) w32 (by omega) (by omega)⟩
    exact L15 _ 1 0 (Nat.lt_succ_self _) ⟨by omega, by omega, by first | exact FrI.oth (by omega) | (rw [show x1 = 4 by omega]; exact FrI.four)⟩
/-- nothing but the kite that is being read has changed, and the place in the text and the fault -/
def KPr (h h' : kH) (m : Nat) : Prop := (∀ j, j < 5 * m ∨ 5 * m + 5 ≤ j → h' 185 j = h 185 j) ∧ h' 184 1 = h 184 1
theorem KPr.fig {h h1 h2 : kH} {m : Nat} (a : KPr h h1 m) (b : FRm h1 h2) : KPr h h2 m := ⟨fun j hj => by rw [b.1 185 (by decide)]; exact a.1 j hj, (b.2 1 (by decide) (by decide)).trans a.2⟩
theorem KPr.at {h h1 : kH} {m : Nat} {v : Int} (a : KPr h h1 m) : KPr h (kU h1 184 9 v) m := ⟨fun j hj => by rw [kU_c _ _ _ _ (show (185 : Nat) ≠ 184 by decide)]; exact a.1 j hj, by rw [kU_at, if_neg (by omega)]; exact a.2⟩
theorem KPr.st {h h1 : kH} {m i : Nat} {v : Int} (a : KPr h h1 m) (hi : 5 * m ≤ i ∧ i < 5 * m + 5) : KPr h (kU h1 185 i v) m := ⟨fun j hj => by rw [kU_at, if_neg (by omega)]; exact a.1 j hj, by rw [kU_at, if_neg (by omega)]; exact a.2⟩
theorem KPr.hr {h h1 : kH} {m : Nat} (a : KPr h h1 m) (e : h 184 1 = m) (hk : FK (h 185) (h 184 1)) : ∀ k : Nat, (k : Int) < h1 184 1 → 0 ≤ h1 185 (5 * k + 1) ∧ h1 185 (5 * k + 1) ≤ 40 := by
  intro k hk1
  rw [a.2] at hk1
  rw [a.1 (5 * k + 1) (by omega)]
  exact (hk k hk1).1
theorem KPr.fr {h h1 : kH} {m : Nat} {t z : Int} (a : KPr h h1 m) (e : h 184 1 = m) (b : FrB h1 t z (h1 184 1)) : FrB h t z (h 184 1) := by
  intro v a0 a9 tv
  obtain ⟨p1, p2⟩ := b v a0 a9 tv
  refine ⟨p1, fun k hk => ?_⟩
  have := p2 k (by rw [a.2]; exact hk)
  rwa [a.1 (5 * k + 1) (by omega)] at this
theorem FK.add {k k' : Nat → Int} {n : Int} {m : Nat} (a : FK k n) (hn : n = m) (e : ∀ j, j < 5 * m → k' j = k j) (h1 : 0 ≤ k' (5 * m + 1) ∧ k' (5 * m + 1) ≤ 40) (h2 : 0 ≤ k' (5 * m + 2) ∧ k' (5 * m + 2) ≤ 40) (h3 : 1 ≤ k' (5 * m + 3) ∧ k' (5 * m + 3) ≤ 9) (h4 : ∀ i : Nat, i < m → k (5 * i + 1) ≠ k' (5 * m + 1)) : FK k' (n + 1) := by
  intro i hi
  by_cases him : i = m
  · subst him
    refine ⟨h1, h2, h3, fun j hj hne => ?_⟩
    rw [e (5 * j + 1) (by omega)]
    exact fun q => h4 j (by omega) q.symm
  · obtain ⟨q1, q2, q3, q4⟩ := a i (by omega)
    rw [e (5 * i + 1) (by omega), e (5 * i + 2) (by omega), e (5 * i + 3) (by omega)]
    refine ⟨q1, q2, q3, fun j hj hne => ?_⟩
    by_cases hjm : j = m
    · subst hjm; exact h4 i (by omega)
    · rw [e (5 * j + 1) (by omega)]; exact q4 j (by omega) hne
set_option maxHeartbeats 4000000 in
set_option maxRecDepth 100000 in
theorem c_Model_readKite (G : kG) {g : kGh} {h : kH} (hm : h 184 1 ≤ 7) (ha : h 184 9 ≤ 73) (hk : FK (h 185) (h 184 1)) (hr : (h 184 10 = -9 ∧ h 184 9 = 10 + 8 * h 184 1 ∧ h 184 9 < h 184 8 ∧ h 190 (h 184 9).toNat = 75) ∧ (∀ j, 0 ≤ j → j < h 184 9 → mayS (h 190) j) ∧ Dec h (h 190) (h 184 1)) (hI : Gd g h) : Ctr G y_Model_readKite X_Model_readKite 3 [.ref (G.2.2.2 184)] h (kQv (fun h' => Fx (fun c i => c = 185 ∨ (c = 184 ∧ (i = 1 ∨ i = 9 ∨ i = 10))) h h' ∧ (Gd g h' ∧ h' 184 1 = h 184 1 + 1 ∧ (h' 184 10 = -9 → FK (h' 185) (h' 184 1)) ∧ RS h' (h 190) (h 184 8) (10 + 8 * h' 184 1) ∧ (h' 184 10 = -9 → Dec h' (h 190) (h' 184 1))))) := by
  refine Ctr.ofK (by decide) rfl T_Model_readKite (Nat.le_of_ble_eq_true rfl) (lo := [(0, .ref (G.2.2.2 184))]) rfl ?_
  have fx : Fx (fun c i => c = 185 ∨ (c = 184 ∧ (i = 1 ∨ i = 9 ∨ i = 10))) h h := Fx.rf
  obtain ⟨m, em⟩ : ∃ m : Nat, h 184 1 = m := Int.eq_ofNat_of_zero_le (rd_readMany hI).1
  have kp0 : KPr h h m := ⟨fun _ _ => rfl, rfl⟩
  obtain ⟨⟨q10, q9, qlt, qK⟩, qM, qD⟩ := hr
  refine K_aload_n (pc := 0) (i := 0) rfl rfl ?_
  refine K_dup (pc := 1) (i := 1) rfl rfl ?_
  refine K_getI (pc := 2) (i := 2) (j := 9) rfl S_184 rfl (by decide) rfl fw_Model_77 ?_
  refine K_nm (fun v2 e2 => ?_)
  have r2 := rd_at hI
  rw [← e2] at r2
  refine K_iconst (pc := 5) (i := 3) rfl ?_
  refine K_iadd (pc := 6) (i := 4) rfl ?_
  refine K_putI (pc := 7) (i := 5) (j := 9) rfl S_184 rfl (by decide) rfl rfl rfl fw_Model_77 ?_
  have hI := st_at hI (v := v2 + 1) (by omega)
  have fx := Fx.st (c := 184) (i := 9) (v := v2 + 1) fx (by first | (dsimp only; omega) | omega | exact not_false)
  have kp7 := KPr.at (v := v2 + 1) kp0
  have rs7 : RS (kU h 184 9 (v2 + 1)) (h 190) (h 184 8) (10 + (m : Int) * 8 + 1) := ⟨fun _ => ⟨by rw [kU_at, if_pos ⟨rfl, rfl⟩]; omega, by omega, fun j j0 j1 => if q : j = h 184 9 then (by rw [q]; exact (mayS_r0 (by omega) (by omega)).2 qK) else qM j j0 (by omega)⟩, fun e => absurd (show (kU h 184 9 (v2 + 1)) 184 10 = -9 by rw [kU_at, if_neg (by omega)]; exact q10) e⟩
  refine K_iconst (pc := 10) (i := 6) rfl ?_
  refine K_aload_n (pc := 11) (i := 7) rfl rfl ?_
  refine K_getI (pc := 12) (i := 8) (j := 1) rfl S_184 rfl (by decide) rfl fw_Model_82 ?_
  refine K_nm (fun v12 e12 => ?_)
  have r12 := rd_readMany hI
  rw [← e12] at r12
  have t12 : v12 = m := by rw [e12, kp7.2, em]
  refine K_imul (pc := 15) (i := 9) rfl ?_
  refine K_ist_n (pc := 16) (i := 10) (lo' := [(0, _), (1, _)]) rfl rfl rfl rfl ?_
  refine K_aload_n (pc := 17) (i := 11) rfl rfl ?_
  refine K_getR (pc := 18) (i := 12) (j := 0) (d := 185) rfl S_184 rfl (by decide) rfl fw_Model_7 ?_
  refine K_iload_n (pc := 21) (i := 13) rfl rfl ?_
  refine K_aload_n (pc := 22) (i := 14) rfl rfl ?_
  refine K_iconst (pc := 23) (i := 15) rfl ?_
  have eb24 : (kU h 184 9 (v2 + 1)) 190 = h 190 := fx.cell 190 (fun i => (by first | (dsimp only; omega) | omega))
  have el24 : (kU h 184 9 (v2 + 1)) 184 8 = h 184 8 := fx 184 8 (by first | (dsimp only; omega) | omega)
  refine K_cVI (pc := 24) (i := 16) rfl (c_Model_figure G (x1 := 3) (hI := hI)) S_184 rfl (lv_Model_85 rfl) rfl rfl rfl rfl rfl (fun v24 h24 q24 => ?_)
  obtain ⟨fx24, q24⟩ := q24
  obtain ⟨hI, fm24, r24, w24, fg24⟩ := q24
  have fx := fx.tr fx24 (fun c i q => (by first | (dsimp only at q ⊢; omega) | omega))
  obtain ⟨rs24, dv24⟩ := RS.fig (p := (10 + (m : Int) * 8 + 1)) (q := (10 + (m : Int) * 8 + 2)) rs7 fg24 eb24 el24 (by omega) (by omega) (fun _ _ => may_tb (mayS_r1 (by omega) (by omega)) (by omega) (by omega) (fun v a b => by rw [tbc_3 a (by omega)]; try omega)) (by omega)
  have kp24 := kp7.fig fm24
  have u24 : v24 ≤ 1 := by
      rcases r24.2.2 with q | q
      · omega
      · exact (tb_c ⟨r24.1, r24.2.1⟩).1 q
  refine K_iast (pc := 27) (i := 17) rfl S_185 (by omega) (by omega) (by decide) ?_
  have hI := st_readKites hI (i := (5 * v12).toNat) (v := v24) (by unfold bK; omega)
  have fx := Fx.st (c := 185) (i := (5 * v12).toNat) (v := v24) fx (by first | (dsimp only; omega) | omega | exact not_false)
  have rs27 := RS.st (c := 185) (i := (5 * v12).toNat) (v := v24) rs24 (by decide)
  have kp27 := KPr.st (i := (5 * v12).toNat) (v := v24) kp24 (by omega)
  have hr27 := kp27.hr em hk
  have dc27 : Dec (kU h24 185 ((5 * v12).toNat) v24) (h 190) ((kU h24 185 ((5 * v12).toNat) v24) 184 1) := by rw [kp27.2]; exact qD.of (m := m) (by omega) (fun j hj => kp27.1 j (Or.inl hj))
  have m27 : (kU h24 185 ((5 * v12).toNat) v24) 184 1 = m := by rw [kp27.2, em]
  refine K_iconst (pc := 28) (i := 18) rfl ?_
  refine K_ist_n (pc := 29) (i := 19) (lo' := [(0, _), (1, _), (2, _)]) rfl rfl rfl rfl ?_
  refine K_iconst (pc := 30) (i := 20) rfl ?_
  refine K_ist_n (pc := 31) (i := 21) (lo' := [(0, _), (1, _), (2, _), (3, _)]) rfl rfl rfl rfl ?_
  have L32 : ∀ (n : Nat) (x2 : Int) (x3 : Int), (5 - x3).toNat < n → ((0 ≤ x3 ∧ x3 ≤ 5) ∧ OpI (kU h24 185 ((5 * v12).toNat) v24) x2 ((kU h24 185 ((5 * v12).toNat) v24) 184 1) x3) → K X_Model_readKite G (kZm G 3 (kQv (fun h' => Fx (fun c i => c = 185 ∨ (c = 184 ∧ (i = 1 ∨ i = 9 ∨ i = 10))) h h' ∧ (Gd g h' ∧ h' 184 1 = h 184 1 + 1 ∧ (h' 184 10 = -9 → FK (h' 185) (h' 184 1)) ∧ RS h' (h 190) (h 184 8) (10 + 8 * h' 184 1) ∧ (h' 184 10 = -9 → Dec h' (h 190) (h' 184 1)))))) 32 [(0, .ref (G.2.2.2 184)), (1, kI (5 * v12)), (2, kI x2), (3, kI x3)] [] (kU h24 185 ((5 * v12).toNat) v24) := by
    intro n
    induction n with
    | zero => intro x2 x3 hm; exact absurd hm (Nat.not_lt_zero _)
    | succ n ih32 =>
      intro x2 x3 hm32 hV32
      refine K_iload_n (pc := 32) (i := 22) rfl rfl ?_
      refine K_iconst (pc := 33) (i := 23) rfl ?_
      first | refine K_icmp_ge 61 (pc := 34) (i := 24) rfl rfl (by omega) (by omega) (fun b34 => ?_) (fun b34 => ?_) | refine K_icmp_ge_an 61 (pc := 34) (i := 24) rfl rfl (fun b34 => ?_) (fun b34 => ?_)
      · skip
        refine K_aload_n (pc := 61) (i := 39) rfl rfl ?_
        refine K_iload_n (pc := 62) (i := 40) rfl rfl ?_
        have eb63 : (kU h24 185 ((5 * v12).toNat) v24) 190 = h 190 := fx.cell 190 (fun i => (by first | (dsimp only; omega) | omega))
        have el63 : (kU h24 185 ((5 * v12).toNat) v24) 184 8 = h 184 8 := fx 184 8 (by first | (dsimp only; omega) | omega)
        refine K_cVI (pc := 63) (i := 41) rfl (c_Model_figure G (x1 := x2) (hI := hI)) S_184 rfl (lv_Model_85 rfl) rfl rfl rfl rfl rfl (fun v63 h63 q63 => ?_)
        obtain ⟨fx63, q63⟩ := q63
        obtain ⟨hI, fm63, r63, w63, fg63⟩ := q63
        have fx := fx.tr fx63 (fun c i q => (by first | (dsimp only at q ⊢; omega) | omega))
        have op63 := (show x3 = 5 by omega) ▸ hV32.2
        obtain ⟨rs63, dv63⟩ := RS.fig (p := (10 + (m : Int) * 8 + 2)) (q := (10 + (m : Int) * 8 + 3)) rs27 fg63 eb63 el63 (by omega) (by omega) (fun _ _ => may_2 op63 dc27 (by omega) (by omega) (by omega)) (by omega)
        have kp63 := kp27.fig fm63
        have hr63 := kp63.hr em hk
        have dc63 : Dec h63 (h 190) (h63 184 1) := by rw [kp63.2]; exact qD.of (m := m) (by omega) (fun j hj => kp63.1 j (Or.inl hj))
        have m63 : h63 184 1 = m := by rw [kp63.2, em]
        have dd63 : h63 184 10 = -9 → v63 = h 190 (10 + (m : Int) * 8 + 2).toNat - 48 ∧ v24 = h 190 (10 + (m : Int) * 8 + 1).toNat - 48 := fun e => ⟨(dv63 e).2, (dv24 (by have q := (dv63 e).1; rw [(kU_c _ _ _ _ (show (184 : Nat) ≠ 185 by decide))] at q; exact q)).2⟩
        have t63 : h63 184 10 = -9 → 0 ≤ v63 ∧ v63 ≤ 4 := fun e => by have q := ((mayS_r2 (by omega) (by omega)).1 ((rs63.1 e).2.2 (10 + (m : Int) * 8 + 2) (by omega) (by omega))).1; rw [← (dd63 e).1] at q; exact q
        refine K_ist_n (pc := 66) (i := 42) (lo' := [(0, _), (1, _), (2, _), (3, _)]) rfl rfl rfl rfl ?_
        refine K_aload_n (pc := 67) (i := 43) rfl rfl ?_
        refine K_getR (pc := 68) (i := 44) (j := 0) (d := 185) rfl S_184 rfl (by decide) rfl fw_Model_7 ?_
        refine K_iload_n (pc := 71) (i := 45) rfl rfl ?_
        refine K_iconst (pc := 72) (i := 46) rfl ?_
        refine K_iadd (pc := 73) (i := 47) rfl ?_
        refine K_bipush (pc := 74) (i := 48) rfl rfl ?_
        refine K_iload_n (pc := 76) (i := 49) rfl rfl ?_
        refine K_imul (pc := 77) (i := 50) rfl ?_
        refine K_aload_n (pc := 78) (i := 51) rfl rfl ?_
        refine K_aload_n (pc := 79) (i := 52) rfl rfl ?_
        refine K_iload_n (pc := 80) (i := 53) rfl rfl ?_
        refine K_cVI (pc := 81) (i := 54) rfl (c_Model_free G (x1 := v63) (hr := hr63) (hI := hI) (s1 := by omega)) S_184 rfl (lv_Model_92 rfl) rfl rfl rfl rfl rfl (fun v81 h81 q81 => ?_)
        obtain ⟨eh, r81⟩ := q81
        rw [eh]; clear eh
        have eb84 : (h63) 190 = h 190 := fx.cell 190 (fun i => (by first | (dsimp only; omega) | omega))
        have el84 : (h63) 184 8 = h 184 8 := fx 184 8 (by first | (dsimp only; omega) | omega)
        refine K_cVI (pc := 84) (i := 55) rfl (c_Model_figure G (x1 := v81) (hI := hI)) S_184 rfl (lv_Model_85 rfl) rfl rfl rfl rfl rfl (fun v84 h84 q84 => ?_)
        obtain ⟨fx84, q84⟩ := q84
        obtain ⟨hI, fm84, r84, w84, fg84⟩ := q84
        have fx := fx.tr fx84 (fun c i q => (by first | (dsimp only at q ⊢; omega) | omega))
        obtain ⟨rs84, dv84⟩ := RS.fig (p := (10 + (m : Int) * 8 + 3)) (q := (10 + (m : Int) * 8 + 4)) rs63 fg84 eb84 el84 (by omega) (by omega) (fun e _ => may_3 r81.2 dc63 (by omega) (by omega) (by omega) (by rw [show (10 + (m : Int) * 8 + 3) - 1 = (10 + (m : Int) * 8 + 2) by omega]; exact (dd63 e).1) (t63 e)) (by omega)
        have kp84 := kp63.fig fm84
        have dd84 : h84 184 10 = -9 → v84 = h 190 (10 + (m : Int) * 8 + 3).toNat - 48 ∧ v63 = h 190 (10 + (m : Int) * 8 + 2).toNat - 48 ∧ v24 = h 190 (10 + (m : Int) * 8 + 1).toNat - 48 := fun e => ⟨(dv84 e).2, dd63 (dv84 e).1⟩
        refine K_iadd (pc := 87) (i := 56) rfl ?_
        refine K_iast (pc := 88) (i := 57) rfl S_185 (by omega) (by omega) (by decide) ?_
        have hI := st_readKites hI (i := ((5 * v12) + 1).toNat) (v := (10 * v63) + v84) (by unfold bK; omega)
        have fx := Fx.st (c := 185) (i := ((5 * v12) + 1).toNat) (v := (10 * v63) + v84) fx (by first | (dsimp only; omega) | omega | exact not_false)
        have rs88 := RS.st (c := 185) (i := ((5 * v12) + 1).toNat) (v := (10 * v63) + v84) rs84 (by decide)
        have kp88 := KPr.st (i := ((5 * v12) + 1).toNat) (v := (10 * v63) + v84) kp84 (by omega)
        refine K_aload_n (pc := 89) (i := 58) rfl rfl ?_
        refine K_bipush (pc := 90) (i := 59) rfl rfl ?_
        have eb92 : (kU h84 185 (((5 * v12) + 1).toNat) ((10 * v63) + v84)) 190 = h 190 := fx.cell 190 (fun i => (by first | (dsimp only; omega) | omega))
        have el92 : (kU h84 185 (((5 * v12) + 1).toNat) ((10 * v63) + v84)) 184 8 = h 184 8 := fx 184 8 (by first | (dsimp only; omega) | omega)
        refine K_cVI (pc := 92) (i := 60) rfl (c_Model_figure G (x1 := 31) (hI := hI)) S_184 rfl (lv_Model_85 rfl) rfl rfl rfl rfl rfl (fun v92 h92 q92 => ?_)
        obtain ⟨fx92, q92⟩ := q92
        obtain ⟨hI, fm92, r92, w92, fg92⟩ := q92
        have fx := fx.tr fx92 (fun c i q => (by first | (dsimp only at q ⊢; omega) | omega))
        obtain ⟨rs92, dv92⟩ := RS.fig (p := (10 + (m : Int) * 8 + 4)) (q := (10 + (m : Int) * 8 + 5)) rs88 fg92 eb92 el92 (by omega) (by omega) (fun _ _ => may_tb (mayS_r4 (by omega) (by omega)) (by omega) (by omega) (fun v a b => by rw [tbc_31 a (by omega)]; try omega)) (by omega)
        have kp92 := kp88.fig fm92
        have dd92 : h92 184 10 = -9 → v92 = h 190 (10 + (m : Int) * 8 + 4).toNat - 48 ∧ v84 = h 190 (10 + (m : Int) * 8 + 3).toNat - 48 ∧ v63 = h 190 (10 + (m : Int) * 8 + 2).toNat - 48 ∧ v24 = h 190 (10 + (m : Int) * 8 + 1).toNat - 48 := fun e => ⟨(dv92 e).2, dd84 (by have q := (dv92 e).1; rw [(kU_c _ _ _ _ (show (184 : Nat) ≠ 185 by decide))] at q; exact q)⟩
        have t92 : h92 184 10 = -9 → 0 ≤ v92 ∧ v92 ≤ 4 := fun e => by have q := (mayS_r4 (by omega) (by omega)).1 ((rs92.1 e).2.2 (10 + (m : Int) * 8 + 4) (by omega) (by omega)); rw [← (dd92 e).1] at q; exact q
        refine K_ist (pc := 95) (i := 61) (lo' := [(0, _), (1, _), (2, _), (3, _), (4, _)]) rfl rfl rfl rfl ?_
        refine K_aload_n (pc := 97) (i := 62) rfl rfl ?_
        refine K_getR (pc := 98) (i := 63) (j := 0) (d := 185) rfl S_184 rfl (by decide) rfl fw_Model_7 ?_
        refine K_iload_n (pc := 101) (i := 64) rfl rfl ?_
        refine K_iconst (pc := 102) (i := 65) rfl ?_
        refine K_iadd (pc := 103) (i := 66) rfl ?_
        refine K_bipush (pc := 104) (i := 67) rfl rfl ?_
        refine K_iload (pc := 106) (i := 68) rfl rfl ?_
        refine K_imul (pc := 108) (i := 69) rfl ?_
        refine K_aload_n (pc := 109) (i := 70) rfl rfl ?_
        refine K_iload (pc := 110) (i := 71) rfl rfl ?_
        refine K_iconst (pc := 112) (i := 72) rfl ?_
        first | refine K_icmp_ne 120 (pc := 113) (i := 73) rfl rfl (by omega) (by omega) (fun b113 => ?_) (fun b113 => ?_) | refine K_icmp_ne_an 120 (pc := 113) (i := 73) rfl rfl (fun b113 => ?_) (fun b113 => ?_)
        · skip
          refine K_sipush (pc := 120) (i := 76) rfl rfl ?_
          have eb123 : (h92) 190 = h 190 := fx.cell 190 (fun i => (by first | (dsimp only; omega) | omega))
          have el123 : (h92) 184 8 = h 184 8 := fx 184 8 (by first | (dsimp only; omega) | omega)
          refine K_cVI (pc := 123) (i := 77) rfl (c_Model_figure G (x1 := 1023) (hI := hI)) S_184 rfl (lv_Model_85 rfl) rfl rfl rfl rfl rfl (fun v123 h123 q123 => ?_)
          obtain ⟨fx123, q123⟩ := q123
          obtain ⟨hI, fm123, r123, w123, fg123⟩ := q123
          have fx := fx.tr fx123 (fun c i q => (by first | (dsimp only at q ⊢; omega) | omega))
          obtain ⟨rs123, dv123⟩ := RS.fig (p := (10 + (m : Int) * 8 + 5)) (q := (10 + (m : Int) * 8 + 6)) rs92 fg123 eb123 el123 (by omega) (by omega) (fun e _ => may_5 (by omega) (by omega) (by rw [show (10 + (m : Int) * 8 + 5) - 1 = (10 + (m : Int) * 8 + 4) by omega]; exact (dd92 e).1) (t92 e) (fun v a b => by first | (rw [tbc_1 a (by omega)]; omega) | (rw [tbc_1023 a (by omega)]; omega))) (by omega)
          have kp123 := kp92.fig fm123
          have dd123 : h123 184 10 = -9 → v123 = h 190 (10 + (m : Int) * 8 + 5).toNat - 48 ∧ v92 = h 190 (10 + (m : Int) * 8 + 4).toNat - 48 ∧ v84 = h 190 (10 + (m : Int) * 8 + 3).toNat - 48 ∧ v63 = h 190 (10 + (m : Int) * 8 + 2).toNat - 48 ∧ v24 = h 190 (10 + (m : Int) * 8 + 1).toNat - 48 := fun e => ⟨(dv123 e).2, dd92 (dv123 e).1⟩
          refine K_iadd (pc := 126) (i := 78) rfl ?_
          refine K_iast (pc := 127) (i := 79) rfl S_185 (by omega) (by omega) (by decide) ?_
          have hI := st_readKites hI (i := ((5 * v12) + 2).toNat) (v := (10 * v92) + v123) (by unfold bK; omega)
          have fx := Fx.st (c := 185) (i := ((5 * v12) + 2).toNat) (v := (10 * v92) + v123) fx (by first | (dsimp only; omega) | omega | exact not_false)
          have rs127 := RS.st (c := 185) (i := ((5 * v12) + 2).toNat) (v := (10 * v92) + v123) rs123 (by decide)
          have kp127 := KPr.st (i := ((5 * v12) + 2).toNat) (v := (10 * v92) + v123) kp123 (by omega)
          refine K_aload_n (pc := 128) (i := 80) rfl rfl ?_
          refine K_getR (pc := 129) (i := 81) (j := 0) (d := 185) rfl S_184 rfl (by decide) rfl fw_Model_7 ?_
          refine K_iload_n (pc := 132) (i := 82) rfl rfl ?_
          refine K_iconst (pc := 133) (i := 83) rfl ?_
          refine K_iadd (pc := 134) (i := 84) rfl ?_
          refine K_aload_n (pc := 135) (i := 85) rfl rfl ?_
          refine K_sipush (pc := 136) (i := 86) rfl rfl ?_
          have eb139 : (kU h123 185 (((5 * v12) + 2).toNat) ((10 * v92) + v123)) 190 = h 190 := fx.cell 190 (fun i => (by first | (dsimp only; omega) | omega))
          have el139 : (kU h123 185 (((5 * v12) + 2).toNat) ((10 * v92) + v123)) 184 8 = h 184 8 := fx 184 8 (by first | (dsimp only; omega) | omega)
          refine K_cVI (pc := 139) (i := 87) rfl (c_Model_figure G (x1 := 1022) (hI := hI)) S_184 rfl (lv_Model_85 rfl) rfl rfl rfl rfl rfl (fun v139 h139 q139 => ?_)
          obtain ⟨fx139, q139⟩ := q139
          obtain ⟨hI, fm139, r139, w139, fg139⟩ := q139
          have fx := fx.tr fx139 (fun c i q => (by first | (dsimp only at q ⊢; omega) | omega))
          obtain ⟨rs139, dv139⟩ := RS.fig (p := (10 + (m : Int) * 8 + 6)) (q := (10 + (m : Int) * 8 + 7)) rs127 fg139 eb139 el139 (by omega) (by omega) (fun _ _ => may_tb (mayS_r6 (by omega) (by omega)) (by omega) (by omega) (fun v a b => by rw [tbc_1022 a (by omega)]; try omega)) (by omega)
          have kp139 := kp127.fig fm139
          refine K_iast (pc := 142) (i := 88) rfl S_185 (by omega) (by omega) (by decide) ?_
          have hI := st_readKites hI (i := ((5 * v12) + 3).toNat) (v := v139) (by unfold bK; omega)
          have fx := Fx.st (c := 185) (i := ((5 * v12) + 3).toNat) (v := v139) fx (by first | (dsimp only; omega) | omega | exact not_false)
          have rs142 := RS.st (c := 185) (i := ((5 * v12) + 3).toNat) (v := v139) rs139 (by decide)
          have kp142 := KPr.st (i := ((5 * v12) + 3).toNat) (v := v139) kp139 (by omega)
          refine K_aload_n (pc := 143) (i := 89) rfl rfl ?_
          refine K_getR (pc := 144) (i := 90) (j := 0) (d := 185) rfl S_184 rfl (by decide) rfl fw_Model_7 ?_
          refine K_iload_n (pc := 147) (i := 91) rfl rfl ?_
          refine K_iconst (pc := 148) (i := 92) rfl ?_
          refine K_iadd (pc := 149) (i := 93) rfl ?_
          refine K_aload_n (pc := 150) (i := 94) rfl rfl ?_
          refine K_sipush (pc := 151) (i := 95) rfl rfl ?_
          have eb154 : (kU h139 185 (((5 * v12) + 3).toNat) v139) 190 = h 190 := fx.cell 190 (fun i => (by first | (dsimp only; omega) | omega))
          have el154 : (kU h139 185 (((5 * v12) + 3).toNat) v139) 184 8 = h 184 8 := fx 184 8 (by first | (dsimp only; omega) | omega)
          refine K_cVI (pc := 154) (i := 96) rfl (c_Model_figure G (x1 := 1023) (hI := hI)) S_184 rfl (lv_Model_85 rfl) rfl rfl rfl rfl rfl (fun v154 h154 q154 => ?_)
          obtain ⟨fx154, q154⟩ := q154
          obtain ⟨hI, fm154, r154, w154, fg154⟩ := q154
          have fx := fx.tr fx154 (fun c i q => (by first | (dsimp only at q ⊢; omega) | omega))
          obtain ⟨rs154, dv154⟩ := RS.fig (p := (10 + (m : Int) * 8 + 7)) (q := (10 + (m : Int) * 8 + 8)) rs142 fg154 eb154 el154 (by omega) (by omega) (fun _ _ => may_tb (mayS_r7 (by omega) (by omega)) (by omega) (by omega) (fun v a b => by rw [tbc_1023 a (by omega)]; try omega)) (by omega)
          have kp154 := kp142.fig fm154
          have dd154 : h154 184 10 = -9 → v154 = h 190 (10 + (m : Int) * 8 + 7).toNat - 48 ∧ v139 = h 190 (10 + (m : Int) * 8 + 6).toNat - 48 ∧ v123 = h 190 (10 + (m : Int) * 8 + 5).toNat - 48 ∧ v92 = h 190 (10 + (m : Int) * 8 + 4).toNat - 48 ∧ v84 = h 190 (10 + (m : Int) * 8 + 3).toNat - 48 ∧ v63 = h 190 (10 + (m : Int) * 8 + 2).toNat - 48 ∧ v24 = h 190 (10 + (m : Int) * 8 + 1).toNat - 48 := fun e => ⟨(dv154 e).2, (dv139 (by have q := (dv154 e).1; rw [(kU_c _ _ _ _ (show (184 : Nat) ≠ 185 by decide))] at q; exact q)).2, dd123 (by have q := (dv139 (by have q := (dv154 e).1; rw [(kU_c _ _ _ _ (show (184 : Nat) ≠ 185 by decide))] at q; exact q)).1; rw [(kU_c _ _ _ _ (show (184 : Nat) ≠ 185 by decide))] at q; exact q)⟩
          refine K_iast (pc := 157) (i := 97) rfl S_185 (by omega) (by omega) (by decide) ?_
          have hI := st_readKites hI (i := ((5 * v12) + 4).toNat) (v := v154) (by unfold bK; omega)
          have fx := Fx.st (c := 185) (i := ((5 * v12) + 4).toNat) (v := v154) fx (by first | (dsimp only; omega) | omega | exact not_false)
          have rs157 := RS.st (c := 185) (i := ((5 * v12) + 4).toNat) (v := v154) rs154 (by decide)
          have kp157 := KPr.st (i := ((5 * v12) + 4).toNat) (v := v154) kp154 (by omega)
          refine K_aload_n (pc := 158) (i := 98) rfl rfl ?_
          refine K_dup (pc := 159) (i := 99) rfl rfl ?_
          refine K_getI (pc := 160) (i := 100) (j := 1) rfl S_184 rfl (by decide) rfl fw_Model_82 ?_
          refine K_nm (fun v160 e160 => ?_)
          have r160 := rd_readMany hI
          rw [← e160] at r160
          have t160 : v160 = m := by rw [e160, kp157.2, em]
          refine K_iconst (pc := 163) (i := 101) rfl ?_
          refine K_iadd (pc := 164) (i := 102) rfl ?_
          refine K_putI (pc := 165) (i := 103) (j := 1) rfl S_184 rfl (by decide) rfl rfl rfl fw_Model_82 ?_
          have hI := st_readMany hI (v := v160 + 1) (by omega)
          have fx := Fx.st (c := 184) (i := 1) (v := v160 + 1) fx (by first | (dsimp only; omega) | omega | exact not_false)
          exact K_retV (pc := 168) (i := 104) rfl rfl ⟨fx, (by
    have i0 : (5 * v12).toNat = 5 * m := by omega
    have i1 : ((5 * v12) + 1).toNat = 5 * m + 1 := by omega
    have i2 : ((5 * v12) + 2).toNat = 5 * m + 2 := by omega
    have i3 : ((5 * v12) + 3).toNat = 5 * m + 3 := by omega
    have i4 : ((5 * v12) + 4).toNat = 5 * m + 4 := by omega
    have V4 : (kU (kU h154 185 (((5 * v12) + 4).toNat) v154) 184 1 (v160 + 1)) 185 (5 * m + 4) = v154 := by
      rw [kU_c _ _ _ _ (show (185 : Nat) ≠ 184 by decide), i4, kU_at, if_pos ⟨rfl, rfl⟩]
    have V3 : (kU (kU h154 185 (((5 * v12) + 4).toNat) v154) 184 1 (v160 + 1)) 185 (5 * m + 3) = v139 := by
      rw [kU_c _ _ _ _ (show (185 : Nat) ≠ 184 by decide), i4, kU_at, if_neg (by omega), fm154.1 185 (by decide), i3, kU_at, if_pos ⟨rfl, rfl⟩]
    have V2 : (kU (kU h154 185 (((5 * v12) + 4).toNat) v154) 184 1 (v160 + 1)) 185 (5 * m + 2) = 10 * v92 + v123 := by
      rw [kU_c _ _ _ _ (show (185 : Nat) ≠ 184 by decide), i4, kU_at, if_neg (by omega), fm154.1 185 (by decide), i3, kU_at, if_neg (by omega), fm139.1 185 (by decide), i2, kU_at, if_pos ⟨rfl, rfl⟩]
    have V1 : (kU (kU h154 185 (((5 * v12) + 4).toNat) v154) 184 1 (v160 + 1)) 185 (5 * m + 1) = 10 * v63 + v84 := by
      rw [kU_c _ _ _ _ (show (185 : Nat) ≠ 184 by decide), i4, kU_at, if_neg (by omega), fm154.1 185 (by decide), i3, kU_at, if_neg (by omega), fm139.1 185 (by decide), i2, kU_at, if_neg (by omega), fm123.1 185 (by decide), fm92.1 185 (by decide), i1, kU_at, if_pos ⟨rfl, rfl⟩]
    have V0 : (kU (kU h154 185 (((5 * v12) + 4).toNat) v154) 184 1 (v160 + 1)) 185 (5 * m) = v24 := by
      rw [kU_c _ _ _ _ (show (185 : Nat) ≠ 184 by decide), i4, kU_at, if_neg (by omega), fm154.1 185 (by decide), i3, kU_at, if_neg (by omega), fm139.1 185 (by decide), i2, kU_at, if_neg (by omega), fm123.1 185 (by decide), fm92.1 185 (by decide), i1, kU_at, if_neg (by omega), fm84.1 185 (by decide), fm63.1 185 (by decide), i0, kU_at, if_pos ⟨rfl, rfl⟩]
    have VM : (kU (kU h154 185 (((5 * v12) + 4).toNat) v154) 184 1 (v160 + 1)) 184 1 = h 184 1 + 1 := by rw [kU_at, if_pos ⟨rfl, rfl⟩]; omega
    have E10 : (kU (kU h154 185 (((5 * v12) + 4).toNat) v154) 184 1 (v160 + 1)) 184 10 = h154 184 10 := by rw [kU_at, if_neg (by omega), kU_at, if_neg (by omega)]
    have E9 : (kU (kU h154 185 (((5 * v12) + 4).toNat) v154) 184 1 (v160 + 1)) 184 9 = h154 184 9 := by rw [kU_at, if_neg (by omega), kU_at, if_neg (by omega)]
    have LOW : ∀ j, j < 5 * m → (kU (kU h154 185 (((5 * v12) + 4).toNat) v154) 184 1 (v160 + 1)) 185 j = h 185 j := fun j hj => by
      rw [kU_c _ _ _ _ (show (185 : Nat) ≠ 184 by decide)]
      exact kp157.1 j (Or.inl hj)
    refine ⟨hI, VM, fun e => ?_, ?_, fun e => ?_⟩
    · rw [E10] at e
      have tb63 := (w63 (by have q := (dv84 (by have q := (dv92 (by have q := (dv123 (by have q := (dv139 (by have q := (dv154 e).1; rw [kU_c _ _ _ _ (show (184 : Nat) ≠ 185 by decide)] at q; exact q)).1; rw [kU_c _ _ _ _ (show (184 : Nat) ≠ 185 by decide)] at q; exact q)).1; exact q)).1; rw [kU_c _ _ _ _ (show (184 : Nat) ≠ 185 by decide)] at q; exact q)).1; exact q)).2
      obtain ⟨e, -⟩ := w154 e
      rw [kU_at, if_neg (by omega)] at e
      obtain ⟨e, tb139⟩ := w139 e
      rw [kU_at, if_neg (by omega)] at e
      obtain ⟨e, tb123⟩ := w123 e
      obtain ⟨e, tb92⟩ := w92 e
      rw [kU_at, if_neg (by omega)] at e
      obtain ⟨e, tb84⟩ := w84 e
      have c63 := t63 e
      have fb := kp63.fr em r81.2.b v84 r84.1 r84.2.1 tb84
      have c92 := (tb_c (v := v92) ⟨r92.1, r92.2.1⟩).2.2.1 tb92
      have c139 := (tb_c (v := v139) ⟨r139.1, r139.2.1⟩).2.2.2.1 tb139
      have c123 : v92 = 4 → v123 = 0 := fun q => by first | exact (tb_c (v := v123) ⟨r123.1, r123.2.1⟩).2.1 tb123 | omega
      rw [VM]
      exact FK.add (m := m) hk em LOW (by rw [V1]; omega) (by rw [V2]; omega) (by rw [V3]; omega) (fun i hi => by rw [V1]; exact fb.2 i (by omega))
    · rw [VM, show (10 : Int) + 8 * (h 184 1 + 1) = (10 + (m : Int) * 8 + 8) by omega]
      exact rs154.of E9 E10
    · rw [E10] at e
      obtain ⟨d7, d6, d5, d4, d3, d2, d1⟩ := dd154 e
      rw [VM]
      intro k hkm
      by_cases q : k = m
      · subst q
        rw [V0, V1, V2, V3, V4]
        unfold prI
        rw [show 10 + (k : Int) * 8 + 2 + 1 = 10 + (k : Int) * 8 + 3 by omega, show 10 + (k : Int) * 8 + 4 + 1 = 10 + (k : Int) * 8 + 5 by omega, ← d2, ← d3, ← d4, ← d5]
        rw [show 10 + 8 * k + 1 = (10 + (k : Int) * 8 + 1).toNat by omega, show 10 + 8 * k + 6 = (10 + (k : Int) * 8 + 6).toNat by omega, show 10 + 8 * k + 7 = (10 + (k : Int) * 8 + 7).toNat by omega]
        exact ⟨d1, rfl, rfl, d6, d7⟩
      · rw [LOW _ (by omega), LOW _ (by omega), LOW _ (by omega), LOW _ (by omega), LOW _ (by omega)]
        exact qD k (by omega))⟩
        · skip
          refine K_iconst (pc := 116) (i := 74) rfl ?_
          refine K_goto 123 (pc := 117) (i := 75) rfl rfl ?_
          have eb123 : (h92) 190 = h 190 := fx.cell 190 (fun i => (by first | (dsimp only; omega) | omega))
          have el123 : (h92) 184 8 = h 184 8 := fx 184 8 (by first | (dsimp only; omega) | omega)
          refine K_cVI (pc := 123) (i := 77) rfl (c_Model_figure G (x1 := 1) (hI := hI)) S_184 rfl (lv_Model_85 rfl) rfl rfl rfl rfl rfl (fun v123 h123 q123 => ?_)
          obtain ⟨fx123, q123⟩ := q123
          obtain ⟨hI, fm123, r123, w123, fg123⟩ := q123
          have fx := fx.tr fx123 (fun c i q => (by first | (dsimp only at q ⊢; omega) | omega))
          obtain ⟨rs123, dv123⟩ := RS.fig (p := (10 + (m : Int) * 8 + 5)) (q := (10 + (m : Int) * 8 + 6)) rs92 fg123 eb123 el123 (by omega) (by omega) (fun e _ => may_5 (by omega) (by omega) (by rw [show (10 + (m : Int) * 8 + 5) - 1 = (10 + (m : Int) * 8 + 4) by omega]; exact (dd92 e).1) (t92 e) (fun v a b => by first | (rw [tbc_1 a (by omega)]; omega) | (rw [tbc_1023 a (by omega)]; omega))) (by omega)
          have kp123 := kp92.fig fm123
          have dd123 : h123 184 10 = -9 → v123 = h 190 (10 + (m : Int) * 8 + 5).toNat - 48 ∧ v92 = h 190 (10 + (m : Int) * 8 + 4).toNat - 48 ∧ v84 = h 190 (10 + (m : Int) * 8 + 3).toNat - 48 ∧ v63 = h 190 (10 + (m : Int) * 8 + 2).toNat - 48 ∧ v24 = h 190 (10 + (m : Int) * 8 + 1).toNat - 48 := fun e => ⟨(dv123 e).2, dd92 (dv123 e).1⟩
          refine K_iadd (pc := 126) (i := 78) rfl ?_
          refine K_iast (pc := 127) (i := 79) rfl S_185 (by omega) (by omega) (by decide) ?_
          have hI := st_readKites hI (i := ((5 * v12) + 2).toNat) (v := (10 * v92) + v123) (by unfold bK; omega)
          have fx := Fx.st (c := 185) (i := ((5 * v12) + 2).toNat) (v := (10 * v92) + v123) fx (by first | (dsimp only; omega) | omega | exact not_false)
          have rs127 := RS.st (c := 185) (i := ((5 * v12) + 2).toNat) (v := (10 * v92) + v123) rs123 (by decide)
          have kp127 := KPr.st (i := ((5 * v12) + 2).toNat) (v := (10 * v92) + v123) kp123 (by omega)
          refine K_aload_n (pc := 128) (i := 80) rfl rfl ?_
          refine K_getR (pc := 129) (i := 81) (j := 0) (d := 185) rfl S_184 rfl (by decide) rfl fw_Model_7 ?_
          refine K_iload_n (pc := 132) (i := 82) rfl rfl ?_
          refine K_iconst (pc := 133) (i := 83) rfl ?_
          refine K_iadd (pc := 134) (i := 84) rfl ?_
          refine K_aload_n (pc := 135) (i := 85) rfl rfl ?_
          refine K_sipush (pc := 136) (i := 86) rfl rfl ?_
          have eb139 : (kU h123 185 (((5 * v12) + 2).toNat) ((10 * v92) + v123)) 190 = h 190 := fx.cell 190 (fun i => (by first | (dsimp only; omega) | omega))
          have el139 : (kU h123 185 (((5 * v12) + 2).toNat) ((10 * v92) + v123)) 184 8 = h 184 8 := fx 184 8 (by first | (dsimp only; omega) | omega)
          refine K_cVI (pc := 139) (i := 87) rfl (c_Model_figure G (x1 := 1022) (hI := hI)) S_184 rfl (lv_Model_85 rfl) rfl rfl rfl rfl rfl (fun v139 h139 q139 => ?_)
          obtain ⟨fx139, q139⟩ := q139
          obtain ⟨hI, fm139, r139, w139, fg139⟩ := q139
          have fx := fx.tr fx139 (fun c i q => (by first | (dsimp only at q ⊢; omega) | omega))
          obtain ⟨rs139, dv139⟩ := RS.fig (p := (10 + (m : Int) * 8 + 6)) (q := (10 + (m : Int) * 8 + 7)) rs127 fg139 eb139 el139 (by omega) (by omega) (fun _ _ => may_tb (mayS_r6 (by omega) (by omega)) (by omega) (by omega) (fun v a b => by rw [tbc_1022 a (by omega)]; try omega)) (by omega)
          have kp139 := kp127.fig fm139
          refine K_iast (pc := 142) (i := 88) rfl S_185 (by omega) (by omega) (by decide) ?_
          have hI := st_readKites hI (i := ((5 * v12) + 3).toNat) (v := v139) (by unfold bK; omega)
          have fx := Fx.st (c := 185) (i := ((5 * v12) + 3).toNat) (v := v139) fx (by first | (dsimp only; omega) | omega | exact not_false)
          have rs142 := RS.st (c := 185) (i := ((5 * v12) + 3).toNat) (v := v139) rs139 (by decide)
          have kp142 := KPr.st (i := ((5 * v12) + 3).toNat) (v := v139) kp139 (by omega)
          refine K_aload_n (pc := 143) (i := 89) rfl rfl ?_
          refine K_getR (pc := 144) (i := 90) (j := 0) (d := 185) rfl S_184 rfl (by decide) rfl fw_Model_7 ?_
          refine K_iload_n (pc := 147) (i := 91) rfl rfl ?_
          refine K_iconst (pc := 148) (i := 92) rfl ?_
          refine K_iadd (pc := 149) (i := 93) rfl ?_
          refine K_aload_n (pc := 150) (i := 94) rfl rfl ?_
          refine K_sipush (pc := 151) (i := 95) rfl rfl ?_
          have eb154 : (kU h139 185 (((5 * v12) + 3).toNat) v139) 190 = h 190 := fx.cell 190 (fun i => (by first | (dsimp only; omega) | omega))
          have el154 : (kU h139 185 (((5 * v12) + 3).toNat) v139) 184 8 = h 184 8 := fx 184 8 (by first | (dsimp only; omega) | omega)
          refine K_cVI (pc := 154) (i := 96) rfl (c_Model_figure G (x1 := 1023) (hI := hI)) S_184 rfl (lv_Model_85 rfl) rfl rfl rfl rfl rfl (fun v154 h154 q154 => ?_)
          obtain ⟨fx154, q154⟩ := q154
          obtain ⟨hI, fm154, r154, w154, fg154⟩ := q154
          have fx := fx.tr fx154 (fun c i q => (by first | (dsimp only at q ⊢; omega) | omega))
          obtain ⟨rs154, dv154⟩ := RS.fig (p := (10 + (m : Int) * 8 + 7)) (q := (10 + (m : Int) * 8 + 8)) rs142 fg154 eb154 el154 (by omega) (by omega) (fun _ _ => may_tb (mayS_r7 (by omega) (by omega)) (by omega) (by omega) (fun v a b => by rw [tbc_1023 a (by omega)]; try omega)) (by omega)
          have kp154 := kp142.fig fm154
          have dd154 : h154 184 10 = -9 → v154 = h 190 (10 + (m : Int) * 8 + 7).toNat - 48 ∧ v139 = h 190 (10 + (m : Int) * 8 + 6).toNat - 48 ∧ v123 = h 190 (10 + (m : Int) * 8 + 5).toNat - 48 ∧ v92 = h 190 (10 + (m : Int) * 8 + 4).toNat - 48 ∧ v84 = h 190 (10 + (m : Int) * 8 + 3).toNat - 48 ∧ v63 = h 190 (10 + (m : Int) * 8 + 2).toNat - 48 ∧ v24 = h 190 (10 + (m : Int) * 8 + 1).toNat - 48 := fun e => ⟨(dv154 e).2, (dv139 (by have q := (dv154 e).1; rw [(kU_c _ _ _ _ (show (184 : Nat) ≠ 185 by decide))] at q; exact q)).2, dd123 (by have q := (dv139 (by have q := (dv154 e).1; rw [(kU_c _ _ _ _ (show (184 : Nat) ≠ 185 by decide))] at q; exact q)).1; rw [(kU_c _ _ _ _ (show (184 : Nat) ≠ 185 by decide))] at q; exact q)⟩
          refine K_iast (pc := 157) (i := 97) rfl S_185 (by omega) (by omega) (by decide) ?_
          have hI := st_readKites hI (i := ((5 * v12) + 4).toNat) (v := v154) (by unfold bK; omega)
          have fx := Fx.st (c := 185) (i := ((5 * v12) + 4).toNat) (v := v154) fx (by first | (dsimp only; omega) | omega | exact not_false)
          have rs157 := RS.st (c := 185) (i := ((5 * v12) + 4).toNat) (v := v154) rs154 (by decide)
          have kp157 := KPr.st (i := ((5 * v12) + 4).toNat) (v := v154) kp154 (by omega)
          refine K_aload_n (pc := 158) (i := 98) rfl rfl ?_
          refine K_dup (pc := 159) (i := 99) rfl rfl ?_
          refine K_getI (pc := 160) (i := 100) (j := 1) rfl S_184 rfl (by decide) rfl fw_Model_82 ?_
          refine K_nm (fun v160 e160 => ?_)
          have r160 := rd_readMany hI
          rw [← e160] at r160
          have t160 : v160 = m := by rw [e160, kp157.2, em]
          refine K_iconst (pc := 163) (i := 101) rfl ?_
          refine K_iadd (pc := 164) (i := 102) rfl ?_
          refine K_putI (pc := 165) (i := 103) (j := 1) rfl S_184 rfl (by decide) rfl rfl rfl fw_Model_82 ?_
          have hI := st_readMany hI (v := v160 + 1) (by omega)
          have fx := Fx.st (c := 184) (i := 1) (v := v160 + 1) fx (by first | (dsimp only; omega) | omega | exact not_false)
          exact K_retV (pc := 168) (i := 104) rfl rfl ⟨fx, (by
    have i0 : (5 * v12).toNat = 5 * m := by omega
    have i1 : ((5 * v12) + 1).toNat = 5 * m + 1 := by omega
    have i2 : ((5 * v12) + 2).toNat = 5 * m + 2 := by omega
    have i3 : ((5 * v12) + 3).toNat = 5 * m + 3 := by omega
    have i4 : ((5 * v12) + 4).toNat = 5 * m + 4 := by omega
    have V4 : (kU (kU h154 185 (((5 * v12) + 4).toNat) v154) 184 1 (v160 + 1)) 185 (5 * m + 4) = v154 := by
      rw [kU_c _ _ _ _ (show (185 : Nat) ≠ 184 by decide), i4, kU_at, if_pos ⟨rfl, rfl⟩]
    have V3 : (kU (kU h154 185 (((5 * v12) + 4).toNat) v154) 184 1 (v160 + 1)) 185 (5 * m + 3) = v139 := by
      rw [kU_c _ _ _ _ (show (185 : Nat) ≠ 184 by decide), i4, kU_at, if_neg (by omega), fm154.1 185 (by decide), i3, kU_at, if_pos ⟨rfl, rfl⟩]
    have V2 : (kU (kU h154 185 (((5 * v12) + 4).toNat) v154) 184 1 (v160 + 1)) 185 (5 * m + 2) = 10 * v92 + v123 := by
      rw [kU_c _ _ _ _ (show (185 : Nat) ≠ 184 by decide), i4, kU_at, if_neg (by omega), fm154.1 185 (by decide), i3, kU_at, if_neg (by omega), fm139.1 185 (by decide), i2, kU_at, if_pos ⟨rfl, rfl⟩]
    have V1 : (kU (kU h154 185 (((5 * v12) + 4).toNat) v154) 184 1 (v160 + 1)) 185 (5 * m + 1) = 10 * v63 + v84 := by
      rw [kU_c _ _ _ _ (show (185 : Nat) ≠ 184 by decide), i4, kU_at, if_neg (by omega), fm154.1 185 (by decide), i3, kU_at, if_neg (by omega), fm139.1 185 (by decide), i2, kU_at, if_neg (by omega), fm123.1 185 (by decide), fm92.1 185 (by decide), i1, kU_at, if_pos ⟨rfl, rfl⟩]
    have V0 : (kU (kU h154 185 (((5 * v12) + 4).toNat) v154) 184 1 (v160 + 1)) 185 (5 * m) = v24 := by
      rw [kU_c _ _ _ _ (show (185 : Nat) ≠ 184 by decide), i4, kU_at, if_neg (by omega), fm154.1 185 (by decide), i3, kU_at, if_neg (by omega), fm139.1 185 (by decide), i2, kU_at, if_neg (by omega), fm123.1 185 (by decide), fm92.1 185 (by decide), i1, kU_at, if_neg (by omega), fm84.1 185 (by decide), fm63.1 185 (by decide), i0, kU_at, if_pos ⟨rfl, rfl⟩]
    have VM : (kU (kU h154 185 (((5 * v12) + 4).toNat) v154) 184 1 (v160 + 1)) 184 1 = h 184 1 + 1 := by rw [kU_at, if_pos ⟨rfl, rfl⟩]; omega
    have E10 : (kU (kU h154 185 (((5 * v12) + 4).toNat) v154) 184 1 (v160 + 1)) 184 10 = h154 184 10 := by rw [kU_at, if_neg (by omega), kU_at, if_neg (by omega)]
    have E9 : (kU (kU h154 185 (((5 * v12) + 4).toNat) v154) 184 1 (v160 + 1)) 184 9 = h154 184 9 := by rw [kU_at, if_neg (by omega), kU_at, if_neg (by omega)]
    have LOW : ∀ j, j < 5 * m → (kU (kU h154 185 (((5 * v12) + 4).toNat) v154) 184 1 (v160 + 1)) 185 j = h 185 j := fun j hj => by
      rw [kU_c _ _ _ _ (show (185 : Nat) ≠ 184 by decide)]
      exact kp157.1 j (Or.inl hj)
    refine ⟨hI, VM, fun e => ?_, ?_, fun e => ?_⟩
    · rw [E10] at e
      have tb63 := (w63 (by have q := (dv84 (by have q := (dv92 (by have q := (dv123 (by have q := (dv139 (by have q := (dv154 e).1; rw [kU_c _ _ _ _ (show (184 : Nat) ≠ 185 by decide)] at q; exact q)).1; rw [kU_c _ _ _ _ (show (184 : Nat) ≠ 185 by decide)] at q; exact q)).1; exact q)).1; rw [kU_c _ _ _ _ (show (184 : Nat) ≠ 185 by decide)] at q; exact q)).1; exact q)).2
      obtain ⟨e, -⟩ := w154 e
      rw [kU_at, if_neg (by omega)] at e
      obtain ⟨e, tb139⟩ := w139 e
      rw [kU_at, if_neg (by omega)] at e
      obtain ⟨e, tb123⟩ := w123 e
      obtain ⟨e, tb92⟩ := w92 e
      rw [kU_at, if_neg (by omega)] at e
      obtain ⟨e, tb84⟩ := w84 e
      have c63 := t63 e
      have fb := kp63.fr em r81.2.b v84 r84.1 r84.2.1 tb84
      have c92 := (tb_c (v := v92) ⟨r92.1, r92.2.1⟩).2.2.1 tb92
      have c139 := (tb_c (v := v139) ⟨r139.1, r139.2.1⟩).2.2.2.1 tb139
      have c123 : v92 = 4 → v123 = 0 := fun q => by first | exact (tb_c (v := v123) ⟨r123.1, r123.2.1⟩).2.1 tb123 | omega
      rw [VM]
      exact FK.add (m := m) hk em LOW (by rw [V1]; omega) (by rw [V2]; omega) (by rw [V3]; omega) (fun i hi => by rw [V1]; exact fb.2 i (by omega))
    · rw [VM, show (10 : Int) + 8 * (h 184 1 + 1) = (10 + (m : Int) * 8 + 8) by omega]
      exact rs154.of E9 E10
    · rw [E10] at e
      obtain ⟨d7, d6, d5, d4, d3, d2, d1⟩ := dd154 e
      rw [VM]
      intro k hkm
      by_cases q : k = m
      · subst q
        rw [V0, V1, V2, V3, V4]
        unfold prI
        rw [show 10 + (k : Int) * 8 + 2 + 1 = 10 + (k : Int) * 8 + 3 by omega, show 10 + (k : Int) * 8 + 4 + 1 = 10 + (k : Int) * 8 + 5 by omega, ← d2, ← d3, ← d4, ← d5]
        rw [show 10 + 8 * k + 1 = (10 + (k : Int) * 8 + 1).toNat by omega, show 10 + 8 * k + 6 = (10 + (k : Int) * 8 + 6).toNat by omega, show 10 + 8 * k + 7 = (10 + (k : Int) * 8 + 7).toNat by omega]
        exact ⟨d1, rfl, rfl, d6, d7⟩
      · rw [LOW _ (by omega), LOW _ (by omega), LOW _ (by omega), LOW _ (by omega), LOW _ (by omega)]
        exact qD k (by omega))⟩
      · skip
        refine K_iload_n (pc := 37) (i := 25) rfl rfl ?_
        refine K_aload_n (pc := 38) (i := 26) rfl rfl ?_
        refine K_iload_n (pc := 39) (i := 27) rfl rfl ?_
        refine K_cVI (pc := 40) (i := 28) rfl (c_Model_free G (x1 := x3) (hr := hr27) (hI := hI) (s1 := by omega)) S_184 rfl (lv_Model_92 rfl) rfl rfl rfl rfl rfl (fun v40 h40 q40 => ?_)
        obtain ⟨eh, r40⟩ := q40
        rw [eh]; clear eh
        first | refine K_if_eq 52 (pc := 43) (i := 29) rfl rfl (by omega) (fun b43 => ?_) (fun b43 => ?_) | refine K_if_eq_an 52 (pc := 43) (i := 29) rfl rfl (fun b43 => ?_) (fun b43 => ?_)
        · skip
          refine K_iconst (pc := 52) (i := 34) rfl ?_
          refine K_ior (pc := 53) (i := 35) rfl ?_
          refine K_nm (fun v53 e53 => ?_)
          have r53 := kOr_R x2 0
          rw [← e53] at r53
          refine K_ist_n (pc := 54) (i := 36) (lo' := [(0, _), (1, _), (2, _), (3, _)]) rfl rfl rfl rfl ?_
          refine K_inc (pc := 55) (i := 37) (q := 3) (lo' := [(0, _), (1, _), (2, _), (3, _)]) rfl rfl rfl rfl rfl ?_
          refine K_goto 32 (pc := 58) (i := 38) rfl rfl ?_
          exact ih32 v53 (x3 + 1) (by omega) ⟨by omega, by rw [e53]; first | (rw [e48]; exact OpI.yes hV32.2 (by omega) r40.2 r40.1 (by omega)) | exact OpI.no hV32.2 r40.2 r40.1 (by omega)⟩
        · skip
          refine K_iconst (pc := 46) (i := 30) rfl ?_
          refine K_iload_n (pc := 47) (i := 31) rfl rfl ?_
          refine K_ishl (pc := 48) (i := 32) rfl ?_
          refine K_nm (fun v48 e48 => ?_)
          have r48 := kShl_R 1 x3
          rw [← e48] at r48
          refine K_goto 53 (pc := 49) (i := 33) rfl rfl ?_
          refine K_ior (pc := 53) (i := 35) rfl ?_
          refine K_nm (fun v53 e53 => ?_)
          have r53 := kOr_R x2 v48
          rw [← e53] at r53
          refine K_ist_n (pc := 54) (i := 36) (lo' := [(0, _), (1, _), (2, _), (3, _)]) rfl rfl rfl rfl ?_
          refine K_inc (pc := 55) (i := 37) (q := 3) (lo' := [(0, _), (1, _), (2, _), (3, _)]) rfl rfl rfl rfl rfl ?_
          refine K_goto 32 (pc := 58) (i := 38) rfl rfl ?_
          exact ih32 v53 (x3 + 1) (by omega) ⟨by omega, by rw [e53]; first | (rw [e48]; exact OpI.yes hV32.2 (by omega) r40.2 r40.1 (by omega)) | exact OpI.no hV32.2 r40.2 r40.1 (by omega)⟩
  exact L32 _ 0 0 (Nat.lt_succ_self _) ⟨by omega, OpI.z⟩
end
section
/-- gusts of an autumn of the reference -/
def AUK (sd : Int) : Nat → (Nat → Int) → Int → (Nat → Int) → Int → (Nat → Int) → Prop
  | 0, k, n, k', n', d => k' = k ∧ n' = n ∧ ∀ t : Nat, t < 2 → d t = 0
  | m + 1, k, n, k', n', d => ∃ (k1 : Nat → Int) (n1 : Int) (d1 : Nat → Int) (z : Int) (d2 w : Nat → Int), AUK sd m k n k1 n1 d1 ∧ (∀ i : Nat, 1 ≤ i → i < 10 → w i = wdv (itr (9 * m + i) sd)) ∧ GSK w k1 n1 k' n' z d2 ∧ ∀ t : Nat, t < 2 → d t = d1 t + d2 t
theorem AUK.st {sd : Int} {k : Nat → Int} {n : Int} {m : Nat} {ha hb h1 h2 : kH} {x z l : Int} (p : AUK sd m k n (kap ha 40) x (ha 192)) (e7 : hb 187 = ha 187) (e9 : hb 192 = ha 192) (hw : ∀ i : Nat, 1 ≤ i → i < 10 → hb 188 i = wdv (itr (9 * m + i) sd)) (kr : kR z) (bx : BXK (kap hb 40) (kap h1 40) (hb 188) x) (ct : CtK (kap h1 40) (hb 188) x z) (fk : FK (kap h1 40) x) (e192 : h1 192 = hb 192) (hl : l = kc (pB z) x.toNat)
    (th : THK (kap h1 40) (kap h2 40) (pB z) x) (gn : GN (h1 192) (h2 192) z (fun i => kap h1 40 (5 * i)) x) : AUK sd (m + 1) k n (kap h2 40) l (h2 192) := by
  rw [kap_of e7] at bx
  refine ⟨kap ha 40, x, ha 192, z, fun t => h2 192 t - ha 192 t, hb 188, p, hw, ⟨kap h1 40, ⟨kr, bx, ct, fk⟩, hl, th, fun t ht => ?_⟩, fun t _ => by dsimp only; omega⟩
  have := gn t ht
  rw [e192, e9, cw_k bx] at this
  dsimp only
  omega
def CMautumn (h : kH) (sd x m z : Int) : Prop := (¬ (0 ≤ x ∧ x ≤ 1 ∧ 1 ≤ m ∧ m ≤ 20) ∧ z = -2) ∨ ((0 ≤ x ∧ x ≤ 1 ∧ 1 ≤ m ∧ m ≤ 20) ∧ ∃ (k0 k' : Nat → Int) (n' : Int) (d : Nat → Int), (∀ j, j < 40 → k0 j = h 187 j) ∧ AUK sd m.toNat k0 (h 184 4) k' n' d ∧ z = d x.toNat)
set_option maxHeartbeats 4000000 in
set_option maxRecDepth 100000 in
theorem c_Model_autumn (G : kG) {g : kGh} {h : kH}  (hT : g.2.2.2.2){x1 : Int} {x2 : Int} (s1 : kR x1) (s2 : kR x2) (hI : Gd g h) : Ctr G y_Model_autumn X_Model_autumn 13 [.ref (G.2.2.2 184), kI x1, kI x2] h (kQi (fun z h' => Fx (fun c i => (c = 187 ∧ 40 ≤ i) ∨ c = 192 ∨ c = 188 ∨ c = 198 ∨ (c = 184 ∧ i = 22)) h h' ∧ (((¬ (0 ≤ x1 ∧ x1 ≤ 1 ∧ 1 ≤ x2 ∧ x2 ≤ 20) ∧ Gd g h') ∨ ((0 ≤ x1 ∧ x1 ≤ 1 ∧ 1 ≤ x2 ∧ x2 ≤ 20) ∧ Gd (g.1, g.2.1, g.2.2.1, itr (9 * x2).toNat g.2.2.2.1, g.2.2.2.2) h')) ∧ (∀ i, i < 10 → h' 188 i = h 188 i) ∧ CMautumn h g.2.2.2.1 x1 x2 z))) := by
  refine Ctr.ofK (by decide) rfl T_Model_autumn (Nat.le_of_ble_eq_true rfl) (lo := [(0, .ref (G.2.2.2 184)), (1, kI x1), (2, kI x2)]) rfl ?_
  have fx : Fx (fun c i => (c = 187 ∧ 40 ≤ i) ∨ c = 192 ∨ c = 188 ∨ c = 198 ∨ (c = 184 ∧ i = 22)) h h := Fx.rf
  refine K_iload_n (pc := 0) (i := 0) rfl rfl ?_
  refine K_i2l (pc := 1) (i := 1) rfl ?_
  refine K_eqJ (kI2l_eq (a := x1) (by omega)) ?_
  refine K_lconst 0 (pc := 2) (i := 2) rfl rfl ?_
  refine K_lconst 1 (pc := 3) (i := 3) rfl rfl ?_
  refine K_cSI (pc := 4) (i := 4) rfl (c_Model_in G (l0 := x1) (l2 := 0) (l4 := 1) (s0 := by omega) (s2 := by omega) (s4 := by omega)) (ls_Model_65 rfl) rfl rfl rfl rfl (fun v4 h4 q4 => ?_)
  obtain ⟨eh, r4⟩ := q4
  rw [eh]; clear eh
  first | refine K_if_eq 22 (pc := 7) (i := 5) rfl rfl (by omega) (fun b7 => ?_) (fun b7 => ?_) | refine K_if_eq_an 22 (pc := 7) (i := 5) rfl rfl (fun b7 => ?_) (fun b7 => ?_)
  · skip
    refine K_bipush (pc := 22) (i := 12) rfl rfl ?_
    exact K_retI (pc := 24) (i := 13) rfl rfl ⟨fx, ⟨Or.inl ⟨by omega, hI⟩, fun _ _ => rfl, Or.inl ⟨by omega, rfl⟩⟩⟩
  · skip
    refine K_iload_n (pc := 10) (i := 6) rfl rfl ?_
    refine K_i2l (pc := 11) (i := 7) rfl ?_
    refine K_eqJ (kI2l_eq (a := x2) (by omega)) ?_
    refine K_lconst 1 (pc := 12) (i := 8) rfl rfl ?_
    refine K_ldc2 (20) (pc := 13) (i := 9) rfl cl_Model_163 (by decide) ?_
    refine K_cSI (pc := 16) (i := 10) rfl (c_Model_in G (l0 := x2) (l2 := 1) (l4 := 20) (s0 := by omega) (s2 := by omega) (s4 := by omega)) (ls_Model_65 rfl) rfl rfl rfl rfl (fun v16 h16 q16 => ?_)
    obtain ⟨eh, r16⟩ := q16
    rw [eh]; clear eh
    first | refine K_if_ne 25 (pc := 19) (i := 11) rfl rfl (by omega) (fun b19 => ?_) (fun b19 => ?_) | refine K_if_ne_an 25 (pc := 19) (i := 11) rfl rfl (fun b19 => ?_) (fun b19 => ?_)
    · skip
      refine K_iconst (pc := 25) (i := 14) rfl ?_
      refine K_ist_n (pc := 26) (i := 15) (lo' := [(0, _), (1, _), (2, _), (3, _)]) rfl rfl rfl rfl ?_
      have L27 : ∀ (n : Nat) (x3 : Int) (ha : kH), (10 - x3).toNat < n → (Gd g ha) → (Fx (fun c i => (c = 187 ∧ 40 ≤ i) ∨ c = 192 ∨ c = 188 ∨ c = 198 ∨ (c = 184 ∧ i = 22)) h ha) → ((1 ≤ x3 ∧ x3 ≤ 10) ∧ (∀ i : Nat, 1 ≤ i → (i : Int) < x3 → ha 198 i = h 188 i) ∧ ha 188 = h 188) → K X_Model_autumn G (kZm G 13 (kQi (fun z h' => Fx (fun c i => (c = 187 ∧ 40 ≤ i) ∨ c = 192 ∨ c = 188 ∨ c = 198 ∨ (c = 184 ∧ i = 22)) h h' ∧ (((¬ (0 ≤ x1 ∧ x1 ≤ 1 ∧ 1 ≤ x2 ∧ x2 ≤ 20) ∧ Gd g h') ∨ ((0 ≤ x1 ∧ x1 ≤ 1 ∧ 1 ≤ x2 ∧ x2 ≤ 20) ∧ Gd (g.1, g.2.1, g.2.2.1, itr (9 * x2).toNat g.2.2.2.1, g.2.2.2.2) h')) ∧ (∀ i, i < 10 → h' 188 i = h 188 i) ∧ CMautumn h g.2.2.2.1 x1 x2 z)))) 27 [(0, .ref (G.2.2.2 184)), (1, kI x1), (2, kI x2), (3, kI x3)] [] ha := by
        intro n
        induction n with
        | zero => intro x3 ha hm; exact absurd hm (Nat.not_lt_zero _)
        | succ n ih27 =>
          intro x3 ha hm27 hI fx hV27
          refine K_iload_n (pc := 27) (i := 16) rfl rfl ?_
          refine K_bipush (pc := 28) (i := 17) rfl rfl ?_
          first | refine K_icmp_ge 51 (pc := 30) (i := 18) rfl rfl (by omega) (by omega) (fun b30 => ?_) (fun b30 => ?_) | refine K_icmp_ge_an 51 (pc := 30) (i := 18) rfl rfl (fun b30 => ?_) (fun b30 => ?_)
          · skip
            have hJ := hI
            have fx51 := fx
            refine K_aload_n (pc := 51) (i := 29) rfl rfl ?_
            refine K_cVV (pc := 52) (i := 30) rfl (c_Model_copy G (hI := hI)) S_184 rfl (lv_Model_165 rfl) rfl rfl rfl rfl rfl (fun h52 q52 => ?_)
            obtain ⟨fx52, q52⟩ := q52
            obtain ⟨hI, cp52⟩ := q52
            have fx := fx.tr fx52 (fun c i q => (by first | (dsimp only at q ⊢; omega) | omega))
            have fk52 : FK (kap h52 40) (h52 184 4) := by rw [fx52 184 4 (by first | (dsimp only; omega) | omega | exact not_false)]; exact FK.copy (hJ.2.2.2.2.2 hT).1 (rd_many hJ).2 cp52
            have ow52 : (∀ i : Nat, 1 ≤ i → i < 10 → h52 198 i = h 188 i) ∧ h52 188 0 = h 188 0 := ⟨fun i p q => by rw [fx52.cell 198 (fun i => (by first | (dsimp only; omega) | omega))]; exact hV27.2.1 i p (by omega), by rw [fx52.cell 188 (fun i => (by first | (dsimp only; omega) | omega)), hV27.2.2]⟩
            refine K_aload_n (pc := 55) (i := 31) rfl rfl ?_
            refine K_getR (pc := 56) (i := 32) (j := 14) (d := 192) rfl S_184 rfl (by decide) rfl fw_Model_31 ?_
            refine K_iconst (pc := 59) (i := 33) rfl ?_
            refine K_iconst (pc := 60) (i := 34) rfl ?_
            refine K_iast (pc := 61) (i := 35) rfl S_192 (by omega) (by omega) (by decide) ?_
            have hI := st_free (c := 192) hI (by decide +kernel) (by decide) (i := (0 : Int).toNat) (v := 0)
            have fx := Fx.st (c := 192) (i := (0 : Int).toNat) (v := 0) fx (by first | (dsimp only; omega) | omega | exact not_false)
            refine K_aload_n (pc := 62) (i := 36) rfl rfl ?_
            refine K_getR (pc := 63) (i := 37) (j := 14) (d := 192) rfl S_184 rfl (by decide) rfl fw_Model_31 ?_
            refine K_iconst (pc := 66) (i := 38) rfl ?_
            refine K_iconst (pc := 67) (i := 39) rfl ?_
            refine K_iast (pc := 68) (i := 40) rfl S_192 (by omega) (by omega) (by decide) ?_
            have hI := st_free (c := 192) hI (by decide +kernel) (by decide) (i := (1 : Int).toNat) (v := 0)
            have fx := Fx.st (c := 192) (i := (1 : Int).toNat) (v := 0) fx (by first | (dsimp only; omega) | omega | exact not_false)
            have k68 : kap (kU (kU h52 192 ((0 : Int).toNat) 0) 192 ((1 : Int).toNat) 0) 40 = kap h52 40 := kap_of ((kU_c _ _ _ _ (by decide)).trans (kU_c _ _ _ _ (by decide)))
            have fk68 : FK (kap (kU (kU h52 192 ((0 : Int).toNat) 0) 192 ((1 : Int).toNat) 0) 40) (h52 184 4) := by rw [k68]; exact fk52
            have ow68 : (∀ i : Nat, 1 ≤ i → i < 10 → (kU (kU h52 192 ((0 : Int).toNat) 0) 192 ((1 : Int).toNat) 0) 198 i = h 188 i) ∧ (kU (kU h52 192 ((0 : Int).toNat) 0) 192 ((1 : Int).toNat) 0) 188 0 = h 188 0 := ⟨fun i p q => by rw [kU_c _ _ _ _ (by decide), kU_c _ _ _ _ (by decide)]; exact ow52.1 i p q, by rw [kU_c _ _ _ _ (by decide), kU_c _ _ _ _ (by decide)]; exact ow52.2⟩
            have ga68 : ∀ t : Nat, t < 2 → (kU (kU h52 192 ((0 : Int).toNat) 0) 192 ((1 : Int).toNat) 0) 192 t = 0 := fun t ht => by rcases (show t = 0 ∨ t = 1 by omega) with rfl | rfl <;> simp [kU]
            refine K_aload_n (pc := 69) (i := 41) rfl rfl ?_
            refine K_getI (pc := 70) (i := 42) (j := 4) rfl S_184 rfl (by decide) rfl fw_Model_59 ?_
            refine K_nm (fun v70 e70 => ?_)
            have r70 := rd_many hI
            rw [← e70] at r70
            have t70 : v70 = h52 184 4 := by rw [e70]; simp [kU]
            have y70 : v70 = h 184 4 := by rw [e70]; exact fx 184 4 (by first | (dsimp only; omega) | omega | exact not_false)
            refine K_ist_n (pc := 73) (i := 43) (lo' := [(0, _), (1, _), (2, _), (3, _)]) rfl rfl rfl rfl ?_
            refine K_iconst (pc := 74) (i := 44) rfl ?_
            refine K_ist (pc := 75) (i := 45) (lo' := [(0, _), (1, _), (2, _), (3, _), (4, _)]) rfl rfl rfl rfl ?_
            have L77 : ∀ (n : Nat) (x3 : Int) (x4 : Int) (ha2 : kH), (x2 - x4).toNat < n → (Fx (fun c i => (c = 187 ∧ 40 ≤ i) ∨ c = 192 ∨ c = 188 ∨ c = 198 ∨ (c = 184 ∧ i = 22)) h ha2) → (Gd (g.1, g.2.1, g.2.2.1, itr (9 * x4).toNat g.2.2.2.1, g.2.2.2.2) ha2 ∧ (0 ≤ x4 ∧ x4 ≤ x2) ∧ (0 ≤ x3 ∧ x3 ≤ 8) ∧ FK (kap ha2 40) x3 ∧ ((∀ i : Nat, 1 ≤ i → i < 10 → ha2 198 i = h 188 i) ∧ ha2 188 0 = h 188 0) ∧ AUK g.2.2.2.1 x4.toNat (kap h52 40) v70 (kap ha2 40) x3 (ha2 192)) → K X_Model_autumn G (kZm G 13 (kQi (fun z h' => Fx (fun c i => (c = 187 ∧ 40 ≤ i) ∨ c = 192 ∨ c = 188 ∨ c = 198 ∨ (c = 184 ∧ i = 22)) h h' ∧ (((¬ (0 ≤ x1 ∧ x1 ≤ 1 ∧ 1 ≤ x2 ∧ x2 ≤ 20) ∧ Gd g h') ∨ ((0 ≤ x1 ∧ x1 ≤ 1 ∧ 1 ≤ x2 ∧ x2 ≤ 20) ∧ Gd (g.1, g.2.1, g.2.2.1, itr (9 * x2).toNat g.2.2.2.1, g.2.2.2.2) h')) ∧ (∀ i, i < 10 → h' 188 i = h 188 i) ∧ CMautumn h g.2.2.2.1 x1 x2 z)))) 77 [(0, .ref (G.2.2.2 184)), (1, kI x1), (2, kI x2), (3, kI x3), (4, kI x4)] [] ha2 := by
              intro n
              induction n with
              | zero => intro x3 x4 ha2 hm; exact absurd hm (Nat.not_lt_zero _)
              | succ n ih77 =>
                intro x3 x4 ha2 hm77 fx hV77
                have hI := hV77.1
                have hV := hV77.2.1
                refine K_iload (pc := 77) (i := 46) rfl rfl ?_
                refine K_iload_n (pc := 79) (i := 47) rfl rfl ?_
                first | refine K_icmp_ge 161 (pc := 80) (i := 48) rfl rfl (by omega) (by omega) (fun b80 => ?_) (fun b80 => ?_) | refine K_icmp_ge_an 161 (pc := 80) (i := 48) rfl rfl (fun b80 => ?_) (fun b80 => ?_)
                · skip
                  refine K_iconst (pc := 161) (i := 90) rfl ?_
                  refine K_ist (pc := 162) (i := 91) (lo' := [(0, _), (1, _), (2, _), (3, _), (4, _)]) rfl rfl rfl rfl ?_
                  have L164 : ∀ (n : Nat) (x4d : Int) (hc : kH), (10 - x4d).toNat < n → (Fx (fun c i => (c = 187 ∧ 40 ≤ i) ∨ c = 192 ∨ c = 188 ∨ c = 198 ∨ (c = 184 ∧ i = 22)) h hc) → (Gd (g.1, g.2.1, g.2.2.1, itr (9 * x2).toNat g.2.2.2.1, g.2.2.2.2) hc ∧ (1 ≤ x4d ∧ x4d ≤ 10) ∧ (∀ i : Nat, (i : Int) < x4d → hc 188 i = h 188 i) ∧ ((∀ i : Nat, 1 ≤ i → i < 10 → hc 198 i = h 188 i) ∧ hc 188 0 = h 188 0) ∧ hc 192 = ha2 192) → K X_Model_autumn G (kZm G 13 (kQi (fun z h' => Fx (fun c i => (c = 187 ∧ 40 ≤ i) ∨ c = 192 ∨ c = 188 ∨ c = 198 ∨ (c = 184 ∧ i = 22)) h h' ∧ (((¬ (0 ≤ x1 ∧ x1 ≤ 1 ∧ 1 ≤ x2 ∧ x2 ≤ 20) ∧ Gd g h') ∨ ((0 ≤ x1 ∧ x1 ≤ 1 ∧ 1 ≤ x2 ∧ x2 ≤ 20) ∧ Gd (g.1, g.2.1, g.2.2.1, itr (9 * x2).toNat g.2.2.2.1, g.2.2.2.2) h')) ∧ (∀ i, i < 10 → h' 188 i = h 188 i) ∧ CMautumn h g.2.2.2.1 x1 x2 z)))) 164 [(0, .ref (G.2.2.2 184)), (1, kI x1), (2, kI x2), (3, kI x3), (4, kI x4d)] [] hc := by
                    intro n
                    induction n with
                    | zero => intro x4d hc hm; exact absurd hm (Nat.not_lt_zero _)
                    | succ n ih164 =>
                      intro x4d hc hm164 fx hV164
                      have hI := hV164.1
                      have hW := hV164.2.1
                      refine K_iload (pc := 164) (i := 92) rfl rfl ?_
                      refine K_bipush (pc := 166) (i := 93) rfl rfl ?_
                      first | refine K_icmp_ge 191 (pc := 168) (i := 94) rfl rfl (by omega) (by omega) (fun b168 => ?_) (fun b168 => ?_) | refine K_icmp_ge_an 191 (pc := 168) (i := 94) rfl rfl (fun b168 => ?_) (fun b168 => ?_)
                      · skip
                        refine K_aload_n (pc := 191) (i := 105) rfl rfl ?_
                        refine K_getR (pc := 192) (i := 106) (j := 14) (d := 192) rfl S_184 rfl (by decide) rfl fw_Model_31 ?_
                        refine K_iload_n (pc := 195) (i := 107) rfl rfl ?_
                        refine K_iald (pc := 196) (i := 108) rfl S_192 (by omega) (by omega) (by decide) ?_
                        refine K_nm (fun v196 e196 => ?_)
                        exact K_retI (pc := 197) (i := 109) rfl rfl ⟨fx, ⟨Or.inr ⟨by omega, hI⟩, fun i hi => hV164.2.2.1 i (by omega), Or.inr ⟨by omega, kap h52 40, _, _, ha2 192, fun j hj => (cp52 j hj).trans (fx51 187 j (by first | (dsimp only; omega) | omega | exact not_false)), by have q := hV77.2.2.2.2.2; rw [show x4 = x2 by omega, y70] at q; exact q, by rw [e196, hV164.2.2.2.2]⟩⟩⟩
                      · skip
                        refine K_aload_n (pc := 171) (i := 95) rfl rfl ?_
                        refine K_getR (pc := 172) (i := 96) (j := 5) (d := 188) rfl S_184 rfl (by decide) rfl fw_Model_19 ?_
                        refine K_iload (pc := 175) (i := 97) rfl rfl ?_
                        refine K_aload_n (pc := 177) (i := 98) rfl rfl ?_
                        refine K_getR (pc := 178) (i := 99) (j := 23) (d := 198) rfl S_184 rfl (by decide) rfl fw_Model_50 ?_
                        refine K_iload (pc := 181) (i := 100) rfl rfl ?_
                        refine K_iald (pc := 183) (i := 101) rfl S_198 (by omega) (by omega) (by decide) ?_
                        refine K_nm (fun v183 e183 => ?_)
                        have r183 := rd_spareWind hI (x4d).toNat
                        rw [← e183] at r183
                        have t183 : v183 = h 188 x4d.toNat := by rw [e183]; exact hV164.2.2.2.1.1 x4d.toNat (by omega) (by omega)
                        refine K_iast (pc := 184) (i := 102) rfl S_188 (by omega) (by omega) (by decide) ?_
                        have hI := st_mwinds hI (i := (x4d).toNat) (v := v183) (by omega)
                        have fx := Fx.st (c := 188) (i := (x4d).toNat) (v := v183) fx (by first | (dsimp only; omega) | omega | exact not_false)
                        have wr184 : ∀ i : Nat, (i : Int) < x4d + 1 → (kU hc 188 ((x4d).toNat) v183) 188 i = h 188 i := fun i q => by rw [kU_s]; by_cases e : i = x4d.toNat; (rw [if_pos e, t183, e]); (rw [if_neg e]; exact hV164.2.2.1 i (by omega))
                        have ow184 : (∀ i : Nat, 1 ≤ i → i < 10 → (kU hc 188 ((x4d).toNat) v183) 198 i = h 188 i) ∧ (kU hc 188 ((x4d).toNat) v183) 188 0 = h 188 0 := ⟨fun i p q => by rw [kU_c _ _ _ _ (by decide)]; exact hV164.2.2.2.1.1 i p q, wr184 0 (by omega)⟩
                        refine K_inc (pc := 185) (i := 103) (q := 4) (lo' := [(0, _), (1, _), (2, _), (3, _), (4, _)]) rfl rfl rfl rfl rfl ?_
                        refine K_goto 164 (pc := 188) (i := 104) rfl rfl ?_
                        exact ih164 (x4d + 1) _ (by omega) fx ⟨hI, by omega, wr184, ow184, (kU_c _ _ _ _ (by decide)).trans hV164.2.2.2.2⟩
                  exact L164 _ 1 _ (Nat.lt_succ_self _) fx ⟨Gd.msdT hI (by rw [show x4 = x2 by omega]), by omega, fun i p => by rw [show i = 0 by omega]; exact hV77.2.2.2.2.1.2, hV77.2.2.2.2.1, rfl⟩
                · skip
                  refine K_iconst (pc := 83) (i := 49) rfl ?_
                  refine K_ist (pc := 84) (i := 50) (lo' := [(0, _), (1, _), (2, _), (3, _), (4, _), (5, _)]) rfl rfl rfl rfl ?_
                  have L86 : ∀ (n : Nat) (x5 : Int) (hb : kH), (10 - x5).toNat < n → (Fx (fun c i => (c = 187 ∧ 40 ≤ i) ∨ c = 192 ∨ c = 188 ∨ c = 198 ∨ (c = 184 ∧ i = 22)) h hb) → (Gd (g.1, g.2.1, g.2.2.1, itr (9 * x4 + x5 - 1).toNat g.2.2.2.1, g.2.2.2.2) hb ∧ (1 ≤ x5 ∧ x5 ≤ 10) ∧ hb 187 = ha2 187 ∧ hb 198 = ha2 198 ∧ hb 188 0 = ha2 188 0 ∧ hb 192 = ha2 192 ∧ ∀ i : Nat, 1 ≤ i → (i : Int) < x5 → hb 188 i = wdv (itr (9 * x4.toNat + i) g.2.2.2.1)) → K X_Model_autumn G (kZm G 13 (kQi (fun z h' => Fx (fun c i => (c = 187 ∧ 40 ≤ i) ∨ c = 192 ∨ c = 188 ∨ c = 198 ∨ (c = 184 ∧ i = 22)) h h' ∧ (((¬ (0 ≤ x1 ∧ x1 ≤ 1 ∧ 1 ≤ x2 ∧ x2 ≤ 20) ∧ Gd g h') ∨ ((0 ≤ x1 ∧ x1 ≤ 1 ∧ 1 ≤ x2 ∧ x2 ≤ 20) ∧ Gd (g.1, g.2.1, g.2.2.1, itr (9 * x2).toNat g.2.2.2.1, g.2.2.2.2) h')) ∧ (∀ i, i < 10 → h' 188 i = h 188 i) ∧ CMautumn h g.2.2.2.1 x1 x2 z)))) 86 [(0, .ref (G.2.2.2 184)), (1, kI x1), (2, kI x2), (3, kI x3), (4, kI x4), (5, kI x5)] [] hb := by
                    intro n
                    induction n with
                    | zero => intro x5 hb hm; exact absurd hm (Nat.not_lt_zero _)
                    | succ n ih86 =>
                      intro x5 hb hm86 fx hV86
                      have hI := hV86.1
                      have hW := hV86.2.1
                      have e8 : hb 184 22 = itr (9 * x4 + x5 - 1).toNat g.2.2.2.1 := hI.2.2.2.2.1
                      refine K_iload (pc := 86) (i := 51) rfl rfl ?_
                      refine K_bipush (pc := 88) (i := 52) rfl rfl ?_
                      first | refine K_icmp_ge 136 (pc := 90) (i := 53) rfl rfl (by omega) (by omega) (fun b90 => ?_) (fun b90 => ?_) | refine K_icmp_ge_an 136 (pc := 90) (i := 53) rfl rfl (fun b90 => ?_) (fun b90 => ?_)
                      · skip
                        refine K_aload_n (pc := 136) (i := 77) rfl rfl ?_
                        refine K_bipush (pc := 137) (i := 78) rfl rfl ?_
                        refine K_iload_n (pc := 139) (i := 79) rfl rfl ?_
                        refine K_cVI (pc := 140) (i := 80) rfl (c_Model_blow40 G (x1 := 40) (x2 := x3) (hk := by rw [show kap hb (40 : Int).toNat = kap ha2 40 from kap_of hV86.2.2.1]; exact hV77.2.2.2.1) (hI := hI) (s1 := by omega) (s2 := by omega)) S_184 rfl (lv_Model_141 rfl) rfl rfl rfl rfl rfl (fun v140 h140 q140 => ?_)
                        obtain ⟨fx140, q140⟩ := q140
                        obtain ⟨hI, r140, bx140, ct140, fk140⟩ := q140
                        have fx := fx.tr fx140 (fun c i q => (by first | (dsimp only at q ⊢; omega) | omega))
                        refine K_ist (pc := 143) (i := 81) (lo' := [(0, _), (1, _), (2, _), (3, _), (4, _), (5, _)]) rfl rfl rfl rfl ?_
                        refine K_aload_n (pc := 145) (i := 82) rfl rfl ?_
                        refine K_bipush (pc := 146) (i := 83) rfl rfl ?_
                        refine K_iload_n (pc := 148) (i := 84) rfl rfl ?_
                        refine K_iload (pc := 149) (i := 85) rfl rfl ?_
                        refine K_cVI (pc := 151) (i := 86) rfl (c_Model_leave40 G (x1 := 40) (x2 := x3) (x3 := v140) (hI := hI) (s1 := by omega) (s2 := by omega)) S_184 rfl (lv_Model_144 rfl) rfl rfl rfl rfl rfl (fun v151 h151 q151 => ?_)
                        obtain ⟨fx151, q151⟩ := q151
                        obtain ⟨hI, r151, kc151, th151, gn151⟩ := q151
                        have fx := fx.tr fx151 (fun c i q => (by first | (dsimp only at q ⊢; omega) | omega))
                        have fk151 : FK (kap h151 40) v151 := by rw [kc151]; exact FK.thin fk140 th151 (by omega)
                        have ow151 : (∀ i : Nat, 1 ≤ i → i < 10 → h151 198 i = h 188 i) ∧ h151 188 0 = h 188 0 := ⟨fun i p q => by rw [fx151.cell 198 (fun i => (by first | (dsimp only; omega) | omega)), fx140.cell 198 (fun i => (by first | (dsimp only; omega) | omega)), hV86.2.2.2.1]; exact hV77.2.2.2.2.1.1 i p q, by rw [fx151.cell 188 (fun i => (by first | (dsimp only; omega) | omega)), fx140.cell 188 (fun i => (by first | (dsimp only; omega) | omega)), hV86.2.2.2.2.1]; exact hV77.2.2.2.2.1.2⟩
                        have au151 := AUK.st (hb := hb) (h1 := h140) (h2 := h151) (l := v151) hV77.2.2.2.2.2 hV86.2.2.1 hV86.2.2.2.2.2.1 (fun i p q => hV86.2.2.2.2.2.2 i p (by omega)) r140 bx140 ct140 fk140 (fx140.cell 192 (fun i => (by first | (dsimp only; omega) | omega))) kc151 th151 gn151
                        rw [show x4.toNat + 1 = (x4 + 1).toNat by omega] at au151
                        refine K_ist_n (pc := 154) (i := 87) (lo' := [(0, _), (1, _), (2, _), (3, _), (4, _), (5, _)]) rfl rfl rfl rfl ?_
                        refine K_inc (pc := 155) (i := 88) (q := 4) (lo' := [(0, _), (1, _), (2, _), (3, _), (4, _), (5, _)]) rfl rfl rfl rfl rfl ?_
                        refine K_goto 77 (pc := 158) (i := 89) rfl rfl ?_
                        refine K_drop (lo' := [(0, .ref (G.2.2.2 184)), (1, kI x1), (2, kI x2), (3, kI v151), (4, kI (x4 + 1))]) [0, 1, 2, 3, 4] rfl ?_
                        exact ih77 v151 (x4 + 1) _ (by omega) fx ⟨Gd.msdT hI (by rw [show (9 * (x4 + 1)).toNat = (9 * x4 + x5 - 1).toNat by omega]), by omega, by omega, fk151, ow151, au151⟩
                      · skip
                        refine K_aload_n (pc := 93) (i := 54) rfl rfl ?_
                        refine K_aload_n (pc := 94) (i := 55) rfl rfl ?_
                        refine K_getJ (pc := 95) (i := 56) (j := 22) rfl S_184 rfl (by decide) rfl fw_Model_198 ?_
                        refine K_ldc2 (6364136223846793005) (pc := 98) (i := 57) rfl cl_Model_202 (by decide) ?_
                        refine K_lmul (pc := 101) (i := 58) rfl ?_
                        refine K_ldc2 (1442695040888963407) (pc := 102) (i := 59) rfl cl_Model_204 (by decide) ?_
                        refine K_ladd (pc := 105) (i := 60) rfl ?_
                        refine K_putJ (pc := 106) (i := 61) (j := 22) rfl S_184 rfl (by decide) rfl rfl rfl fw_Model_198 ?_
                        have hI := st_mseed hI (v := hb 184 22 * 6364136223846793005 + 1442695040888963407)
                        have fx := Fx.st (c := 184) (i := 22) (v := ((hb 184 22) * 6364136223846793005) + 1442695040888963407) fx (by first | (dsimp only; omega) | omega | exact not_false)
                        refine K_aload_n (pc := 109) (i := 62) rfl rfl ?_
                        refine K_getR (pc := 110) (i := 63) (j := 5) (d := 188) rfl S_184 rfl (by decide) rfl fw_Model_19 ?_
                        refine K_iload (pc := 113) (i := 64) rfl rfl ?_
                        refine K_aload_n (pc := 115) (i := 65) rfl rfl ?_
                        refine K_getJ (pc := 116) (i := 66) (j := 22) rfl S_184 rfl (by decide) rfl fw_Model_198 ?_
                        refine K_bipush (pc := 119) (i := 67) rfl rfl ?_
                        refine K_lushr (pc := 121) (i := 68) rfl ?_
                        refine K_ldc2 (7) (pc := 122) (i := 69) rfl cl_Model_206 (by decide) ?_
                        refine K_lrem (pc := 125) (i := 70) rfl (by decide) ?_
                        refine K_l2i (pc := 126) (i := 71) rfl ?_
                        refine K_nm (fun v126 e126 => ?_)
                        have r126 := kL2i_R (kLrem (kLushr ((kU hb 184 22 (((hb 184 22) * 6364136223846793005) + 1442695040888963407)) 184 22) 33) 7)
                        rw [← e126] at r126
                        have t126 : 0 ≤ v126 ∧ v126 ≤ 6 := by rw [e126]; exact wd7 _
                        have y126 : v126 - 3 = wdv (itr (9 * x4.toNat + x5.toNat) g.2.2.2.1) := by unfold wdv; rw [e126, kU_at, if_pos ⟨rfl, rfl⟩, e8, show 9 * x4.toNat + x5.toNat = (9 * x4 + x5 - 1).toNat + 1 by omega, itr]
                        refine K_iconst (pc := 127) (i := 72) rfl ?_
                        refine K_isub (pc := 128) (i := 73) rfl ?_
                        refine K_iast (pc := 129) (i := 74) rfl S_188 (by omega) (by omega) (by decide) ?_
                        have hI := st_mwinds hI (i := (x5).toNat) (v := v126 - 3) (by omega)
                        have fx := Fx.st (c := 188) (i := (x5).toNat) (v := v126 - 3) fx (by first | (dsimp only; omega) | omega | exact not_false)
                        have wd129 : ∀ i : Nat, 1 ≤ i → (i : Int) < x5 + 1 → (kU (kU hb 184 22 (((hb 184 22) * 6364136223846793005) + 1442695040888963407)) 188 ((x5).toNat) (v126 - 3)) 188 i = wdv (itr (9 * x4.toNat + i) g.2.2.2.1) := fun i p q => by rw [kU_s]; by_cases e : i = x5.toNat; (rw [if_pos e, y126, e]); (rw [if_neg e, kU_c _ _ _ _ (by decide)]; exact hV86.2.2.2.2.2.2 i p (by omega))
                        refine K_inc (pc := 130) (i := 75) (q := 5) (lo' := [(0, _), (1, _), (2, _), (3, _), (4, _), (5, _)]) rfl rfl rfl rfl rfl ?_
                        refine K_goto 86 (pc := 133) (i := 76) rfl rfl ?_
                        exact ih86 (x5 + 1) _ (by omega) fx ⟨Gd.msdT hI (by rw [show (9 * x4 + (x5 + 1) - 1).toNat = (9 * x4 + x5 - 1).toNat + 1 by omega, itr, ← e8]), by omega, ((kU_c _ _ _ _ (by decide)).trans (kU_c _ _ _ _ (by decide))).trans hV86.2.2.1, ((kU_c _ _ _ _ (by decide)).trans (kU_c _ _ _ _ (by decide))).trans hV86.2.2.2.1, by rw [kU_at, if_neg (by omega), kU_c _ _ _ _ (by decide)]; exact hV86.2.2.2.2.1, ((kU_c _ _ _ _ (by decide)).trans (kU_c _ _ _ _ (by decide))).trans hV86.2.2.2.2.2.1, wd129⟩
                  exact L86 _ 1 _ (Nat.lt_succ_self _) fx ⟨Gd.msdT hI (by rw [show (9 * x4 + 1 - 1).toNat = (9 * x4).toNat by omega]), by omega, rfl, rfl, rfl, rfl, fun i p q => absurd q (by omega)⟩
            exact L77 _ v70 0 _ (Nat.lt_succ_self _) fx ⟨Gd.msd rfl hI, by omega, by omega, by rw [t70]; exact fk68, ow68, k68, rfl, ga68⟩
          · skip
            refine K_aload_n (pc := 33) (i := 19) rfl rfl ?_
            refine K_getR (pc := 34) (i := 20) (j := 23) (d := 198) rfl S_184 rfl (by decide) rfl fw_Model_50 ?_
            refine K_iload_n (pc := 37) (i := 21) rfl rfl ?_
            refine K_aload_n (pc := 38) (i := 22) rfl rfl ?_
            refine K_getR (pc := 39) (i := 23) (j := 5) (d := 188) rfl S_184 rfl (by decide) rfl fw_Model_19 ?_
            refine K_iload_n (pc := 42) (i := 24) rfl rfl ?_
            refine K_iald (pc := 43) (i := 25) rfl S_188 (by omega) (by omega) (by decide) ?_
            refine K_nm (fun v43 e43 => ?_)
            have r43 := rd_mwinds hI (x3).toNat
            rw [← e43] at r43
            have t43 : v43 = h 188 x3.toNat := by rw [e43, hV27.2.2]
            refine K_iast (pc := 44) (i := 26) rfl S_198 (by omega) (by omega) (by decide) ?_
            have hI := st_spareWind hI (i := (x3).toNat) (v := v43) (by omega)
            have fx := Fx.st (c := 198) (i := (x3).toNat) (v := v43) fx (by first | (dsimp only; omega) | omega | exact not_false)
            have sw44 : ∀ i : Nat, 1 ≤ i → (i : Int) < x3 + 1 → (kU ha 198 ((x3).toNat) v43) 198 i = h 188 i := fun i p q => by rw [kU_s]; by_cases e : i = x3.toNat; (rw [if_pos e, t43, e]); (rw [if_neg e]; exact hV27.2.1 i p (by omega))
            refine K_inc (pc := 45) (i := 27) (q := 3) (lo' := [(0, _), (1, _), (2, _), (3, _)]) rfl rfl rfl rfl rfl ?_
            refine K_goto 27 (pc := 48) (i := 28) rfl rfl ?_
            exact ih27 (x3 + 1) _ (by omega) hI fx ⟨by omega, sw44, (kU_c _ _ _ _ (by decide)).trans hV27.2.2⟩
      exact L27 _ 1 _ (Nat.lt_succ_self _) hI fx ⟨by omega, fun i p q => absurd q (by omega), rfl⟩
    · skip
      refine K_bipush (pc := 22) (i := 12) rfl rfl ?_
      exact K_retI (pc := 24) (i := 13) rfl rfl ⟨fx, ⟨Or.inl ⟨by omega, hI⟩, fun _ _ => rfl, Or.inl ⟨by omega, rfl⟩⟩⟩
end
