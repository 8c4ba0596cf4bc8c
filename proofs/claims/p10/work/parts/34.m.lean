/-- the row of acts takes the fleet -/
def RW (h ha : kH) (r n : Nat) : Prop := (∀ j, j < n → ha 191 (43 * r + j) = h 187 j) ∧ (∀ i, i < 43 * r ∨ 43 * r + 43 ≤ i → ha 191 i = h 191 i) ∧ ∀ c, c ≠ 191 → ha c = h c
theorem RW.k {h ha : kH} {r n i : Nat} {v : Int} (a : RW h ha r n) (hn : n < 40) (hi : i = 43 * r + n) (hv : v = ha 187 n) : RW h (kU ha 191 i v) r (n + 1) := by
  subst hi
  refine ⟨fun j hj => ?_, fun i hi => ?_, fun c hc => (kU_c _ _ _ _ hc).trans (a.2.2 c hc)⟩
  · rw [kU_at]
    by_cases e : j = n
    · rw [if_pos ⟨rfl, by omega⟩, e, hv, a.2.2 187 (by decide)]
    · rw [if_neg (by omega)]; exact a.1 j (by omega)
  · rw [kU_at, if_neg (by omega)]; exact a.2.1 i hi
theorem RW.ot {h ha : kH} {r i : Nat} {v : Int} (a : RW h ha r 40) (hi : 43 * r + 40 ≤ i ∧ i < 43 * r + 43) : RW h (kU ha 191 i v) r 40 := by
  refine ⟨fun j hj => ?_, fun q hq => ?_, fun c hc => (kU_c _ _ _ _ hc).trans (a.2.2 c hc)⟩
  · rw [kU_at, if_neg (by omega)]; exact a.1 j hj
  · rw [kU_at, if_neg (by omega)]; exact a.2.1 q hq
def KA (h h' : kH) : Prop := (∀ c, c ≠ 191 → c ≠ 184 → h' c = h c) ∧ ∀ i, i ≠ 11 → i ≠ 12 → h' 184 i = h 184 i
theorem RW.ka {h ha : kH} {r : Nat} {x y : Int} (a : RW h ha r 40) : KA h (kU (kU ha 184 12 x) 184 11 y) := by
  refine ⟨fun c h1 h2 => (kU_c _ _ _ _ h2).trans ((kU_c _ _ _ _ h2).trans (a.2.2 c h1)), fun i h1 h2 => ?_⟩
  rw [kU_at, if_neg (by omega), kU_at, if_neg (by omega), a.2.2 184 (by decide)]
theorem RW.ok {g : kGh} {h ha : kH} {r : Nat} {x y : Int} (hI : Gd g h) (a : RW h ha r 40) (hm : ha 191 (43 * r + 40) = h 184 4) (b : MOk h) : MOk (kU (kU ha 184 12 x) 184 11 y) := by
  have e : ∀ c, c ≠ 184 → kU (kU ha 184 12 x) 184 11 y c = ha c := fun c hc => (kU_c _ _ _ _ hc).trans (kU_c _ _ _ _ hc)
  have e4 : kU (kU ha 184 12 x) 184 11 y 184 4 = h 184 4 := by rw [kU_at, if_neg (by omega), kU_at, if_neg (by omega), a.2.2 184 (by decide)]
  unfold MOk
  rw [e 187 (by decide), e 191 (by decide), e 200 (by decide), e4, a.2.2 187 (by decide), a.2.2 200 (by decide)]
  refine ⟨b.1, fun q hq => ?_, b.2.2⟩
  by_cases hqr : q = r
  · subst hqr
    rw [hm]
    exact FK.congr (rd_many hI).2 (fun j hj => a.1 j hj) b.1
  · have e5 : ha 191 (43 * q + 40) = h 191 (43 * q + 40) := a.2.1 _ (by omega)
    rw [e5]
    have hb := (rd_row hI (43 * q + 40)).2 (by omega)
    exact FK.congr hb.2 (fun j hj => a.2.1 _ (by omega)) (b.2.1 q hq)
set_option maxHeartbeats 4000000 in
set_option maxRecDepth 100000 in
theorem c_Model_keepAct (G : kG) {g : kGh} {h : kH}  (hI : Gd g h) : Ctr G y_Model_keepAct X_Model_keepAct 1 [.ref (G.2.2.2 184)] h (kQv (fun h' => Fx (fun c i => c = 191 ∨ (c = 184 ∧ (i = 11 ∨ i = 12))) h h' ∧ (Gd g h' ∧ MR h h'))) := by
  refine Ctr.ofK (by decide) rfl T_Model_keepAct (Nat.le_of_ble_eq_true rfl) (lo := [(0, .ref (G.2.2.2 184))]) rfl ?_
  have fx : Fx (fun c i => c = 191 ∨ (c = 184 ∧ (i = 11 ∨ i = 12))) h h := Fx.rf
  obtain ⟨r, er⟩ : ∃ r : Nat, h 184 12 = r := Int.eq_ofNat_of_zero_le (rd_mnext hI).1
  have hr16 := (rd_mnext hI).2
  have hG := hI
  have hI := hI.nf
  have hac := rd_macts hG
  refine K_iconst (pc := 0) (i := 0) rfl ?_
  refine K_ist_n (pc := 1) (i := 1) (lo' := [(0, _), (1, _)]) rfl rfl rfl rfl ?_
  have L2 : ∀ (n : Nat) (x1 : Int) (ha : kH), (40 - x1).toNat < n → (Gd (kNf g) ha) → (Fx (fun c i => c = 191 ∨ (c = 184 ∧ (i = 11 ∨ i = 12))) h ha) → ((0 ≤ x1 ∧ x1 ≤ 40) ∧ RW h ha r x1.toNat) → K X_Model_keepAct G (kZm G 1 (kQv (fun h' => Fx (fun c i => c = 191 ∨ (c = 184 ∧ (i = 11 ∨ i = 12))) h h' ∧ (Gd g h' ∧ MR h h')))) 2 [(0, .ref (G.2.2.2 184)), (1, kI x1)] [] ha := by
    intro n
    induction n with
    | zero => intro x1 ha hm; exact absurd hm (Nat.not_lt_zero _)
    | succ n ih2 =>
      intro x1 ha hm2 hI fx hV2
      refine K_iload_n (pc := 2) (i := 2) rfl rfl ?_
      refine K_bipush (pc := 3) (i := 3) rfl rfl ?_
      first | refine K_icmp_ge 34 (pc := 5) (i := 4) rfl rfl (by omega) (by omega) (fun b5 => ?_) (fun b5 => ?_) | refine K_icmp_ge_an 34 (pc := 5) (i := 4) rfl rfl (fun b5 => ?_) (fun b5 => ?_)
      · skip
        have ro : RW h ha r 40 := by have := hV2.2; rwa [show x1.toNat = 40 by omega] at this
        refine K_aload_n (pc := 34) (i := 20) rfl rfl ?_
        refine K_getR (pc := 35) (i := 21) (j := 13) (d := 191) rfl S_184 rfl (by decide) rfl fw_Model_28 ?_
        refine K_bipush (pc := 38) (i := 22) rfl rfl ?_
        refine K_aload_n (pc := 40) (i := 23) rfl rfl ?_
        refine K_getI (pc := 41) (i := 24) (j := 12) rfl S_184 rfl (by decide) rfl fw_Model_116 ?_
        refine K_nm (fun v41 e41 => ?_)
        have r41 := rd_mnext hI
        rw [← e41] at r41
        have t41 : v41 = r := by rw [e41, ro.2.2 184 (by decide), er]
        refine K_imul (pc := 44) (i := 25) rfl ?_
        refine K_bipush (pc := 45) (i := 26) rfl rfl ?_
        refine K_iadd (pc := 47) (i := 27) rfl ?_
        refine K_aload_n (pc := 48) (i := 28) rfl rfl ?_
        refine K_getI (pc := 49) (i := 29) (j := 4) rfl S_184 rfl (by decide) rfl fw_Model_59 ?_
        refine K_nm (fun v49 e49 => ?_)
        have r49 := rd_many hI
        rw [← e49] at r49
        refine K_iast (pc := 52) (i := 30) rfl S_191 (by omega) (by omega) (by decide) ?_
        have hI := st_row hI (i := ((43 * v41) + 40).toNat) (v := v49) (by unfold bR; omega) (fun e _ => False.elim e)
        have fx := Fx.st (c := 191) (i := ((43 * v41) + 40).toNat) (v := v49) fx (by first | (dsimp only; omega) | omega | exact not_false)
        have t49 : v49 = h 184 4 := by rw [e49, ro.2.2 184 (by decide)]
        have ro := RW.ot (i := ((43 * v41) + 40).toNat) (v := v49) ro (by omega)
        have m52 : (kU ha 191 (((43 * v41) + 40).toNat) v49) 191 (43 * r + 40) = h 184 4 := by rw [kU_at, if_pos ⟨rfl, by omega⟩, t49]
        refine K_aload_n (pc := 53) (i := 31) rfl rfl ?_
        refine K_getR (pc := 54) (i := 32) (j := 13) (d := 191) rfl S_184 rfl (by decide) rfl fw_Model_28 ?_
        refine K_bipush (pc := 57) (i := 33) rfl rfl ?_
        refine K_aload_n (pc := 59) (i := 34) rfl rfl ?_
        refine K_getI (pc := 60) (i := 35) (j := 12) rfl S_184 rfl (by decide) rfl fw_Model_116 ?_
        refine K_nm (fun v60 e60 => ?_)
        have r60 := rd_mnext hI
        rw [← e60] at r60
        have t60 : v60 = r := by rw [e60, ro.2.2 184 (by decide), er]
        refine K_imul (pc := 63) (i := 36) rfl ?_
        refine K_bipush (pc := 64) (i := 37) rfl rfl ?_
        refine K_iadd (pc := 66) (i := 38) rfl ?_
        refine K_aload_n (pc := 67) (i := 39) rfl rfl ?_
        refine K_getR (pc := 68) (i := 40) (j := 6) (d := 189) rfl S_184 rfl (by decide) rfl fw_Model_22 ?_
        refine K_iconst (pc := 71) (i := 41) rfl ?_
        refine K_iald (pc := 72) (i := 42) rfl S_189 (by omega) (by omega) (by decide) ?_
        refine K_nm (fun v72 e72 => ?_)
        have t72 : v72 = h 189 0 := by rw [e72, ro.2.2 189 (by decide)]; rfl
        refine K_iast (pc := 73) (i := 43) rfl S_191 (by omega) (by omega) (by decide) ?_
        have hI := st_row hI (i := ((43 * v60) + 41).toNat) (v := v72) (by unfold bR; omega) (fun e _ => False.elim e)
        have fx := Fx.st (c := 191) (i := ((43 * v60) + 41).toNat) (v := v72) fx (by first | (dsimp only; omega) | omega | exact not_false)
        have ro := RW.ot (i := ((43 * v60) + 41).toNat) (v := v72) ro (by omega)
        have m73 : (kU (kU ha 191 (((43 * v41) + 40).toNat) v49) 191 (((43 * v60) + 41).toNat) v72) 191 (43 * r + 40) = h 184 4 ∧ (kU (kU ha 191 (((43 * v41) + 40).toNat) v49) 191 (((43 * v60) + 41).toNat) v72) 191 (43 * r + 41) = h 189 0 := ⟨by rw [kU_at, if_neg (by omega)]; exact m52, by rw [kU_at, if_pos ⟨rfl, by omega⟩, t72]⟩
        refine K_aload_n (pc := 74) (i := 44) rfl rfl ?_
        refine K_getR (pc := 75) (i := 45) (j := 13) (d := 191) rfl S_184 rfl (by decide) rfl fw_Model_28 ?_
        refine K_bipush (pc := 78) (i := 46) rfl rfl ?_
        refine K_aload_n (pc := 80) (i := 47) rfl rfl ?_
        refine K_getI (pc := 81) (i := 48) (j := 12) rfl S_184 rfl (by decide) rfl fw_Model_116 ?_
        refine K_nm (fun v81 e81 => ?_)
        have r81 := rd_mnext hI
        rw [← e81] at r81
        have t81 : v81 = r := by rw [e81, ro.2.2 184 (by decide), er]
        refine K_imul (pc := 84) (i := 49) rfl ?_
        refine K_bipush (pc := 85) (i := 50) rfl rfl ?_
        refine K_iadd (pc := 87) (i := 51) rfl ?_
        refine K_aload_n (pc := 88) (i := 52) rfl rfl ?_
        refine K_getR (pc := 89) (i := 53) (j := 6) (d := 189) rfl S_184 rfl (by decide) rfl fw_Model_22 ?_
        refine K_iconst (pc := 92) (i := 54) rfl ?_
        refine K_iald (pc := 93) (i := 55) rfl S_189 (by omega) (by omega) (by decide) ?_
        refine K_nm (fun v93 e93 => ?_)
        have t93 : v93 = h 189 1 := by rw [e93, ro.2.2 189 (by decide)]; rfl
        refine K_iast (pc := 94) (i := 56) rfl S_191 (by omega) (by omega) (by decide) ?_
        have hI := st_row hI (i := ((43 * v81) + 42).toNat) (v := v93) (by unfold bR; omega) (fun e _ => False.elim e)
        have fx := Fx.st (c := 191) (i := ((43 * v81) + 42).toNat) (v := v93) fx (by first | (dsimp only; omega) | omega | exact not_false)
        have ro := RW.ot (i := ((43 * v81) + 42).toNat) (v := v93) ro (by omega)
        have m94 : (kU (kU (kU ha 191 (((43 * v41) + 40).toNat) v49) 191 (((43 * v60) + 41).toNat) v72) 191 (((43 * v81) + 42).toNat) v93) 191 (43 * r + 40) = h 184 4 ∧ (kU (kU (kU ha 191 (((43 * v41) + 40).toNat) v49) 191 (((43 * v60) + 41).toNat) v72) 191 (((43 * v81) + 42).toNat) v93) 191 (43 * r + 41) = h 189 0 ∧ (kU (kU (kU ha 191 (((43 * v41) + 40).toNat) v49) 191 (((43 * v60) + 41).toNat) v72) 191 (((43 * v81) + 42).toNat) v93) 191 (43 * r + 42) = h 189 1 := ⟨by rw [kU_at, if_neg (by omega)]; exact m73.1, by rw [kU_at, if_neg (by omega)]; exact m73.2, by rw [kU_at, if_pos ⟨rfl, by omega⟩, t93]⟩
        refine K_aload_n (pc := 95) (i := 57) rfl rfl ?_
        refine K_aload_n (pc := 96) (i := 58) rfl rfl ?_
        refine K_getI (pc := 97) (i := 59) (j := 12) rfl S_184 rfl (by decide) rfl fw_Model_116 ?_
        refine K_nm (fun v97 e97 => ?_)
        have r97 := rd_mnext hI
        rw [← e97] at r97
        have t97 : v97 = r := by rw [e97, ro.2.2 184 (by decide), er]
        refine K_iconst (pc := 100) (i := 60) rfl ?_
        refine K_iadd (pc := 101) (i := 61) rfl ?_
        refine K_bipush (pc := 102) (i := 62) rfl rfl ?_
        refine K_irem (pc := 104) (i := 63) rfl (by omega) (by omega) ?_
        refine K_eq (kRem_eq (by omega) (by omega) (by omega) (by omega)) ?_
        refine K_putI (pc := 105) (i := 64) (j := 12) rfl S_184 rfl (by decide) rfl rfl rfl fw_Model_116 ?_
        have hI := st_mnext hI (v := (v97 + 1) % 16) (by omega)
        have fx := Fx.st (c := 184) (i := 12) (v := (v97 + 1) % 16) fx (by first | (dsimp only; omega) | omega | exact not_false)
        refine K_aload_n (pc := 108) (i := 65) rfl rfl ?_
        refine K_aload_n (pc := 109) (i := 66) rfl rfl ?_
        refine K_getI (pc := 110) (i := 67) (j := 11) rfl S_184 rfl (by decide) rfl fw_Model_99 ?_
        refine K_nm (fun v110 e110 => ?_)
        have r110 := rd_macts hI
        rw [← e110] at r110
        have t110 : v110 = h 184 11 := by rw [e110, kU_at, if_neg (by omega), ro.2.2 184 (by decide)]
        refine K_bipush (pc := 113) (i := 68) rfl rfl ?_
        first | refine K_icmp_ge 127 (pc := 115) (i := 69) rfl rfl (by omega) (by omega) (fun b115 => ?_) (fun b115 => ?_) | refine K_icmp_ge_an 127 (pc := 115) (i := 69) rfl rfl (fun b115 => ?_) (fun b115 => ?_)
        · skip
          refine K_bipush (pc := 127) (i := 75) rfl rfl ?_
          refine K_putI (pc := 129) (i := 76) (j := 11) rfl S_184 rfl (by decide) rfl rfl rfl fw_Model_99 ?_
          have hI := st_macts hI (v := 16) (by omega)
          have fx := Fx.st (c := 184) (i := 11) (v := 16) fx (by first | (dsimp only; omega) | omega | exact not_false)
          exact K_retV (pc := 132) (i := 77) rfl rfl ⟨fx, ⟨Gd.fn hI (fun e => RW.ok hG ro m94.1 (hG.2.2.2.2.2 e)), by
    unfold MR
    rw [er, show ((r : Int)).toNat = r by omega]
    refine ⟨⟨?_, ?_⟩, ?_, ?_, ?_⟩
    · rw [kU_at, if_neg (by omega), kU_at, if_pos ⟨rfl, rfl⟩, t97]
    · rw [kU_at, if_pos ⟨rfl, rfl⟩]; omega
    · intro j hj
      rw [kU_c _ _ _ _ (by decide), kU_c _ _ _ _ (by decide)]
      exact ro.1 j hj
    · rw [kU_c _ _ _ _ (show (191 : Nat) ≠ 184 by decide), kU_c _ _ _ _ (show (191 : Nat) ≠ 184 by decide)]
      exact m94
    · intro i hi
      rw [kU_c _ _ _ _ (by decide), kU_c _ _ _ _ (by decide)]
      exact ro.2.1 i hi⟩⟩
        · skip
          refine K_aload_n (pc := 118) (i := 70) rfl rfl ?_
          refine K_getI (pc := 119) (i := 71) (j := 11) rfl S_184 rfl (by decide) rfl fw_Model_99 ?_
          refine K_nm (fun v119 e119 => ?_)
          have r119 := rd_macts hI
          rw [← e119] at r119
          have t119 : v119 = h 184 11 := by rw [e119, kU_at, if_neg (by omega), ro.2.2 184 (by decide)]
          refine K_iconst (pc := 122) (i := 72) rfl ?_
          refine K_iadd (pc := 123) (i := 73) rfl ?_
          refine K_goto 129 (pc := 124) (i := 74) rfl rfl ?_
          refine K_putI (pc := 129) (i := 76) (j := 11) rfl S_184 rfl (by decide) rfl rfl rfl fw_Model_99 ?_
          have hI := st_macts hI (v := v119 + 1) (by omega)
          have fx := Fx.st (c := 184) (i := 11) (v := v119 + 1) fx (by first | (dsimp only; omega) | omega | exact not_false)
          exact K_retV (pc := 132) (i := 77) rfl rfl ⟨fx, ⟨Gd.fn hI (fun e => RW.ok hG ro m94.1 (hG.2.2.2.2.2 e)), by
    unfold MR
    rw [er, show ((r : Int)).toNat = r by omega]
    refine ⟨⟨?_, ?_⟩, ?_, ?_, ?_⟩
    · rw [kU_at, if_neg (by omega), kU_at, if_pos ⟨rfl, rfl⟩, t97]
    · rw [kU_at, if_pos ⟨rfl, rfl⟩]; omega
    · intro j hj
      rw [kU_c _ _ _ _ (by decide), kU_c _ _ _ _ (by decide)]
      exact ro.1 j hj
    · rw [kU_c _ _ _ _ (show (191 : Nat) ≠ 184 by decide), kU_c _ _ _ _ (show (191 : Nat) ≠ 184 by decide)]
      exact m94
    · intro i hi
      rw [kU_c _ _ _ _ (by decide), kU_c _ _ _ _ (by decide)]
      exact ro.2.1 i hi⟩⟩
      · skip
        refine K_aload_n (pc := 8) (i := 5) rfl rfl ?_
        refine K_getR (pc := 9) (i := 6) (j := 13) (d := 191) rfl S_184 rfl (by decide) rfl fw_Model_28 ?_
        refine K_bipush (pc := 12) (i := 7) rfl rfl ?_
        refine K_aload_n (pc := 14) (i := 8) rfl rfl ?_
        refine K_getI (pc := 15) (i := 9) (j := 12) rfl S_184 rfl (by decide) rfl fw_Model_116 ?_
        refine K_nm (fun v15 e15 => ?_)
        have r15 := rd_mnext hI
        rw [← e15] at r15
        have t15 : v15 = r := by rw [e15, hV2.2.2.2 184 (by decide), er]
        refine K_imul (pc := 18) (i := 10) rfl ?_
        refine K_iload_n (pc := 19) (i := 11) rfl rfl ?_
        refine K_iadd (pc := 20) (i := 12) rfl ?_
        refine K_aload_n (pc := 21) (i := 13) rfl rfl ?_
        refine K_getR (pc := 22) (i := 14) (j := 3) (d := 187) rfl S_184 rfl (by decide) rfl fw_Model_16 ?_
        refine K_iload_n (pc := 25) (i := 15) rfl rfl ?_
        refine K_iald (pc := 26) (i := 16) rfl S_187 (by omega) (by omega) (by decide) ?_
        refine K_nm (fun v26 e26 => ?_)
        have r26 := rd_mkites hI (x1).toNat
        rw [← e26] at r26
        refine K_iast (pc := 27) (i := 17) rfl S_191 (by omega) (by omega) (by decide) ?_
        have hI := st_row hI (i := ((43 * v15) + x1).toNat) (v := v26) (bR_of (r := (v15).toNat) r26 (by omega) (by omega)) (fun e _ => False.elim e)
        have fx := Fx.st (c := 191) (i := ((43 * v15) + x1).toNat) (v := v26) fx (by first | (dsimp only; omega) | omega | exact not_false)
        have ro27 := RW.k (i := ((43 * v15) + x1).toNat) (v := v26) hV2.2 (by omega) (by omega) e26
        refine K_inc (pc := 28) (i := 18) (q := 1) (lo' := [(0, _), (1, _)]) rfl rfl rfl rfl rfl ?_
        refine K_goto 2 (pc := 31) (i := 19) rfl rfl ?_
        exact ih2 (x1 + 1) _ (by omega) hI fx ⟨by omega, by have := ro27; rwa [show x1.toNat + 1 = (x1 + 1).toNat by omega] at this⟩
  exact L2 _ 0 _ (Nat.lt_succ_self _) hI fx ⟨by omega, fun j hj => absurd hj (by omega), fun _ _ => rfl, fun _ _ => rfl⟩
set_option maxHeartbeats 4000000 in
set_option maxRecDepth 100000 in
theorem c_Model_rise (G : kG) {g : kGh} {h : kH} {x1 : Int} {x2 : Int} (s1 : kR x1) (s2 : kR x2) (hI : Gd g h) : Ctr G y_Model_rise X_Model_rise 13 [.ref (G.2.2.2 184), kI x1, kI x2] h (kQi (fun z h' => Fx (fun c i => c = 187 ∨ c = 191 ∨ (c = 184 ∧ (i = 11 ∨ i = 12))) h h' ∧ (Gd g h' ∧ CMrise h h' x1 x2 z))) := by
  refine Ctr.ofK (by decide) rfl T_Model_rise (Nat.le_of_ble_eq_true rfl) (lo := [(0, .ref (G.2.2.2 184)), (1, kI x1), (2, kI x2)]) rfl ?_
  have fx : Fx (fun c i => c = 187 ∨ c = 191 ∨ (c = 184 ∧ (i = 11 ∨ i = 12))) h h := Fx.rf
  refine K_aload_n (pc := 0) (i := 0) rfl rfl ?_
  refine K_iload_n (pc := 1) (i := 1) rfl rfl ?_
  refine K_cVI (pc := 2) (i := 2) rfl (c_Model_isKite G (x1 := x1) (hI := hI) (s1 := by omega)) S_184 rfl (lv_Model_102 rfl) rfl rfl rfl rfl rfl (fun v2 h2 q2 => ?_)
  obtain ⟨eh, r2⟩ := q2
  rw [eh]; clear eh
  first | refine K_if_ne 10 (pc := 5) (i := 3) rfl rfl (by omega) (fun b5 => ?_) (fun b5 => ?_) | refine K_if_ne_an 10 (pc := 5) (i := 3) rfl rfl (fun b5 => ?_) (fun b5 => ?_)
  · skip
    refine K_iload_n (pc := 10) (i := 6) rfl rfl ?_
    refine K_i2l (pc := 11) (i := 7) rfl ?_
    refine K_eqJ (kI2l_eq (a := x2) (by omega)) ?_
    refine K_ldc2 (-8) (pc := 12) (i := 8) rfl cl_Model_119 (by decide) ?_
    refine K_ldc2 (8) (pc := 15) (i := 9) rfl cl_Model_63 (by decide) ?_
    refine K_cSI (pc := 18) (i := 10) rfl (c_Model_in G (l0 := x2) (l2 := -8) (l4 := 8) (s0 := by omega) (s2 := by omega) (s4 := by omega)) (ls_Model_65 rfl) rfl rfl rfl rfl (fun v18 h18 q18 => ?_)
    obtain ⟨eh, r18⟩ := q18
    rw [eh]; clear eh
    first | refine K_if_eq 47 (pc := 21) (i := 11) rfl rfl (by omega) (fun b21 => ?_) (fun b21 => ?_) | refine K_if_eq_an 47 (pc := 21) (i := 11) rfl rfl (fun b21 => ?_) (fun b21 => ?_)
    · skip
      refine K_bipush (pc := 47) (i := 27) rfl rfl ?_
      exact K_retI (pc := 49) (i := 28) rfl rfl ⟨fx, ⟨hI, Or.inr (Or.inl ⟨by omega, by first | (rw [w33]; omega) | (intro q; omega), rfl, rfl⟩)⟩⟩
    · skip
      refine K_aload_n (pc := 24) (i := 12) rfl rfl ?_
      refine K_getR (pc := 25) (i := 13) (j := 3) (d := 187) rfl S_184 rfl (by decide) rfl fw_Model_16 ?_
      refine K_iconst (pc := 28) (i := 14) rfl ?_
      refine K_iload_n (pc := 29) (i := 15) rfl rfl ?_
      refine K_imul (pc := 30) (i := 16) rfl ?_
      refine K_iconst (pc := 31) (i := 17) rfl ?_
      refine K_iadd (pc := 32) (i := 18) rfl ?_
      refine K_iald (pc := 33) (i := 19) rfl S_187 (by omega) (by omega) (by decide) ?_
      refine K_nm (fun v33 e33 => ?_)
      have r33 := (rd_mkites hI ((5 * x1) + 3).toNat).2.1 (by omega)
      rw [← e33] at r33
      have w33 : h 187 (5 * x1.toNat + 3) = v33 := by rw [e33]; congr 1; omega
      refine K_iload_n (pc := 34) (i := 20) rfl rfl ?_
      refine K_iadd (pc := 35) (i := 21) rfl ?_
      refine K_i2l (pc := 36) (i := 22) rfl ?_
      refine K_eqJ (kI2l_eq (a := v33 + x2) (by omega)) ?_
      refine K_lconst 1 (pc := 37) (i := 23) rfl rfl ?_
      refine K_ldc2 (9) (pc := 38) (i := 24) rfl cl_Model_80 (by decide) ?_
      refine K_cSI (pc := 41) (i := 25) rfl (c_Model_in G (l0 := v33 + x2) (l2 := 1) (l4 := 9) (s0 := by omega) (s2 := by omega) (s4 := by omega)) (ls_Model_65 rfl) rfl rfl rfl rfl (fun v41 h41 q41 => ?_)
      obtain ⟨eh, r41⟩ := q41
      rw [eh]; clear eh
      first | refine K_if_ne 50 (pc := 44) (i := 26) rfl rfl (by omega) (fun b44 => ?_) (fun b44 => ?_) | refine K_if_ne_an 50 (pc := 44) (i := 26) rfl rfl (fun b44 => ?_) (fun b44 => ?_)
      · skip
        refine K_aload_n (pc := 50) (i := 29) rfl rfl ?_
        refine K_cVV (pc := 51) (i := 30) rfl (c_Model_keepAct G (hI := hI)) S_184 rfl (lv_Model_121 rfl) rfl rfl rfl rfl rfl (fun h51 q51 => ?_)
        obtain ⟨fx51, q51⟩ := q51
        obtain ⟨hI, mr51⟩ := q51
        have fx := fx.tr fx51 (fun c i q => (by first | (dsimp only at q ⊢; omega) | omega))
        refine K_aload_n (pc := 54) (i := 31) rfl rfl ?_
        refine K_getR (pc := 55) (i := 32) (j := 3) (d := 187) rfl S_184 rfl (by decide) rfl fw_Model_16 ?_
        refine K_iconst (pc := 58) (i := 33) rfl ?_
        refine K_iload_n (pc := 59) (i := 34) rfl rfl ?_
        refine K_imul (pc := 60) (i := 35) rfl ?_
        refine K_iconst (pc := 61) (i := 36) rfl ?_
        refine K_iadd (pc := 62) (i := 37) rfl ?_
        refine K_dup2 (pc := 63) (i := 38) rfl rfl rfl ?_
        refine K_iald (pc := 64) (i := 39) rfl S_187 (by omega) (by omega) (by decide) ?_
        refine K_nm (fun v64 e64 => ?_)
        have r64 := (rd_mkites hI ((5 * x1) + 3).toNat).2.1 (by omega)
        rw [← e64] at r64
        have t64 : v64 = v33 := by rw [e64, e33, fx51.cell 187 (fun i => (by first | (dsimp only; omega) | omega))]
        refine K_iload_n (pc := 65) (i := 40) rfl rfl ?_
        refine K_iadd (pc := 66) (i := 41) rfl ?_
        refine K_iast (pc := 67) (i := 42) rfl S_187 (by omega) (by omega) (by decide) ?_
        have hI := st_mkites hI (i := ((5 * x1) + 3).toNat) (v := v64 + x2) (by unfold bK; omega) (fun _ a => a.u187 (fun b => b.setH x1.toNat (by omega) (by omega)))
        have fx := Fx.st (c := 187) (i := ((5 * x1) + 3).toNat) (v := v64 + x2) fx (by first | (dsimp only; omega) | omega | exact not_false)
        refine K_aload_n (pc := 68) (i := 43) rfl rfl ?_
        refine K_getR (pc := 69) (i := 44) (j := 3) (d := 187) rfl S_184 rfl (by decide) rfl fw_Model_16 ?_
        refine K_iconst (pc := 72) (i := 45) rfl ?_
        refine K_iload_n (pc := 73) (i := 46) rfl rfl ?_
        refine K_imul (pc := 74) (i := 47) rfl ?_
        refine K_iconst (pc := 75) (i := 48) rfl ?_
        refine K_iadd (pc := 76) (i := 49) rfl ?_
        refine K_iald (pc := 77) (i := 50) rfl S_187 (by omega) (by omega) (by decide) ?_
        refine K_nm (fun v77 e77 => ?_)
        have r77 := (rd_mkites hI ((5 * x1) + 3).toNat).2.1 (by omega)
        rw [← e77] at r77
        have t77 : v77 = v33 + x2 := by rw [e77, kU_s, if_pos rfl, t64]
        exact K_retI (pc := 78) (i := 51) rfl rfl ⟨fx, ⟨hI, Or.inr (Or.inr ⟨by omega, by rw [w33]; omega, by rw [t77, w33], mr51.of (kU_c _ _ _ _ (by decide)) (by rw [kU_c _ _ _ _ (by decide)]) (by rw [kU_c _ _ _ _ (by decide)]), fun j => by rw [kU_s, fx51.cell 187 (fun i => (by first | (dsimp only; omega) | omega)), w33, t64, show ((5 * x1) + 3).toNat = 5 * x1.toNat + 3 by omega]⟩)⟩⟩
      · skip
        refine K_bipush (pc := 47) (i := 27) rfl rfl ?_
        exact K_retI (pc := 49) (i := 28) rfl rfl ⟨fx, ⟨hI, Or.inr (Or.inl ⟨by omega, by first | (rw [w33]; omega) | (intro q; omega), rfl, rfl⟩)⟩⟩
  · skip
    refine K_iconst (pc := 8) (i := 4) rfl ?_
    exact K_retI (pc := 9) (i := 5) rfl rfl ⟨fx, ⟨hI, Or.inl ⟨by omega, rfl, rfl⟩⟩⟩
def hsN (h : kH) (x n : Int) : Prop := ∃ i : Nat, (i : Int) < n ∧ h 187 (5 * i + 1) = x
theorem hsN.z {h : kH} {x : Int} : ¬ hsN h x 0 := fun ⟨i, a, _⟩ => by omega
theorem hsN.up {h : kH} {x n : Int} (a : hsN h x n) : hsN h x (n + 1) := by
  obtain ⟨i, h1, h2⟩ := a
  exact ⟨i, by omega, h2⟩
theorem hsN.new {h : kH} {x n : Int} (h0 : 0 ≤ n) (e : h 187 (5 * n.toNat + 1) = x) : hsN h x (n + 1) := ⟨n.toNat, by omega, e⟩
theorem hsN.no {h : kH} {x n : Int} (h0 : 0 ≤ n) (a : ¬ hsN h x n) (e : h 187 (5 * n.toNat + 1) ≠ x) : ¬ hsN h x (n + 1) := fun ⟨i, h1, h2⟩ => by
  by_cases q : i = n.toNat
  · rw [q] at h2; exact e h2
  · exact a ⟨i, by omega, h2⟩
set_option maxHeartbeats 4000000 in
set_option maxRecDepth 100000 in
theorem c_Model_isStake (G : kG) {g : kGh} {h : kH} {x1 : Int} (s1 : kR x1) (hk : FK (h 187) (h 184 4)) (hI : Gd g h) : Ctr G y_Model_isStake X_Model_isStake 1 [.ref (G.2.2.2 184), kI x1] h (kQi (fun z h' => h' = h ∧ ((z = 1 ∧ hsM h x1) ∨ (z = 0 ∧ ¬ hsM h x1)))) := by
  refine Ctr.ofK (by decide) rfl T_Model_isStake (Nat.le_of_ble_eq_true rfl) (lo := [(0, .ref (G.2.2.2 184)), (1, kI x1)]) rfl ?_
  have hm8 := rd_many hI
  refine K_iconst (pc := 0) (i := 0) rfl ?_
  refine K_ist_n (pc := 1) (i := 1) (lo' := [(0, _), (1, _), (2, _)]) rfl rfl rfl rfl ?_
  refine K_iconst (pc := 2) (i := 2) rfl ?_
  refine K_ist_n (pc := 3) (i := 3) (lo' := [(0, _), (1, _), (2, _), (3, _)]) rfl rfl rfl rfl ?_
  have L4 : ∀ (n : Nat) (x2 : Int) (x3 : Int), (8 - x3).toNat < n → ((0 ≤ x3 ∧ x3 ≤ h 184 4) ∧ ((x2 = 1 ∧ hsN h x1 x3) ∨ (x2 = 0 ∧ ¬ hsN h x1 x3))) → K X_Model_isStake G (kZm G 1 (kQi (fun z h' => h' = h ∧ ((z = 1 ∧ hsM h x1) ∨ (z = 0 ∧ ¬ hsM h x1))))) 4 [(0, .ref (G.2.2.2 184)), (1, kI x1), (2, kI x2), (3, kI x3)] [] h := by
    intro n
    induction n with
    | zero => intro x2 x3 hm; exact absurd hm (Nat.not_lt_zero _)
    | succ n ih4 =>
      intro x2 x3 hm4 hV4
      have k4 : x2 = 0 ∨ x2 = 1 := hV4.2.elim (fun q => Or.inr q.1) (fun q => Or.inl q.1)
      refine K_iload_n (pc := 4) (i := 4) rfl rfl ?_
      refine K_aload_n (pc := 5) (i := 5) rfl rfl ?_
      refine K_getI (pc := 6) (i := 6) (j := 4) rfl S_184 rfl (by decide) rfl fw_Model_59 ?_
      refine K_nm (fun v6 e6 => ?_)
      have r6 := rd_many hI
      rw [← e6] at r6
      first | refine K_icmp_ge 42 (pc := 9) (i := 7) rfl rfl (by omega) (by omega) (fun b9 => ?_) (fun b9 => ?_) | refine K_icmp_ge_an 42 (pc := 9) (i := 7) rfl rfl (fun b9 => ?_) (fun b9 => ?_)
      · skip
        refine K_iload_n (pc := 42) (i := 26) rfl rfl ?_
        exact K_retZ (pc := 43) (i := 27) rfl rfl (by omega) ⟨rfl, by rw [show x3 = h 184 4 by omega] at hV4; exact hV4.2⟩
      · skip
        refine K_iload_n (pc := 12) (i := 8) rfl rfl ?_
        first | refine K_if_ne 30 (pc := 13) (i := 9) rfl rfl (by omega) (fun b13 => ?_) (fun b13 => ?_) | refine K_if_ne_an 30 (pc := 13) (i := 9) rfl rfl (fun b13 => ?_) (fun b13 => ?_)
        · skip
          refine K_iconst (pc := 30) (i := 20) rfl ?_
          refine K_goto 35 (pc := 31) (i := 21) rfl rfl ?_
          refine K_ist_n (pc := 35) (i := 23) (lo' := [(0, _), (1, _), (2, _), (3, _)]) rfl rfl rfl rfl ?_
          refine K_inc (pc := 36) (i := 24) (q := 3) (lo' := [(0, _), (1, _), (2, _), (3, _)]) rfl rfl rfl rfl rfl ?_
          refine K_goto 4 (pc := 39) (i := 25) rfl rfl ?_
          exact ih4 1 (x3 + 1) (by omega) (by first | exact ⟨by omega, Or.inl ⟨rfl, hsN.new hV4.1.1 (by rw [w25]; omega)⟩⟩ | exact ⟨by omega, Or.inr ⟨rfl, hsN.no hV4.1.1 (hV4.2.elim (fun q => absurd q.1 (by omega)) (fun q => q.2)) (by rw [w25]; omega)⟩⟩ | exact ⟨by omega, Or.inl ⟨rfl, (hV4.2.elim (fun q => q.2) (fun q => absurd q.1 (by omega))).up⟩⟩)
        · skip
          refine K_aload_n (pc := 16) (i := 10) rfl rfl ?_
          refine K_getR (pc := 17) (i := 11) (j := 3) (d := 187) rfl S_184 rfl (by decide) rfl fw_Model_16 ?_
          refine K_iconst (pc := 20) (i := 12) rfl ?_
          refine K_iload_n (pc := 21) (i := 13) rfl rfl ?_
          refine K_imul (pc := 22) (i := 14) rfl ?_
          refine K_iconst (pc := 23) (i := 15) rfl ?_
          refine K_iadd (pc := 24) (i := 16) rfl ?_
          refine K_iald (pc := 25) (i := 17) rfl S_187 (by omega) (by omega) (by decide) ?_
          refine K_nm (fun v25 e25 => ?_)
          have r25 := rd_mkites hI ((5 * x3) + 1).toNat
          rw [← e25] at r25
          have u25 := (hk x3.toNat (by omega)).1
          have w25 : h 187 (5 * x3.toNat + 1) = v25 := by rw [e25, show 5 * x3.toNat + 1 = ((5 * x3) + 1).toNat by omega]
          rw [w25] at u25
          refine K_iload_n (pc := 26) (i := 18) rfl rfl ?_
          first | refine K_icmp_ne 34 (pc := 27) (i := 19) rfl rfl (by omega) (by omega) (fun b27 => ?_) (fun b27 => ?_) | refine K_icmp_ne_an 34 (pc := 27) (i := 19) rfl rfl (fun b27 => ?_) (fun b27 => ?_)
          · skip
            refine K_iconst (pc := 34) (i := 22) rfl ?_
            refine K_ist_n (pc := 35) (i := 23) (lo' := [(0, _), (1, _), (2, _), (3, _)]) rfl rfl rfl rfl ?_
            refine K_inc (pc := 36) (i := 24) (q := 3) (lo' := [(0, _), (1, _), (2, _), (3, _)]) rfl rfl rfl rfl rfl ?_
            refine K_goto 4 (pc := 39) (i := 25) rfl rfl ?_
            exact ih4 0 (x3 + 1) (by omega) (by first | exact ⟨by omega, Or.inl ⟨rfl, hsN.new hV4.1.1 (by rw [w25]; omega)⟩⟩ | exact ⟨by omega, Or.inr ⟨rfl, hsN.no hV4.1.1 (hV4.2.elim (fun q => absurd q.1 (by omega)) (fun q => q.2)) (by rw [w25]; omega)⟩⟩ | exact ⟨by omega, Or.inl ⟨rfl, (hV4.2.elim (fun q => q.2) (fun q => absurd q.1 (by omega))).up⟩⟩)
          · skip
            refine K_iconst (pc := 30) (i := 20) rfl ?_
            refine K_goto 35 (pc := 31) (i := 21) rfl rfl ?_
            refine K_ist_n (pc := 35) (i := 23) (lo' := [(0, _), (1, _), (2, _), (3, _)]) rfl rfl rfl rfl ?_
            refine K_inc (pc := 36) (i := 24) (q := 3) (lo' := [(0, _), (1, _), (2, _), (3, _)]) rfl rfl rfl rfl rfl ?_
            refine K_goto 4 (pc := 39) (i := 25) rfl rfl ?_
            exact ih4 1 (x3 + 1) (by omega) (by first | exact ⟨by omega, Or.inl ⟨rfl, hsN.new hV4.1.1 (by rw [w25]; omega)⟩⟩ | exact ⟨by omega, Or.inr ⟨rfl, hsN.no hV4.1.1 (hV4.2.elim (fun q => absurd q.1 (by omega)) (fun q => q.2)) (by rw [w25]; omega)⟩⟩ | exact ⟨by omega, Or.inl ⟨rfl, (hV4.2.elim (fun q => q.2) (fun q => absurd q.1 (by omega))).up⟩⟩)
  exact L4 _ 0 0 (Nat.lt_succ_self _) ⟨by omega, Or.inr ⟨rfl, hsN.z⟩⟩
set_option maxHeartbeats 4000000 in
set_option maxRecDepth 100000 in
theorem c_Model_run (G : kG) {g : kGh} {h : kH}  (hT : g.2.2.2.2){x1 : Int} {x2 : Int} (s1 : kR x1) (s2 : kR x2) (hI : Gd g h) : Ctr G y_Model_run X_Model_run 13 [.ref (G.2.2.2 184), kI x1, kI x2] h (kQi (fun z h' => Fx (fun c i => c = 187 ∨ c = 191 ∨ (c = 184 ∧ (i = 11 ∨ i = 12))) h h' ∧ (Gd g h' ∧ CMrun h h' x1 x2 z))) := by
  refine Ctr.ofK (by decide) rfl T_Model_run (Nat.le_of_ble_eq_true rfl) (lo := [(0, .ref (G.2.2.2 184)), (1, kI x1), (2, kI x2)]) rfl ?_
  have fx : Fx (fun c i => c = 187 ∨ c = 191 ∨ (c = 184 ∧ (i = 11 ∨ i = 12))) h h := Fx.rf
  have hk := (hI.2.2.2.2.2 hT).1
  have hm8 := rd_many hI
  refine K_aload_n (pc := 0) (i := 0) rfl rfl ?_
  refine K_iload_n (pc := 1) (i := 1) rfl rfl ?_
  refine K_cVI (pc := 2) (i := 2) rfl (c_Model_isKite G (x1 := x1) (hI := hI) (s1 := by omega)) S_184 rfl (lv_Model_102 rfl) rfl rfl rfl rfl rfl (fun v2 h2 q2 => ?_)
  obtain ⟨eh, r2⟩ := q2
  rw [eh]; clear eh
  first | refine K_if_ne 10 (pc := 5) (i := 3) rfl rfl (by omega) (fun b5 => ?_) (fun b5 => ?_) | refine K_if_ne_an 10 (pc := 5) (i := 3) rfl rfl (fun b5 => ?_) (fun b5 => ?_)
  · skip
    refine K_iload_n (pc := 10) (i := 6) rfl rfl ?_
    refine K_i2l (pc := 11) (i := 7) rfl ?_
    refine K_eqJ (kI2l_eq (a := x2) (by omega)) ?_
    refine K_lconst 0 (pc := 12) (i := 8) rfl rfl ?_
    refine K_ldc2 (40) (pc := 13) (i := 9) rfl cl_Model_124 (by decide) ?_
    refine K_cSI (pc := 16) (i := 10) rfl (c_Model_in G (l0 := x2) (l2 := 0) (l4 := 40) (s0 := by omega) (s2 := by omega) (s4 := by omega)) (ls_Model_65 rfl) rfl rfl rfl rfl (fun v16 h16 q16 => ?_)
    obtain ⟨eh, r16⟩ := q16
    rw [eh]; clear eh
    first | refine K_if_ne 25 (pc := 19) (i := 11) rfl rfl (by omega) (fun b19 => ?_) (fun b19 => ?_) | refine K_if_ne_an 25 (pc := 19) (i := 11) rfl rfl (fun b19 => ?_) (fun b19 => ?_)
    · skip
      refine K_aload_n (pc := 25) (i := 14) rfl rfl ?_
      refine K_iload_n (pc := 26) (i := 15) rfl rfl ?_
      refine K_cVI (pc := 27) (i := 16) rfl (c_Model_isStake G (x1 := x2) (hk := hk) (hI := hI) (s1 := by omega)) S_184 rfl (lv_Model_126 rfl) rfl rfl rfl rfl rfl (fun v27 h27 q27 => ?_)
      obtain ⟨eh, r27⟩ := q27
      rw [eh]; clear eh
      have k27 : v27 = 0 ∨ v27 = 1 := r27.elim (fun q => Or.inr q.1) (fun q => Or.inl q.1)
      first | refine K_if_eq 36 (pc := 30) (i := 17) rfl rfl (by omega) (fun b30 => ?_) (fun b30 => ?_) | refine K_if_eq_an 36 (pc := 30) (i := 17) rfl rfl (fun b30 => ?_) (fun b30 => ?_)
      · skip
        refine K_aload_n (pc := 36) (i := 20) rfl rfl ?_
        refine K_cVV (pc := 37) (i := 21) rfl (c_Model_keepAct G (hI := hI)) S_184 rfl (lv_Model_121 rfl) rfl rfl rfl rfl rfl (fun h37 q37 => ?_)
        obtain ⟨fx37, q37⟩ := q37
        obtain ⟨hI, mr37⟩ := q37
        have fx := fx.tr fx37 (fun c i q => (by first | (dsimp only at q ⊢; omega) | omega))
        refine K_aload_n (pc := 40) (i := 22) rfl rfl ?_
        refine K_getR (pc := 41) (i := 23) (j := 3) (d := 187) rfl S_184 rfl (by decide) rfl fw_Model_16 ?_
        refine K_iconst (pc := 44) (i := 24) rfl ?_
        refine K_iload_n (pc := 45) (i := 25) rfl rfl ?_
        refine K_imul (pc := 46) (i := 26) rfl ?_
        refine K_iconst (pc := 47) (i := 27) rfl ?_
        refine K_iadd (pc := 48) (i := 28) rfl ?_
        refine K_iald (pc := 49) (i := 29) rfl S_187 (by omega) (by omega) (by decide) ?_
        refine K_nm (fun v49 e49 => ?_)
        have w49 : h 187 (5 * x1.toNat + 1) = v49 := by rw [e49, fx37.cell 187 (fun i => (by first | (dsimp only; omega) | omega))]; congr 1; omega
        have u49 := (hk x1.toNat (by omega)).1
        rw [w49] at u49
        refine K_iload_n (pc := 50) (i := 30) rfl rfl ?_
        refine K_isub (pc := 51) (i := 31) rfl ?_
        refine K_ist_n (pc := 52) (i := 32) (lo' := [(0, _), (1, _), (2, _), (3, _)]) rfl rfl rfl rfl ?_
        refine K_aload_n (pc := 53) (i := 33) rfl rfl ?_
        refine K_getR (pc := 54) (i := 34) (j := 3) (d := 187) rfl S_184 rfl (by decide) rfl fw_Model_16 ?_
        refine K_iconst (pc := 57) (i := 35) rfl ?_
        refine K_iload_n (pc := 58) (i := 36) rfl rfl ?_
        refine K_imul (pc := 59) (i := 37) rfl ?_
        refine K_iconst (pc := 60) (i := 38) rfl ?_
        refine K_iadd (pc := 61) (i := 39) rfl ?_
        refine K_iload_n (pc := 62) (i := 40) rfl rfl ?_
        refine K_iast (pc := 63) (i := 41) rfl S_187 (by omega) (by omega) (by decide) ?_
        have hI := st_mkites hI (i := ((5 * x1) + 1).toNat) (v := x2) (by unfold bK; omega) (fun _ a => a.u187 (fun b => b.setS x1.toNat (by omega) (by omega) (fun j hj e => (r27.elim (fun q => absurd q.1 (by omega)) (fun q => q.2)) ⟨j, by rw [← fx37 184 4 (by first | (dsimp only; omega) | omega | exact not_false)]; exact hj, by rw [← fx37.cell 187 (fun i => (by first | (dsimp only; omega) | omega))]; exact e⟩)))
        have fx := Fx.st (c := 187) (i := ((5 * x1) + 1).toNat) (v := x2) fx (by first | (dsimp only; omega) | omega | exact not_false)
        refine K_iload_n (pc := 64) (i := 42) rfl rfl ?_
        first | refine K_if_ge 73 (pc := 65) (i := 43) rfl rfl (by omega) (fun b65 => ?_) (fun b65 => ?_) | refine K_if_ge_an 73 (pc := 65) (i := 43) rfl rfl (fun b65 => ?_) (fun b65 => ?_)
        · skip
          refine K_iload_n (pc := 73) (i := 47) rfl rfl ?_
          exact K_retI (pc := 74) (i := 48) rfl rfl ⟨fx, ⟨hI, Or.inr (Or.inr (Or.inr ⟨by omega, by omega, r27.elim (fun q => absurd q.1 (by omega)) (fun q => q.2), by rw [w49]; unfold kAbs; split <;> omega, mr37.of (kU_c _ _ _ _ (by decide)) (by rw [kU_c _ _ _ _ (by decide)]) (by rw [kU_c _ _ _ _ (by decide)]), fun j => by rw [kU_s, fx37.cell 187 (fun i => (by first | (dsimp only; omega) | omega)), show ((5 * x1) + 1).toNat = 5 * x1.toNat + 1 by omega]⟩))⟩⟩
        · skip
          refine K_iload_n (pc := 68) (i := 44) rfl rfl ?_
          refine K_ineg (pc := 69) (i := 45) rfl ?_
          refine K_goto 74 (pc := 70) (i := 46) rfl rfl ?_
          exact K_retI (pc := 74) (i := 48) rfl rfl ⟨fx, ⟨hI, Or.inr (Or.inr (Or.inr ⟨by omega, by omega, r27.elim (fun q => absurd q.1 (by omega)) (fun q => q.2), by rw [w49]; unfold kAbs; split <;> omega, mr37.of (kU_c _ _ _ _ (by decide)) (by rw [kU_c _ _ _ _ (by decide)]) (by rw [kU_c _ _ _ _ (by decide)]), fun j => by rw [kU_s, fx37.cell 187 (fun i => (by first | (dsimp only; omega) | omega)), show ((5 * x1) + 1).toNat = 5 * x1.toNat + 1 by omega]⟩))⟩⟩
      · skip
        refine K_bipush (pc := 33) (i := 18) rfl rfl ?_
        exact K_retI (pc := 35) (i := 19) rfl rfl ⟨fx, ⟨hI, Or.inr (Or.inr (Or.inl ⟨by omega, by omega, r27.elim (fun q => q.2) (fun q => absurd q.1 (by omega)), rfl, rfl⟩))⟩⟩
    · skip
      refine K_bipush (pc := 22) (i := 12) rfl rfl ?_
      exact K_retI (pc := 24) (i := 13) rfl rfl ⟨fx, ⟨hI, Or.inr (Or.inl ⟨by omega, by omega, rfl, rfl⟩)⟩⟩
  · skip
    refine K_iconst (pc := 8) (i := 4) rfl ?_
    exact K_retI (pc := 9) (i := 5) rfl rfl ⟨fx, ⟨hI, Or.inl ⟨by omega, rfl, rfl⟩⟩⟩
