def UD (h ha : kH) (r n : Nat) : Prop := (∀ j, j < n → ha 187 j = h 191 (43 * r + j)) ∧ ha 191 = h 191 ∧ ha 200 = h 200 ∧ ha 184 12 = r
theorem UD.k {h ha : kH} {r n : Nat} {v : Int} (a : UD h ha r n) (hv : v = ha 191 (43 * r + n)) : UD h (kU ha 187 n v) r (n + 1) := by
  obtain ⟨a1, a2, a3, a4⟩ := a
  refine ⟨fun j hj => ?_, (kU_c _ _ _ _ (by decide)).trans a2, (kU_c _ _ _ _ (by decide)).trans a3, by rw [kU_at, if_neg (by omega)]; exact a4⟩
  rw [kU_at]
  by_cases e : j = n
  · rw [if_pos ⟨rfl, e⟩, hv, e, a2]
  · rw [if_neg (by omega)]; exact a1 j (by omega)
theorem UD.ot {h ha : kH} {r c i : Nat} {v : Int} (a : UD h ha r 40) (hc : c ≠ 187 ∧ c ≠ 191 ∧ c ≠ 200 ∧ ¬ (c = 184 ∧ i = 12)) : UD h (kU ha c i v) r 40 := by
  obtain ⟨a1, a2, a3, a4⟩ := a
  refine ⟨fun j hj => ?_, (kU_c _ _ _ _ (by omega)).trans a2, (kU_c _ _ _ _ (by omega)).trans a3, by rw [kU_at, if_neg (by omega)]; exact a4⟩
  rw [kU_c _ _ _ _ (by omega)]; exact a1 j hj
theorem UD.ok {g : kGh} {h ha : kH} {r : Nat} (hI : Gd g h) (a : UD h ha r 40) (hr : r < 16) (em : ha 184 4 = h 191 (43 * r + 40)) (b : MOk h) : MOk ha := by
  obtain ⟨a1, a2, a3, a4⟩ := a
  unfold MOk
  rw [a2, a3, em]
  exact ⟨FK.congr ((rd_row hI (43 * r + 40)).2 (by omega)).2 a1 (b.2.1 r hr), b.2.1, b.2.2⟩
/-- a slot takes the fleet -/
def KE (h ha : kH) (s n : Nat) : Prop := (∀ j, j < n → ha 200 (53 * s + j) = h 187 j) ∧ (∀ i, i < 53 * s ∨ 53 * s + 53 ≤ i → ha 200 i = h 200 i) ∧ ∀ c, c ≠ 200 → c ≠ 199 → ha c = h c
theorem KE.k {h ha : kH} {s n i : Nat} {v : Int} (a : KE h ha s n) (hn : n < 40) (hi : i = 53 * s + n) (hv : v = ha 187 n) : KE h (kU ha 200 i v) s (n + 1) := by
  subst hi
  refine ⟨fun j hj => ?_, fun i hi => ?_, fun c hc hd => (kU_c _ _ _ _ hc).trans (a.2.2 c hc hd)⟩
  · rw [kU_at]
    by_cases e : j = n
    · rw [if_pos ⟨rfl, by omega⟩, e, hv, a.2.2 187 (by decide) (by decide)]
    · rw [if_neg (by omega)]; exact a.1 j (by omega)
  · rw [kU_at, if_neg (by omega)]; exact a.2.1 i hi
theorem KE.ot {h ha : kH} {s i : Nat} {v : Int} (a : KE h ha s 40) (hi : 53 * s + 40 ≤ i ∧ i < 53 * s + 53) : KE h (kU ha 200 i v) s 40 := by
  refine ⟨fun j hj => ?_, fun q hq => ?_, fun c hc hd => (kU_c _ _ _ _ hc).trans (a.2.2 c hc hd)⟩
  · rw [kU_at, if_neg (by omega)]; exact a.1 j hj
  · rw [kU_at, if_neg (by omega)]; exact a.2.1 q hq
theorem KE.ok {g : kGh} {h ha : kH} {s : Nat} (hI : Gd g h) (a : KE h ha s 40) (hm : ha 200 (53 * s + 50) = h 184 4) (b : MOk h) : MOk ha := by
  unfold MOk
  rw [a.2.2 187 (by decide) (by decide), a.2.2 191 (by decide) (by decide), a.2.2 184 (by decide) (by decide)]
  refine ⟨b.1, b.2.1, fun q hq => ?_⟩
  by_cases hqr : q = s
  · subst hqr
    rw [hm]
    exact FK.congr (rd_many hI).2 (fun j hj => a.1 j hj) b.1
  · have e5 : ha 200 (53 * q + 50) = h 200 (53 * q + 50) := a.2.1 _ (by omega)
    rw [e5]
    have hb := (rd_kept hI (53 * q + 50)).2.1 (by omega)
    exact FK.congr hb.2 (fun j hj => a.2.1 _ (by omega)) (b.2.2 q hq)
def AG (h ha : kH) (s n : Nat) : Prop := (∀ j, j < n → ha 187 j = h 200 (53 * s + j)) ∧ ha 191 = h 191 ∧ ha 200 = h 200
theorem AG.k {h ha : kH} {s n : Nat} {v : Int} (a : AG h ha s n) (hv : v = ha 200 (53 * s + n)) : AG h (kU ha 187 n v) s (n + 1) := by
  obtain ⟨a1, a2, a3⟩ := a
  refine ⟨fun j hj => ?_, (kU_c _ _ _ _ (by decide)).trans a2, (kU_c _ _ _ _ (by decide)).trans a3⟩
  rw [kU_at]
  by_cases e : j = n
  · rw [if_pos ⟨rfl, e⟩, hv, e, a3]
  · rw [if_neg (by omega)]; exact a1 j (by omega)
theorem AG.ot {h ha : kH} {s c i : Nat} {v : Int} (a : AG h ha s 40) (hc : c ≠ 187 ∧ c ≠ 191 ∧ c ≠ 200) : AG h (kU ha c i v) s 40 := by
  obtain ⟨a1, a2, a3⟩ := a
  refine ⟨fun j hj => ?_, (kU_c _ _ _ _ (by omega)).trans a2, (kU_c _ _ _ _ (by omega)).trans a3⟩
  rw [kU_c _ _ _ _ (by omega)]; exact a1 j hj
theorem AG.ok {g : kGh} {h ha : kH} {s : Nat} (hI : Gd g h) (a : AG h ha s 40) (hs : s < 2) (em : ha 184 4 = h 200 (53 * s + 50)) (b : MOk h) : MOk ha := by
  obtain ⟨a1, a2, a3⟩ := a
  unfold MOk
  rw [a2, a3, em]
  exact ⟨FK.congr ((rd_kept hI (53 * s + 50)).2.1 (by omega)).2 a1 (b.2.2 s hs), b.2.1, b.2.2⟩
set_option maxHeartbeats 4000000 in
set_option maxRecDepth 100000 in
theorem c_Model_undo (G : kG) {g : kGh} {h : kH}  (hI : Gd g h) : Ctr G y_Model_undo X_Model_undo 13 [.ref (G.2.2.2 184)] h (kQi (fun z h' => Fx (fun c i => c = 187 ∨ c = 189 ∨ (c = 184 ∧ (i = 4 ∨ i = 11 ∨ i = 12))) h h' ∧ (Gd g h' ∧ CMundo h h' z))) := by
  refine Ctr.ofK (by decide) rfl T_Model_undo (Nat.le_of_ble_eq_true rfl) (lo := [(0, .ref (G.2.2.2 184))]) rfl ?_
  have fx : Fx (fun c i => c = 187 ∨ c = 189 ∨ (c = 184 ∧ (i = 4 ∨ i = 11 ∨ i = 12))) h h := Fx.rf
  refine K_aload_n (pc := 0) (i := 0) rfl rfl ?_
  refine K_getI (pc := 1) (i := 1) (j := 11) rfl S_184 rfl (by decide) rfl fw_Model_99 ?_
  refine K_nm (fun v1 e1 => ?_)
  have r1 := rd_macts hI
  rw [← e1] at r1
  first | refine K_if_ne 10 (pc := 4) (i := 2) rfl rfl (by omega) (fun b4 => ?_) (fun b4 => ?_) | refine K_if_ne_an 10 (pc := 4) (i := 2) rfl rfl (fun b4 => ?_) (fun b4 => ?_)
  · skip
    have hG := hI
    have hI := hI.nf
    refine K_aload_n (pc := 10) (i := 5) rfl rfl ?_
    refine K_dup (pc := 11) (i := 6) rfl rfl ?_
    refine K_getI (pc := 12) (i := 7) (j := 11) rfl S_184 rfl (by decide) rfl fw_Model_99 ?_
    refine K_nm (fun v12 e12 => ?_)
    have r12 := rd_macts hI
    rw [← e12] at r12
    have t12 : v12 = v1 := by rw [e12, e1]; try simp [kU]
    refine K_iconst (pc := 15) (i := 8) rfl ?_
    refine K_isub (pc := 16) (i := 9) rfl ?_
    refine K_putI (pc := 17) (i := 10) (j := 11) rfl S_184 rfl (by decide) rfl rfl rfl fw_Model_99 ?_
    have hI := st_macts hI (v := v12 - 1) (by omega)
    have fx := Fx.st (c := 184) (i := 11) (v := v12 - 1) fx (by first | (dsimp only; omega) | omega | exact not_false)
    refine K_aload_n (pc := 20) (i := 11) rfl rfl ?_
    refine K_aload_n (pc := 21) (i := 12) rfl rfl ?_
    refine K_getI (pc := 22) (i := 13) (j := 12) rfl S_184 rfl (by decide) rfl fw_Model_116 ?_
    refine K_nm (fun v22 e22 => ?_)
    have r22 := rd_mnext hI
    rw [← e22] at r22
    have t22 : v22 = h 184 12 := by rw [e22, kU_at, if_neg (by omega)]
    refine K_bipush (pc := 25) (i := 14) rfl rfl ?_
    refine K_iadd (pc := 27) (i := 15) rfl ?_
    refine K_bipush (pc := 28) (i := 16) rfl rfl ?_
    refine K_irem (pc := 30) (i := 17) rfl (by omega) (by omega) ?_
    refine K_eq (kRem_eq (by omega) (by omega) (by omega) (by omega)) ?_
    refine K_putI (pc := 31) (i := 18) (j := 12) rfl S_184 rfl (by decide) rfl rfl rfl fw_Model_116 ?_
    have hI := st_mnext hI (v := (v22 + 15) % 16) (by omega)
    have fx := Fx.st (c := 184) (i := 12) (v := (v22 + 15) % 16) fx (by first | (dsimp only; omega) | omega | exact not_false)
    obtain ⟨r, er⟩ : ∃ r : Nat, (v22 + 15) % 16 = r := Int.eq_ofNat_of_zero_le (by omega)
    have ud0 : UD h (kU (kU h 184 11 (v12 - 1)) 184 12 ((v22 + 15) % 16)) r 0 := ⟨fun j hj => absurd hj (by omega), by simp only [kU_c _ _ _ _ (show (191 : Nat) ≠ 184 by decide)], by simp only [kU_c _ _ _ _ (show (200 : Nat) ≠ 184 by decide)], by rw [kU_at, if_pos ⟨rfl, rfl⟩]; exact er⟩
    have er2 : ((h 184 12 + 15) % 16).toNat = r := by rw [← t22, er]; omega
    have ac31 : (kU (kU h 184 11 (v12 - 1)) 184 12 ((v22 + 15) % 16)) 184 11 = h 184 11 - 1 := by rw [kU_at, if_neg (by omega), kU_at, if_pos ⟨rfl, rfl⟩]; omega
    refine K_iconst (pc := 34) (i := 19) rfl ?_
    refine K_ist_n (pc := 35) (i := 20) (lo' := [(0, _), (1, _)]) rfl rfl rfl rfl ?_
    have L36 : ∀ (n : Nat) (x1 : Int) (ha : kH), (40 - x1).toNat < n → (Gd (kNf g) ha) → (Fx (fun c i => c = 187 ∨ c = 189 ∨ (c = 184 ∧ (i = 4 ∨ i = 11 ∨ i = 12))) h ha) → ((0 ≤ x1 ∧ x1 ≤ 40) ∧ UD h ha r x1.toNat ∧ ha 184 11 = h 184 11 - 1) → K X_Model_undo G (kZm G 13 (kQi (fun z h' => Fx (fun c i => c = 187 ∨ c = 189 ∨ (c = 184 ∧ (i = 4 ∨ i = 11 ∨ i = 12))) h h' ∧ (Gd g h' ∧ CMundo h h' z)))) 36 [(0, .ref (G.2.2.2 184)), (1, kI x1)] [] ha := by
      intro n
      induction n with
      | zero => intro x1 ha hm; exact absurd hm (Nat.not_lt_zero _)
      | succ n ih36 =>
        intro x1 ha hm36 hI fx hV36
        refine K_iload_n (pc := 36) (i := 21) rfl rfl ?_
        refine K_bipush (pc := 37) (i := 22) rfl rfl ?_
        first | refine K_icmp_ge 68 (pc := 39) (i := 23) rfl rfl (by omega) (by omega) (fun b39 => ?_) (fun b39 => ?_) | refine K_icmp_ge_an 68 (pc := 39) (i := 23) rfl rfl (fun b39 => ?_) (fun b39 => ?_)
        · skip
          have ud : UD h ha r 40 := by have := hV36.2.1; rwa [show x1.toNat = 40 by omega] at this
          have ac := hV36.2.2
          refine K_aload_n (pc := 68) (i := 39) rfl rfl ?_
          refine K_aload_n (pc := 69) (i := 40) rfl rfl ?_
          refine K_getR (pc := 70) (i := 41) (j := 13) (d := 191) rfl S_184 rfl (by decide) rfl fw_Model_28 ?_
          refine K_bipush (pc := 73) (i := 42) rfl rfl ?_
          refine K_aload_n (pc := 75) (i := 43) rfl rfl ?_
          refine K_getI (pc := 76) (i := 44) (j := 12) rfl S_184 rfl (by decide) rfl fw_Model_116 ?_
          refine K_nm (fun v76 e76 => ?_)
          have r76 := rd_mnext hI
          rw [← e76] at r76
          have t76 : v76 = r := by rw [e76]; exact ud.2.2.2
          refine K_imul (pc := 79) (i := 45) rfl ?_
          refine K_bipush (pc := 80) (i := 46) rfl rfl ?_
          refine K_iadd (pc := 82) (i := 47) rfl ?_
          refine K_iald (pc := 83) (i := 48) rfl S_191 (by omega) (by omega) (by decide) ?_
          refine K_nm (fun v83 e83 => ?_)
          have r83 := (rd_row hI ((43 * v76) + 40).toNat).2 (by omega)
          rw [← e83] at r83
          refine K_putI (pc := 84) (i := 49) (j := 4) rfl S_184 rfl (by decide) rfl rfl rfl fw_Model_59 ?_
          have hI := st_many hI (v := v83) (by omega) (fun e _ => False.elim e)
          have fx := Fx.st (c := 184) (i := 4) (v := v83) fx (by first | (dsimp only; omega) | omega | exact not_false)
          have t83 : v83 = h 191 (43 * r + 40) := by rw [e83, ud.2.1]; congr 1; omega
          have ud := UD.ot (c := 184) (i := 4) (v := v83) ud (by omega)
          have m84 : (kU ha 184 4 v83) 184 4 = h 191 (43 * r + 40) := by rw [kU_at, if_pos ⟨rfl, rfl⟩]; exact t83
          have ac84 : (kU ha 184 4 v83) 184 11 = h 184 11 - 1 := by rw [kU_at, if_neg (by omega)]; exact ac
          refine K_aload_n (pc := 87) (i := 50) rfl rfl ?_
          refine K_getR (pc := 88) (i := 51) (j := 6) (d := 189) rfl S_184 rfl (by decide) rfl fw_Model_22 ?_
          refine K_iconst (pc := 91) (i := 52) rfl ?_
          refine K_aload_n (pc := 92) (i := 53) rfl rfl ?_
          refine K_getR (pc := 93) (i := 54) (j := 13) (d := 191) rfl S_184 rfl (by decide) rfl fw_Model_28 ?_
          refine K_bipush (pc := 96) (i := 55) rfl rfl ?_
          refine K_aload_n (pc := 98) (i := 56) rfl rfl ?_
          refine K_getI (pc := 99) (i := 57) (j := 12) rfl S_184 rfl (by decide) rfl fw_Model_116 ?_
          refine K_nm (fun v99 e99 => ?_)
          have r99 := rd_mnext hI
          rw [← e99] at r99
          have t99 : v99 = r := by rw [e99]; exact ud.2.2.2
          refine K_imul (pc := 102) (i := 58) rfl ?_
          refine K_bipush (pc := 103) (i := 59) rfl rfl ?_
          refine K_iadd (pc := 105) (i := 60) rfl ?_
          refine K_iald (pc := 106) (i := 61) rfl S_191 (by omega) (by omega) (by decide) ?_
          refine K_nm (fun v106 e106 => ?_)
          have t106 : v106 = h 191 (43 * r + 41) := by rw [e106, ud.2.1]; congr 1; omega
          refine K_iast (pc := 107) (i := 62) rfl S_189 (by omega) (by omega) (by decide) ?_
          have hI := st_free (c := 189) hI (by decide +kernel) (by decide) (i := (0 : Int).toNat) (v := v106)
          have fx := Fx.st (c := 189) (i := (0 : Int).toNat) (v := v106) fx (by first | (dsimp only; omega) | omega | exact not_false)
          have ud := UD.ot (c := 189) (i := (0 : Int).toNat) (v := v106) ud (by omega)
          have m107 : (kU (kU ha 184 4 v83) 189 ((0 : Int).toNat) v106) 184 4 = h 191 (43 * r + 40) := by rw [kU_at, if_neg (by omega)]; exact m84
          refine K_aload_n (pc := 108) (i := 63) rfl rfl ?_
          refine K_getR (pc := 109) (i := 64) (j := 6) (d := 189) rfl S_184 rfl (by decide) rfl fw_Model_22 ?_
          refine K_iconst (pc := 112) (i := 65) rfl ?_
          refine K_aload_n (pc := 113) (i := 66) rfl rfl ?_
          refine K_getR (pc := 114) (i := 67) (j := 13) (d := 191) rfl S_184 rfl (by decide) rfl fw_Model_28 ?_
          refine K_bipush (pc := 117) (i := 68) rfl rfl ?_
          refine K_aload_n (pc := 119) (i := 69) rfl rfl ?_
          refine K_getI (pc := 120) (i := 70) (j := 12) rfl S_184 rfl (by decide) rfl fw_Model_116 ?_
          refine K_nm (fun v120 e120 => ?_)
          have r120 := rd_mnext hI
          rw [← e120] at r120
          have t120 : v120 = r := by rw [e120]; exact ud.2.2.2
          refine K_imul (pc := 123) (i := 71) rfl ?_
          refine K_bipush (pc := 124) (i := 72) rfl rfl ?_
          refine K_iadd (pc := 126) (i := 73) rfl ?_
          refine K_iald (pc := 127) (i := 74) rfl S_191 (by omega) (by omega) (by decide) ?_
          refine K_nm (fun v127 e127 => ?_)
          have t127 : v127 = h 191 (43 * r + 42) := by rw [e127, ud.2.1]; congr 1; omega
          refine K_iast (pc := 128) (i := 75) rfl S_189 (by omega) (by omega) (by decide) ?_
          have hI := st_free (c := 189) hI (by decide +kernel) (by decide) (i := (1 : Int).toNat) (v := v127)
          have fx := Fx.st (c := 189) (i := (1 : Int).toNat) (v := v127) fx (by first | (dsimp only; omega) | omega | exact not_false)
          have ud := UD.ot (c := 189) (i := (1 : Int).toNat) (v := v127) ud (by omega)
          have m128 : (kU (kU (kU ha 184 4 v83) 189 ((0 : Int).toNat) v106) 189 ((1 : Int).toNat) v127) 184 4 = h 191 (43 * r + 40) := by rw [kU_at, if_neg (by omega)]; exact m107
          have ac128 : (kU (kU (kU ha 184 4 v83) 189 ((0 : Int).toNat) v106) 189 ((1 : Int).toNat) v127) 184 11 = h 184 11 - 1 := by rw [kU_c _ _ _ _ (by decide), kU_c _ _ _ _ (by decide)]; exact ac84
          refine K_aload_n (pc := 129) (i := 76) rfl rfl ?_
          refine K_getI (pc := 130) (i := 77) (j := 11) rfl S_184 rfl (by decide) rfl fw_Model_99 ?_
          refine K_nm (fun v130 e130 => ?_)
          have r130 := rd_macts hI
          rw [← e130] at r130
          exact K_retI (pc := 133) (i := 78) rfl rfl ⟨fx, ⟨Gd.fn hI (fun e => UD.ok hG ud (by omega) m128 (hG.2.2.2.2.2 e)), Or.inr ⟨by omega, by rw [e130]; exact ac128, by rw [ud.2.2.2, ← t22, er], ac128, by rw [er2]; exact ud.1, by rw [er2]; exact m128, by rw [er2, kU_at, if_neg (by simp), kU_at, if_pos (by simp)]; exact t106, by rw [er2, kU_at, if_pos (by simp)]; exact t127⟩⟩⟩
        · skip
          refine K_aload_n (pc := 42) (i := 24) rfl rfl ?_
          refine K_getR (pc := 43) (i := 25) (j := 3) (d := 187) rfl S_184 rfl (by decide) rfl fw_Model_16 ?_
          refine K_iload_n (pc := 46) (i := 26) rfl rfl ?_
          refine K_aload_n (pc := 47) (i := 27) rfl rfl ?_
          refine K_getR (pc := 48) (i := 28) (j := 13) (d := 191) rfl S_184 rfl (by decide) rfl fw_Model_28 ?_
          refine K_bipush (pc := 51) (i := 29) rfl rfl ?_
          refine K_aload_n (pc := 53) (i := 30) rfl rfl ?_
          refine K_getI (pc := 54) (i := 31) (j := 12) rfl S_184 rfl (by decide) rfl fw_Model_116 ?_
          refine K_nm (fun v54 e54 => ?_)
          have r54 := rd_mnext hI
          rw [← e54] at r54
          have t54 : v54 = r := by rw [e54]; exact hV36.2.1.2.2.2
          refine K_imul (pc := 57) (i := 32) rfl ?_
          refine K_iload_n (pc := 58) (i := 33) rfl rfl ?_
          refine K_iadd (pc := 59) (i := 34) rfl ?_
          refine K_iald (pc := 60) (i := 35) rfl S_191 (by omega) (by omega) (by decide) ?_
          refine K_nm (fun v60 e60 => ?_)
          have r60 := rd_row hI ((43 * v54) + x1).toNat
          rw [← e60] at r60
          refine K_iast (pc := 61) (i := 36) rfl S_187 (by omega) (by omega) (by decide) ?_
          have hI := st_mkites hI (i := (x1).toNat) (v := v60) (bK_ofR (r := (v54).toNat) r60 (by omega) (by omega)) (fun e _ => False.elim e)
          have fx := Fx.st (c := 187) (i := (x1).toNat) (v := v60) fx (by first | (dsimp only; omega) | omega | exact not_false)
          have ud61 := UD.k (n := (x1).toNat) (v := v60) hV36.2.1 (by rw [e60]; congr 1; omega)
          refine K_inc (pc := 62) (i := 37) (q := 1) (lo' := [(0, _), (1, _)]) rfl rfl rfl rfl rfl ?_
          refine K_goto 36 (pc := 65) (i := 38) rfl rfl ?_
          exact ih36 (x1 + 1) _ (by omega) hI fx ⟨by omega, by have := ud61; rwa [show x1.toNat + 1 = (x1 + 1).toNat by omega] at this, by rw [kU_c _ _ _ _ (show (184 : Nat) ≠ 187 by decide)]; exact hV36.2.2⟩
    exact L36 _ 0 _ (Nat.lt_succ_self _) hI fx ⟨by omega, ud0, ac31⟩
  · skip
    refine K_bipush (pc := 7) (i := 3) rfl rfl ?_
    exact K_retI (pc := 9) (i := 4) rfl rfl ⟨fx, ⟨hI, Or.inl ⟨by omega, rfl, rfl⟩⟩⟩
set_option maxHeartbeats 4000000 in
set_option maxRecDepth 100000 in
theorem c_Model_keep (G : kG) {g : kGh} {h : kH} {x1 : Int} (s1 : kR x1) (hI : Gd g h) : Ctr G y_Model_keep X_Model_keep 13 [.ref (G.2.2.2 184), kI x1] h (kQi (fun z h' => Fx (fun c i => c = 199 ∨ c = 200) h h' ∧ (Gd g h' ∧ CMkeep h h' x1 z))) := by
  refine Ctr.ofK (by decide) rfl T_Model_keep (Nat.le_of_ble_eq_true rfl) (lo := [(0, .ref (G.2.2.2 184)), (1, kI x1)]) rfl ?_
  have fx : Fx (fun c i => c = 199 ∨ c = 200) h h := Fx.rf
  refine K_iload_n (pc := 0) (i := 0) rfl rfl ?_
  refine K_i2l (pc := 1) (i := 1) rfl ?_
  refine K_eqJ (kI2l_eq (a := x1) (by omega)) ?_
  refine K_lconst 0 (pc := 2) (i := 2) rfl rfl ?_
  refine K_lconst 1 (pc := 3) (i := 3) rfl rfl ?_
  refine K_cSI (pc := 4) (i := 4) rfl (c_Model_in G (l0 := x1) (l2 := 0) (l4 := 1) (s0 := by omega) (s2 := by omega) (s4 := by omega)) (ls_Model_65 rfl) rfl rfl rfl rfl (fun v4 h4 q4 => ?_)
  obtain ⟨eh, r4⟩ := q4
  rw [eh]; clear eh
  first | refine K_if_ne 12 (pc := 7) (i := 5) rfl rfl (by omega) (fun b7 => ?_) (fun b7 => ?_) | refine K_if_ne_an 12 (pc := 7) (i := 5) rfl rfl (fun b7 => ?_) (fun b7 => ?_)
  · skip
    have hG := hI
    have hI := hI.nf
    refine K_aload_n (pc := 12) (i := 8) rfl rfl ?_
    refine K_getR (pc := 13) (i := 9) (j := 24) (d := 199) rfl S_184 rfl (by decide) rfl fw_Model_53 ?_
    refine K_iload_n (pc := 16) (i := 10) rfl rfl ?_
    refine K_iconst (pc := 17) (i := 11) rfl ?_
    refine K_bast (pc := 18) (i := 12) rfl S_199 (by omega) (by omega) (by decide) (by omega) ?_
    have hI := st_isKept hI (i := (x1).toNat) (v := 1) (by omega)
    have fx := Fx.st (c := 199) (i := (x1).toNat) (v := 1) fx (by first | (dsimp only; omega) | omega | exact not_false)
    have ke0 : KE h (kU h 199 ((x1).toNat) 1) x1.toNat 0 := ⟨fun j hj => absurd hj (by omega), fun i _ => by rw [kU_c _ _ _ _ (show (200 : Nat) ≠ 199 by decide)], fun c _ q => kU_c _ _ _ _ q⟩
    have ik18 : ∀ j, (kU h 199 ((x1).toNat) 1) 199 j = if j = x1.toNat then 1 else h 199 j := fun j => kU_s _ _ _ _ j
    refine K_iconst (pc := 19) (i := 13) rfl ?_
    refine K_ist_n (pc := 20) (i := 14) (lo' := [(0, _), (1, _), (2, _)]) rfl rfl rfl rfl ?_
    have L21 : ∀ (n : Nat) (x2 : Int) (ha : kH), (40 - x2).toNat < n → (Gd (kNf g) ha) → (Fx (fun c i => c = 199 ∨ c = 200) h ha) → ((0 ≤ x2 ∧ x2 ≤ 40) ∧ KE h ha x1.toNat x2.toNat ∧ ∀ j, ha 199 j = if j = x1.toNat then 1 else h 199 j) → K X_Model_keep G (kZm G 13 (kQi (fun z h' => Fx (fun c i => c = 199 ∨ c = 200) h h' ∧ (Gd g h' ∧ CMkeep h h' x1 z)))) 21 [(0, .ref (G.2.2.2 184)), (1, kI x1), (2, kI x2)] [] ha := by
      intro n
      induction n with
      | zero => intro x2 ha hm; exact absurd hm (Nat.not_lt_zero _)
      | succ n ih21 =>
        intro x2 ha hm21 hI fx hV21
        refine K_iload_n (pc := 21) (i := 15) rfl rfl ?_
        refine K_bipush (pc := 22) (i := 16) rfl rfl ?_
        first | refine K_icmp_ge 50 (pc := 24) (i := 17) rfl rfl (by omega) (by omega) (fun b24 => ?_) (fun b24 => ?_) | refine K_icmp_ge_an 50 (pc := 24) (i := 17) rfl rfl (fun b24 => ?_) (fun b24 => ?_)
        · skip
          have ke40 : KE h ha x1.toNat 40 := by have := hV21.2.1; rwa [show x2.toNat = 40 by omega] at this
          refine K_iconst (pc := 50) (i := 32) rfl ?_
          refine K_ist_n (pc := 51) (i := 33) (lo' := [(0, _), (1, _), (2, _)]) rfl rfl rfl rfl ?_
          have L52 : ∀ (n : Nat) (x2b : Int) (hb : kH), (10 - x2b).toNat < n → (Gd (kNf g) hb) → (Fx (fun c i => c = 199 ∨ c = 200) h hb) → ((0 ≤ x2b ∧ x2b ≤ 10) ∧ KE h hb x1.toNat 40 ∧ (∀ i : Nat, (i : Int) < x2b → hb 200 (53 * x1.toNat + 40 + i) = h 188 i) ∧ ∀ j, hb 199 j = if j = x1.toNat then 1 else h 199 j) → K X_Model_keep G (kZm G 13 (kQi (fun z h' => Fx (fun c i => c = 199 ∨ c = 200) h h' ∧ (Gd g h' ∧ CMkeep h h' x1 z)))) 52 [(0, .ref (G.2.2.2 184)), (1, kI x1), (2, kI x2b)] [] hb := by
            intro n
            induction n with
            | zero => intro x2b hb hm; exact absurd hm (Nat.not_lt_zero _)
            | succ n ih52 =>
              intro x2b hb hm52 hI fx hV52
              refine K_iload_n (pc := 52) (i := 34) rfl rfl ?_
              refine K_bipush (pc := 53) (i := 35) rfl rfl ?_
              first | refine K_icmp_ge 84 (pc := 55) (i := 36) rfl rfl (by omega) (by omega) (fun b55 => ?_) (fun b55 => ?_) | refine K_icmp_ge_an 84 (pc := 55) (i := 36) rfl rfl (fun b55 => ?_) (fun b55 => ?_)
              · skip
                have ke := hV52.2.1
                have wk := hV52.2.2.1
                have ik := hV52.2.2.2
                refine K_aload_n (pc := 84) (i := 53) rfl rfl ?_
                refine K_getR (pc := 85) (i := 54) (j := 25) (d := 200) rfl S_184 rfl (by decide) rfl fw_Model_56 ?_
                refine K_bipush (pc := 88) (i := 55) rfl rfl ?_
                refine K_iload_n (pc := 90) (i := 56) rfl rfl ?_
                refine K_imul (pc := 91) (i := 57) rfl ?_
                refine K_bipush (pc := 92) (i := 58) rfl rfl ?_
                refine K_iadd (pc := 94) (i := 59) rfl ?_
                refine K_aload_n (pc := 95) (i := 60) rfl rfl ?_
                refine K_getI (pc := 96) (i := 61) (j := 4) rfl S_184 rfl (by decide) rfl fw_Model_59 ?_
                refine K_nm (fun v96 e96 => ?_)
                have r96 := rd_many hI
                rw [← e96] at r96
                refine K_iast (pc := 99) (i := 62) rfl S_200 (by omega) (by omega) (by decide) ?_
                have hI := st_kept hI (i := ((53 * x1) + 50).toNat) (v := v96) (by unfold bP; omega) (fun e _ => False.elim e)
                have fx := Fx.st (c := 200) (i := ((53 * x1) + 50).toNat) (v := v96) fx (by first | (dsimp only; omega) | omega | exact not_false)
                have t96 : v96 = h 184 4 := by rw [e96, ke.2.2 184 (by decide) (by decide)]
                have ke := KE.ot (i := ((53 * x1) + 50).toNat) (v := v96) ke (by omega)
                have m99 : (kU hb 200 (((53 * x1) + 50).toNat) v96) 200 (53 * x1.toNat + 50) = h 184 4 := by rw [kU_at, if_pos ⟨rfl, by omega⟩]; exact t96
                have wk99 : ∀ i : Nat, i < 10 → (kU hb 200 (((53 * x1) + 50).toNat) v96) 200 (53 * x1.toNat + 40 + i) = h 188 i := fun i hi => by rw [kU_at, if_neg (by omega)]; exact wk i (by omega)
                refine K_aload_n (pc := 100) (i := 63) rfl rfl ?_
                refine K_getR (pc := 101) (i := 64) (j := 25) (d := 200) rfl S_184 rfl (by decide) rfl fw_Model_56 ?_
                refine K_bipush (pc := 104) (i := 65) rfl rfl ?_
                refine K_iload_n (pc := 106) (i := 66) rfl rfl ?_
                refine K_imul (pc := 107) (i := 67) rfl ?_
                refine K_bipush (pc := 108) (i := 68) rfl rfl ?_
                refine K_iadd (pc := 110) (i := 69) rfl ?_
                refine K_aload_n (pc := 111) (i := 70) rfl rfl ?_
                refine K_getR (pc := 112) (i := 71) (j := 6) (d := 189) rfl S_184 rfl (by decide) rfl fw_Model_22 ?_
                refine K_iconst (pc := 115) (i := 72) rfl ?_
                refine K_iald (pc := 116) (i := 73) rfl S_189 (by omega) (by omega) (by decide) ?_
                refine K_nm (fun v116 e116 => ?_)
                have t116 : v116 = h 189 0 := by rw [e116, ke.2.2 189 (by decide) (by decide)]; rfl
                refine K_iast (pc := 117) (i := 74) rfl S_200 (by omega) (by omega) (by decide) ?_
                have hI := st_kept hI (i := ((53 * x1) + 51).toNat) (v := v116) (by unfold bP; omega) (fun e _ => False.elim e)
                have fx := Fx.st (c := 200) (i := ((53 * x1) + 51).toNat) (v := v116) fx (by first | (dsimp only; omega) | omega | exact not_false)
                have ke := KE.ot (i := ((53 * x1) + 51).toNat) (v := v116) ke (by omega)
                have m117 : (kU (kU hb 200 (((53 * x1) + 50).toNat) v96) 200 (((53 * x1) + 51).toNat) v116) 200 (53 * x1.toNat + 50) = h 184 4 ∧ (kU (kU hb 200 (((53 * x1) + 50).toNat) v96) 200 (((53 * x1) + 51).toNat) v116) 200 (53 * x1.toNat + 51) = h 189 0 := ⟨by rw [kU_at, if_neg (by omega)]; exact m99, by rw [kU_at, if_pos ⟨rfl, by omega⟩]; exact t116⟩
                have wk117 : ∀ i : Nat, i < 10 → (kU (kU hb 200 (((53 * x1) + 50).toNat) v96) 200 (((53 * x1) + 51).toNat) v116) 200 (53 * x1.toNat + 40 + i) = h 188 i := fun i hi => by rw [kU_at, if_neg (by omega)]; exact wk99 i hi
                refine K_aload_n (pc := 118) (i := 75) rfl rfl ?_
                refine K_getR (pc := 119) (i := 76) (j := 25) (d := 200) rfl S_184 rfl (by decide) rfl fw_Model_56 ?_
                refine K_bipush (pc := 122) (i := 77) rfl rfl ?_
                refine K_iload_n (pc := 124) (i := 78) rfl rfl ?_
                refine K_imul (pc := 125) (i := 79) rfl ?_
                refine K_bipush (pc := 126) (i := 80) rfl rfl ?_
                refine K_iadd (pc := 128) (i := 81) rfl ?_
                refine K_aload_n (pc := 129) (i := 82) rfl rfl ?_
                refine K_getR (pc := 130) (i := 83) (j := 6) (d := 189) rfl S_184 rfl (by decide) rfl fw_Model_22 ?_
                refine K_iconst (pc := 133) (i := 84) rfl ?_
                refine K_iald (pc := 134) (i := 85) rfl S_189 (by omega) (by omega) (by decide) ?_
                refine K_nm (fun v134 e134 => ?_)
                have t134 : v134 = h 189 1 := by rw [e134, ke.2.2 189 (by decide) (by decide)]; rfl
                refine K_iast (pc := 135) (i := 86) rfl S_200 (by omega) (by omega) (by decide) ?_
                have hI := st_kept hI (i := ((53 * x1) + 52).toNat) (v := v134) (by unfold bP; omega) (fun e _ => False.elim e)
                have fx := Fx.st (c := 200) (i := ((53 * x1) + 52).toNat) (v := v134) fx (by first | (dsimp only; omega) | omega | exact not_false)
                have ke := KE.ot (i := ((53 * x1) + 52).toNat) (v := v134) ke (by omega)
                have m135 : (kU (kU (kU hb 200 (((53 * x1) + 50).toNat) v96) 200 (((53 * x1) + 51).toNat) v116) 200 (((53 * x1) + 52).toNat) v134) 200 (53 * x1.toNat + 50) = h 184 4 ∧ (kU (kU (kU hb 200 (((53 * x1) + 50).toNat) v96) 200 (((53 * x1) + 51).toNat) v116) 200 (((53 * x1) + 52).toNat) v134) 200 (53 * x1.toNat + 51) = h 189 0 ∧ (kU (kU (kU hb 200 (((53 * x1) + 50).toNat) v96) 200 (((53 * x1) + 51).toNat) v116) 200 (((53 * x1) + 52).toNat) v134) 200 (53 * x1.toNat + 52) = h 189 1 := ⟨by rw [kU_at, if_neg (by omega)]; exact m117.1, by rw [kU_at, if_neg (by omega)]; exact m117.2, by rw [kU_at, if_pos ⟨rfl, by omega⟩]; exact t134⟩
                have wk135 : ∀ i : Nat, i < 10 → (kU (kU (kU hb 200 (((53 * x1) + 50).toNat) v96) 200 (((53 * x1) + 51).toNat) v116) 200 (((53 * x1) + 52).toNat) v134) 200 (53 * x1.toNat + 40 + i) = h 188 i := fun i hi => by rw [kU_at, if_neg (by omega)]; exact wk117 i hi
                have ik135 : ∀ j, (kU (kU (kU hb 200 (((53 * x1) + 50).toNat) v96) 200 (((53 * x1) + 51).toNat) v116) 200 (((53 * x1) + 52).toNat) v134) 199 j = if j = x1.toNat then 1 else h 199 j := fun j => by rw [kU_c _ _ _ _ (by decide), kU_c _ _ _ _ (by decide), kU_c _ _ _ _ (by decide)]; exact ik j
                refine K_aload_n (pc := 136) (i := 87) rfl rfl ?_
                refine K_getI (pc := 137) (i := 88) (j := 4) rfl S_184 rfl (by decide) rfl fw_Model_59 ?_
                refine K_nm (fun v137 e137 => ?_)
                have r137 := rd_many hI
                rw [← e137] at r137
                exact K_retI (pc := 140) (i := 89) rfl rfl ⟨fx, ⟨Gd.fn hI (fun e => KE.ok hG ke m135.1 (hG.2.2.2.2.2 e)), Or.inr ⟨by omega, by rw [e137]; exact (congrFun (ke.2.2 184 (by decide) (by decide)) 4), ik135, ke.1, wk135, m135, ke.2.1⟩⟩⟩
              · skip
                refine K_aload_n (pc := 58) (i := 37) rfl rfl ?_
                refine K_getR (pc := 59) (i := 38) (j := 25) (d := 200) rfl S_184 rfl (by decide) rfl fw_Model_56 ?_
                refine K_bipush (pc := 62) (i := 39) rfl rfl ?_
                refine K_iload_n (pc := 64) (i := 40) rfl rfl ?_
                refine K_imul (pc := 65) (i := 41) rfl ?_
                refine K_bipush (pc := 66) (i := 42) rfl rfl ?_
                refine K_iadd (pc := 68) (i := 43) rfl ?_
                refine K_iload_n (pc := 69) (i := 44) rfl rfl ?_
                refine K_iadd (pc := 70) (i := 45) rfl ?_
                refine K_aload_n (pc := 71) (i := 46) rfl rfl ?_
                refine K_getR (pc := 72) (i := 47) (j := 5) (d := 188) rfl S_184 rfl (by decide) rfl fw_Model_19 ?_
                refine K_iload_n (pc := 75) (i := 48) rfl rfl ?_
                refine K_iald (pc := 76) (i := 49) rfl S_188 (by omega) (by omega) (by decide) ?_
                refine K_nm (fun v76 e76 => ?_)
                have r76 := rd_mwinds hI (x2b).toNat
                rw [← e76] at r76
                have t76 : v76 = h 188 x2b.toNat := by rw [e76, hV52.2.1.2.2 188 (by decide) (by decide)]
                refine K_iast (pc := 77) (i := 50) rfl S_200 (by omega) (by omega) (by decide) ?_
                have hI := st_kept hI (i := (((53 * x1) + 40) + x2b).toNat) (v := v76) (by unfold bP; omega) (fun e _ => False.elim e)
                have fx := Fx.st (c := 200) (i := (((53 * x1) + 40) + x2b).toNat) (v := v76) fx (by first | (dsimp only; omega) | omega | exact not_false)
                have ke77 := KE.ot (i := (((53 * x1) + 40) + x2b).toNat) (v := v76) hV52.2.1 (by omega)
                have wk77 : ∀ i : Nat, (i : Int) < x2b + 1 → (kU hb 200 ((((53 * x1) + 40) + x2b).toNat) v76) 200 (53 * x1.toNat + 40 + i) = h 188 i := fun i hi => by rw [kU_at]; by_cases q : i = x2b.toNat; (rw [if_pos ⟨rfl, by omega⟩, t76, q]); (rw [if_neg (by omega)]; exact hV52.2.2.1 i (by omega))
                refine K_inc (pc := 78) (i := 51) (q := 2) (lo' := [(0, _), (1, _), (2, _)]) rfl rfl rfl rfl rfl ?_
                refine K_goto 52 (pc := 81) (i := 52) rfl rfl ?_
                exact ih52 (x2b + 1) _ (by omega) hI fx ⟨by omega, ke77, wk77, fun j => by rw [kU_c _ _ _ _ (by decide)]; exact hV52.2.2.2 j⟩
          exact L52 _ 0 _ (Nat.lt_succ_self _) hI fx ⟨by omega, ke40, fun i hi => absurd hi (by omega), hV21.2.2⟩
        · skip
          refine K_aload_n (pc := 27) (i := 18) rfl rfl ?_
          refine K_getR (pc := 28) (i := 19) (j := 25) (d := 200) rfl S_184 rfl (by decide) rfl fw_Model_56 ?_
          refine K_bipush (pc := 31) (i := 20) rfl rfl ?_
          refine K_iload_n (pc := 33) (i := 21) rfl rfl ?_
          refine K_imul (pc := 34) (i := 22) rfl ?_
          refine K_iload_n (pc := 35) (i := 23) rfl rfl ?_
          refine K_iadd (pc := 36) (i := 24) rfl ?_
          refine K_aload_n (pc := 37) (i := 25) rfl rfl ?_
          refine K_getR (pc := 38) (i := 26) (j := 3) (d := 187) rfl S_184 rfl (by decide) rfl fw_Model_16 ?_
          refine K_iload_n (pc := 41) (i := 27) rfl rfl ?_
          refine K_iald (pc := 42) (i := 28) rfl S_187 (by omega) (by omega) (by decide) ?_
          refine K_nm (fun v42 e42 => ?_)
          have r42 := rd_mkites hI (x2).toNat
          rw [← e42] at r42
          refine K_iast (pc := 43) (i := 29) rfl S_200 (by omega) (by omega) (by decide) ?_
          have hI := st_kept hI (i := ((53 * x1) + x2).toNat) (v := v42) (bP_of (r := (x1).toNat) r42 (by omega) (by omega)) (fun e _ => False.elim e)
          have fx := Fx.st (c := 200) (i := ((53 * x1) + x2).toNat) (v := v42) fx (by first | (dsimp only; omega) | omega | exact not_false)
          have ke43 := KE.k (i := ((53 * x1) + x2).toNat) (v := v42) hV21.2.1 (by omega) (by omega) e42
          refine K_inc (pc := 44) (i := 30) (q := 2) (lo' := [(0, _), (1, _), (2, _)]) rfl rfl rfl rfl rfl ?_
          refine K_goto 21 (pc := 47) (i := 31) rfl rfl ?_
          exact ih21 (x2 + 1) _ (by omega) hI fx ⟨by omega, by have := ke43; rwa [show x2.toNat + 1 = (x2 + 1).toNat by omega] at this, fun j => by rw [kU_c _ _ _ _ (by decide)]; exact hV21.2.2 j⟩
    exact L21 _ 0 _ (Nat.lt_succ_self _) hI fx ⟨by omega, ke0, ik18⟩
  · skip
    refine K_iconst (pc := 10) (i := 6) rfl ?_
    exact K_retI (pc := 11) (i := 7) rfl rfl ⟨fx, ⟨hI, Or.inl ⟨by omega, rfl, rfl⟩⟩⟩
set_option maxHeartbeats 4000000 in
set_option maxRecDepth 100000 in
theorem c_Model_again (G : kG) {g : kGh} {h : kH} {x1 : Int} (s1 : kR x1) (hI : Gd g h) : Ctr G y_Model_again X_Model_again 13 [.ref (G.2.2.2 184), kI x1] h (kQi (fun z h' => Fx (fun c i => c = 187 ∨ c = 188 ∨ c = 189 ∨ (c = 184 ∧ (i = 4 ∨ i = 11))) h h' ∧ (Gd g h' ∧ CMagain h h' x1 z))) := by
  refine Ctr.ofK (by decide) rfl T_Model_again (Nat.le_of_ble_eq_true rfl) (lo := [(0, .ref (G.2.2.2 184)), (1, kI x1)]) rfl ?_
  have fx : Fx (fun c i => c = 187 ∨ c = 188 ∨ c = 189 ∨ (c = 184 ∧ (i = 4 ∨ i = 11))) h h := Fx.rf
  refine K_iload_n (pc := 0) (i := 0) rfl rfl ?_
  refine K_i2l (pc := 1) (i := 1) rfl ?_
  refine K_eqJ (kI2l_eq (a := x1) (by omega)) ?_
  refine K_lconst 0 (pc := 2) (i := 2) rfl rfl ?_
  refine K_lconst 1 (pc := 3) (i := 3) rfl rfl ?_
  refine K_cSI (pc := 4) (i := 4) rfl (c_Model_in G (l0 := x1) (l2 := 0) (l4 := 1) (s0 := by omega) (s2 := by omega) (s4 := by omega)) (ls_Model_65 rfl) rfl rfl rfl rfl (fun v4 h4 q4 => ?_)
  obtain ⟨eh, r4⟩ := q4
  rw [eh]; clear eh
  first | refine K_if_ne 12 (pc := 7) (i := 5) rfl rfl (by omega) (fun b7 => ?_) (fun b7 => ?_) | refine K_if_ne_an 12 (pc := 7) (i := 5) rfl rfl (fun b7 => ?_) (fun b7 => ?_)
  · skip
    refine K_aload_n (pc := 12) (i := 8) rfl rfl ?_
    refine K_getR (pc := 13) (i := 9) (j := 24) (d := 199) rfl S_184 rfl (by decide) rfl fw_Model_53 ?_
    refine K_iload_n (pc := 16) (i := 10) rfl rfl ?_
    refine K_bald (pc := 17) (i := 11) rfl S_199 (by omega) (by omega) (by decide) ?_
    refine K_nm (fun v17 e17 => ?_)
    have r17 := rd_isKept hI (x1).toNat
    rw [← e17] at r17
    first | refine K_if_ne 24 (pc := 18) (i := 12) rfl rfl (by omega) (fun b18 => ?_) (fun b18 => ?_) | refine K_if_ne_an 24 (pc := 18) (i := 12) rfl rfl (fun b18 => ?_) (fun b18 => ?_)
    · skip
      have hG := hI
      have hI := hI.nf
      refine K_iconst (pc := 24) (i := 15) rfl ?_
      refine K_ist_n (pc := 25) (i := 16) (lo' := [(0, _), (1, _), (2, _)]) rfl rfl rfl rfl ?_
      have L26 : ∀ (n : Nat) (x2 : Int) (ha : kH), (40 - x2).toNat < n → (Gd (kNf g) ha) → (Fx (fun c i => c = 187 ∨ c = 188 ∨ c = 189 ∨ (c = 184 ∧ (i = 4 ∨ i = 11))) h ha) → ((0 ≤ x2 ∧ x2 ≤ 40) ∧ AG h ha x1.toNat x2.toNat) → K X_Model_again G (kZm G 13 (kQi (fun z h' => Fx (fun c i => c = 187 ∨ c = 188 ∨ c = 189 ∨ (c = 184 ∧ (i = 4 ∨ i = 11))) h h' ∧ (Gd g h' ∧ CMagain h h' x1 z)))) 26 [(0, .ref (G.2.2.2 184)), (1, kI x1), (2, kI x2)] [] ha := by
        intro n
        induction n with
        | zero => intro x2 ha hm; exact absurd hm (Nat.not_lt_zero _)
        | succ n ih26 =>
          intro x2 ha hm26 hI fx hV26
          refine K_iload_n (pc := 26) (i := 17) rfl rfl ?_
          refine K_bipush (pc := 27) (i := 18) rfl rfl ?_
          first | refine K_icmp_ge 55 (pc := 29) (i := 19) rfl rfl (by omega) (by omega) (fun b29 => ?_) (fun b29 => ?_) | refine K_icmp_ge_an 55 (pc := 29) (i := 19) rfl rfl (fun b29 => ?_) (fun b29 => ?_)
          · skip
            have ag40 : AG h ha x1.toNat 40 := by have := hV26.2; rwa [show x2.toNat = 40 by omega] at this
            refine K_iconst (pc := 55) (i := 34) rfl ?_
            refine K_ist_n (pc := 56) (i := 35) (lo' := [(0, _), (1, _), (2, _)]) rfl rfl rfl rfl ?_
            have L57 : ∀ (n : Nat) (x2b : Int) (hb : kH), (10 - x2b).toNat < n → (Gd (kNf g) hb) → (Fx (fun c i => c = 187 ∨ c = 188 ∨ c = 189 ∨ (c = 184 ∧ (i = 4 ∨ i = 11))) h hb) → ((0 ≤ x2b ∧ x2b ≤ 10) ∧ AG h hb x1.toNat 40 ∧ (∀ i : Nat, (i : Int) < x2b → hb 188 i = h 200 (53 * x1.toNat + 40 + i))) → K X_Model_again G (kZm G 13 (kQi (fun z h' => Fx (fun c i => c = 187 ∨ c = 188 ∨ c = 189 ∨ (c = 184 ∧ (i = 4 ∨ i = 11))) h h' ∧ (Gd g h' ∧ CMagain h h' x1 z)))) 57 [(0, .ref (G.2.2.2 184)), (1, kI x1), (2, kI x2b)] [] hb := by
              intro n
              induction n with
              | zero => intro x2b hb hm; exact absurd hm (Nat.not_lt_zero _)
              | succ n ih57 =>
                intro x2b hb hm57 hI fx hV57
                refine K_iload_n (pc := 57) (i := 36) rfl rfl ?_
                refine K_bipush (pc := 58) (i := 37) rfl rfl ?_
                first | refine K_icmp_ge 89 (pc := 60) (i := 38) rfl rfl (by omega) (by omega) (fun b60 => ?_) (fun b60 => ?_) | refine K_icmp_ge_an 89 (pc := 60) (i := 38) rfl rfl (fun b60 => ?_) (fun b60 => ?_)
                · skip
                  have ag := hV57.2.1
                  have wa := hV57.2.2
                  refine K_aload_n (pc := 89) (i := 55) rfl rfl ?_
                  refine K_aload_n (pc := 90) (i := 56) rfl rfl ?_
                  refine K_getR (pc := 91) (i := 57) (j := 25) (d := 200) rfl S_184 rfl (by decide) rfl fw_Model_56 ?_
                  refine K_bipush (pc := 94) (i := 58) rfl rfl ?_
                  refine K_iload_n (pc := 96) (i := 59) rfl rfl ?_
                  refine K_imul (pc := 97) (i := 60) rfl ?_
                  refine K_bipush (pc := 98) (i := 61) rfl rfl ?_
                  refine K_iadd (pc := 100) (i := 62) rfl ?_
                  refine K_iald (pc := 101) (i := 63) rfl S_200 (by omega) (by omega) (by decide) ?_
                  refine K_nm (fun v101 e101 => ?_)
                  have r101 := (rd_kept hI ((53 * x1) + 50).toNat).2.1 (by omega)
                  rw [← e101] at r101
                  refine K_putI (pc := 102) (i := 64) (j := 4) rfl S_184 rfl (by decide) rfl rfl rfl fw_Model_59 ?_
                  have hI := st_many hI (v := v101) (by omega) (fun e _ => False.elim e)
                  have fx := Fx.st (c := 184) (i := 4) (v := v101) fx (by first | (dsimp only; omega) | omega | exact not_false)
                  have t101 : v101 = h 200 (53 * x1.toNat + 50) := by rw [e101, ag.2.2]; congr 1; omega
                  have ag := AG.ot (c := 184) (i := 4) (v := v101) ag (by omega)
                  have m102 : (kU hb 184 4 v101) 184 4 = h 200 (53 * x1.toNat + 50) := by rw [kU_at, if_pos ⟨rfl, rfl⟩]; exact t101
                  refine K_aload_n (pc := 105) (i := 65) rfl rfl ?_
                  refine K_getR (pc := 106) (i := 66) (j := 6) (d := 189) rfl S_184 rfl (by decide) rfl fw_Model_22 ?_
                  refine K_iconst (pc := 109) (i := 67) rfl ?_
                  refine K_aload_n (pc := 110) (i := 68) rfl rfl ?_
                  refine K_getR (pc := 111) (i := 69) (j := 25) (d := 200) rfl S_184 rfl (by decide) rfl fw_Model_56 ?_
                  refine K_bipush (pc := 114) (i := 70) rfl rfl ?_
                  refine K_iload_n (pc := 116) (i := 71) rfl rfl ?_
                  refine K_imul (pc := 117) (i := 72) rfl ?_
                  refine K_bipush (pc := 118) (i := 73) rfl rfl ?_
                  refine K_iadd (pc := 120) (i := 74) rfl ?_
                  refine K_iald (pc := 121) (i := 75) rfl S_200 (by omega) (by omega) (by decide) ?_
                  refine K_nm (fun v121 e121 => ?_)
                  have t121 : v121 = h 200 (53 * x1.toNat + 51) := by rw [e121, ag.2.2]; congr 1; omega
                  refine K_iast (pc := 122) (i := 76) rfl S_189 (by omega) (by omega) (by decide) ?_
                  have hI := st_free (c := 189) hI (by decide +kernel) (by decide) (i := (0 : Int).toNat) (v := v121)
                  have fx := Fx.st (c := 189) (i := (0 : Int).toNat) (v := v121) fx (by first | (dsimp only; omega) | omega | exact not_false)
                  have ag := AG.ot (c := 189) (i := (0 : Int).toNat) (v := v121) ag (by omega)
                  have m122 : (kU (kU hb 184 4 v101) 189 ((0 : Int).toNat) v121) 184 4 = h 200 (53 * x1.toNat + 50) := by rw [kU_at, if_neg (by omega)]; exact m102
                  refine K_aload_n (pc := 123) (i := 77) rfl rfl ?_
                  refine K_getR (pc := 124) (i := 78) (j := 6) (d := 189) rfl S_184 rfl (by decide) rfl fw_Model_22 ?_
                  refine K_iconst (pc := 127) (i := 79) rfl ?_
                  refine K_aload_n (pc := 128) (i := 80) rfl rfl ?_
                  refine K_getR (pc := 129) (i := 81) (j := 25) (d := 200) rfl S_184 rfl (by decide) rfl fw_Model_56 ?_
                  refine K_bipush (pc := 132) (i := 82) rfl rfl ?_
                  refine K_iload_n (pc := 134) (i := 83) rfl rfl ?_
                  refine K_imul (pc := 135) (i := 84) rfl ?_
                  refine K_bipush (pc := 136) (i := 85) rfl rfl ?_
                  refine K_iadd (pc := 138) (i := 86) rfl ?_
                  refine K_iald (pc := 139) (i := 87) rfl S_200 (by omega) (by omega) (by decide) ?_
                  refine K_nm (fun v139 e139 => ?_)
                  have t139 : v139 = h 200 (53 * x1.toNat + 52) := by rw [e139, ag.2.2]; congr 1; omega
                  refine K_iast (pc := 140) (i := 88) rfl S_189 (by omega) (by omega) (by decide) ?_
                  have hI := st_free (c := 189) hI (by decide +kernel) (by decide) (i := (1 : Int).toNat) (v := v139)
                  have fx := Fx.st (c := 189) (i := (1 : Int).toNat) (v := v139) fx (by first | (dsimp only; omega) | omega | exact not_false)
                  have ag := AG.ot (c := 189) (i := (1 : Int).toNat) (v := v139) ag (by omega)
                  have m140 : (kU (kU (kU hb 184 4 v101) 189 ((0 : Int).toNat) v121) 189 ((1 : Int).toNat) v139) 184 4 = h 200 (53 * x1.toNat + 50) := by rw [kU_at, if_neg (by omega)]; exact m122
                  refine K_aload_n (pc := 141) (i := 89) rfl rfl ?_
                  refine K_iconst (pc := 142) (i := 90) rfl ?_
                  refine K_putI (pc := 143) (i := 91) (j := 11) rfl S_184 rfl (by decide) rfl rfl rfl fw_Model_99 ?_
                  have hI := st_macts hI (v := 0) (by omega)
                  have fx := Fx.st (c := 184) (i := 11) (v := 0) fx (by first | (dsimp only; omega) | omega | exact not_false)
                  have ag := AG.ot (c := 184) (i := 11) (v := 0) ag (by omega)
                  have m143 : (kU (kU (kU (kU hb 184 4 v101) 189 ((0 : Int).toNat) v121) 189 ((1 : Int).toNat) v139) 184 11 0) 184 4 = h 200 (53 * x1.toNat + 50) := by rw [kU_at, if_neg (by omega)]; exact m140
                  refine K_aload_n (pc := 146) (i := 92) rfl rfl ?_
                  refine K_getI (pc := 147) (i := 93) (j := 4) rfl S_184 rfl (by decide) rfl fw_Model_59 ?_
                  refine K_nm (fun v147 e147 => ?_)
                  have r147 := rd_many hI
                  rw [← e147] at r147
                  exact K_retI (pc := 150) (i := 94) rfl rfl ⟨fx, ⟨Gd.fn hI (fun e => AG.ok hG ag (by omega) m143 (hG.2.2.2.2.2 e)), Or.inr (Or.inr ⟨by omega, by rw [← e17]; omega, e147, ag.1, fun i hi => by simp only [kU_c _ _ _ _ (show (188 : Nat) ≠ 184 by decide), kU_c _ _ _ _ (show (188 : Nat) ≠ 189 by decide)]; exact wa i (by omega), ⟨m143, by rw [kU_c _ _ _ _ (by decide), kU_at, if_neg (by simp), kU_at, if_pos (by simp)]; exact t121, by rw [kU_c _ _ _ _ (by decide), kU_at, if_pos (by simp)]; exact t139⟩, by rw [kU_at, if_pos ⟨rfl, rfl⟩]⟩)⟩⟩
                · skip
                  refine K_aload_n (pc := 63) (i := 39) rfl rfl ?_
                  refine K_getR (pc := 64) (i := 40) (j := 5) (d := 188) rfl S_184 rfl (by decide) rfl fw_Model_19 ?_
                  refine K_iload_n (pc := 67) (i := 41) rfl rfl ?_
                  refine K_aload_n (pc := 68) (i := 42) rfl rfl ?_
                  refine K_getR (pc := 69) (i := 43) (j := 25) (d := 200) rfl S_184 rfl (by decide) rfl fw_Model_56 ?_
                  refine K_bipush (pc := 72) (i := 44) rfl rfl ?_
                  refine K_iload_n (pc := 74) (i := 45) rfl rfl ?_
                  refine K_imul (pc := 75) (i := 46) rfl ?_
                  refine K_bipush (pc := 76) (i := 47) rfl rfl ?_
                  refine K_iadd (pc := 78) (i := 48) rfl ?_
                  refine K_iload_n (pc := 79) (i := 49) rfl rfl ?_
                  refine K_iadd (pc := 80) (i := 50) rfl ?_
                  refine K_iald (pc := 81) (i := 51) rfl S_200 (by omega) (by omega) (by decide) ?_
                  refine K_nm (fun v81 e81 => ?_)
                  have r81 := rd_kept hI (((53 * x1) + 40) + x2b).toNat
                  rw [← e81] at r81
                  have u81 := r81.2.2 (by omega) (by omega)
                  have t81 : v81 = h 200 (53 * x1.toNat + 40 + x2b.toNat) := by rw [e81, hV57.2.1.2.2]; congr 1; omega
                  refine K_iast (pc := 82) (i := 52) rfl S_188 (by omega) (by omega) (by decide) ?_
                  have hI := st_mwinds hI (i := (x2b).toNat) (v := v81) (by omega)
                  have fx := Fx.st (c := 188) (i := (x2b).toNat) (v := v81) fx (by first | (dsimp only; omega) | omega | exact not_false)
                  have ag82 := AG.ot (c := 188) (i := (x2b).toNat) (v := v81) hV57.2.1 (by omega)
                  have wa82 : ∀ i : Nat, (i : Int) < x2b + 1 → (kU hb 188 ((x2b).toNat) v81) 188 i = h 200 (53 * x1.toNat + 40 + i) := fun i hi => by rw [kU_at]; by_cases q : i = x2b.toNat; (rw [if_pos ⟨rfl, q⟩, t81, q]); (rw [if_neg (by omega)]; exact hV57.2.2 i (by omega))
                  refine K_inc (pc := 83) (i := 53) (q := 2) (lo' := [(0, _), (1, _), (2, _)]) rfl rfl rfl rfl rfl ?_
                  refine K_goto 57 (pc := 86) (i := 54) rfl rfl ?_
                  exact ih57 (x2b + 1) _ (by omega) hI fx ⟨by omega, ag82, wa82⟩
            exact L57 _ 0 _ (Nat.lt_succ_self _) hI fx ⟨by omega, ag40, fun i hi => absurd hi (by omega)⟩
          · skip
            refine K_aload_n (pc := 32) (i := 20) rfl rfl ?_
            refine K_getR (pc := 33) (i := 21) (j := 3) (d := 187) rfl S_184 rfl (by decide) rfl fw_Model_16 ?_
            refine K_iload_n (pc := 36) (i := 22) rfl rfl ?_
            refine K_aload_n (pc := 37) (i := 23) rfl rfl ?_
            refine K_getR (pc := 38) (i := 24) (j := 25) (d := 200) rfl S_184 rfl (by decide) rfl fw_Model_56 ?_
            refine K_bipush (pc := 41) (i := 25) rfl rfl ?_
            refine K_iload_n (pc := 43) (i := 26) rfl rfl ?_
            refine K_imul (pc := 44) (i := 27) rfl ?_
            refine K_iload_n (pc := 45) (i := 28) rfl rfl ?_
            refine K_iadd (pc := 46) (i := 29) rfl ?_
            refine K_iald (pc := 47) (i := 30) rfl S_200 (by omega) (by omega) (by decide) ?_
            refine K_nm (fun v47 e47 => ?_)
            have r47 := rd_kept hI ((53 * x1) + x2).toNat
            rw [← e47] at r47
            refine K_iast (pc := 48) (i := 31) rfl S_187 (by omega) (by omega) (by decide) ?_
            have hI := st_mkites hI (i := (x2).toNat) (v := v47) (bK_ofP (r := (x1).toNat) r47 (by omega) (by omega)) (fun e _ => False.elim e)
            have fx := Fx.st (c := 187) (i := (x2).toNat) (v := v47) fx (by first | (dsimp only; omega) | omega | exact not_false)
            have ag48 := AG.k (n := (x2).toNat) (v := v47) hV26.2 (by rw [e47]; congr 1; omega)
            refine K_inc (pc := 49) (i := 32) (q := 2) (lo' := [(0, _), (1, _), (2, _)]) rfl rfl rfl rfl rfl ?_
            refine K_goto 26 (pc := 52) (i := 33) rfl rfl ?_
            exact ih26 (x2 + 1) _ (by omega) hI fx ⟨by omega, by have := ag48; rwa [show x2.toNat + 1 = (x2 + 1).toNat by omega] at this⟩
      exact L26 _ 0 _ (Nat.lt_succ_self _) hI fx ⟨by omega, fun j hj => absurd hj (by omega), rfl, rfl⟩
    · skip
      refine K_bipush (pc := 21) (i := 13) rfl rfl ?_
      exact K_retI (pc := 23) (i := 14) rfl rfl ⟨fx, ⟨hI, Or.inr (Or.inl ⟨by omega, by rw [← e17]; omega, rfl, rfl⟩)⟩⟩
  · skip
    refine K_iconst (pc := 10) (i := 6) rfl ?_
    exact K_retI (pc := 11) (i := 7) rfl rfl ⟨fx, ⟨hI, Or.inl ⟨by omega, rfl, rfl⟩⟩⟩
