/-- a kite is taken in: those behind it move up, as far as n -/
def TK (h1 h : kH) (k n : Nat) : Prop := (∀ j, 5 * k ≤ j → j < n → h 187 j = h1 187 (j + 5)) ∧ (∀ j, j < 5 * k ∨ n ≤ j → h 187 j = h1 187 j) ∧ (∀ c, c ≠ 187 → c ≠ 184 → h c = h1 c) ∧ h 184 4 = h1 184 4 - 1
theorem TK.k {h1 h : kH} {k n : Nat} {v : Int} (a : TK h1 h k n) (hn : 5 * k ≤ n) (hv : v = h 187 (n + 5)) : TK h1 (kU h 187 n v) k (n + 1) := by
  obtain ⟨a1, a2, a3, a4⟩ := a
  refine ⟨fun j h1 h2 => ?_, fun j hj => ?_, fun c hc hd => (kU_c _ _ _ _ hc).trans (a3 c hc hd), ?_⟩
  · rw [kU_at]
    by_cases e : j = n
    · rw [if_pos ⟨rfl, e⟩, hv, e, a2 (n + 5) (by omega)]
    · rw [if_neg (by omega)]; exact a1 j h1 (by omega)
  · rw [kU_at, if_neg (by omega)]; exact a2 j (by omega)
  · rw [kU_at, if_neg (by omega)]; exact a4
theorem TK.ok {h1 h : kH} {k n : Nat} (a : TK h1 h k n) (hn : h 184 4 * 5 ≤ n) (hk : (k : Int) < h1 184 4) (b : MOk h1) : MOk h := by
  obtain ⟨a1, a2, a3, a4⟩ := a
  unfold MOk
  rw [a3 191 (by decide) (by decide), a3 200 (by decide) (by decide)]
  refine ⟨FK.sub (fun i => if i < k then i else i + 1) b.1 (fun i hi => ?_) (fun i j hi hj hne => ?_), b.2.1, b.2.2⟩
  · by_cases e : i < k
    · simp only [if_pos e]
      exact ⟨by omega, a2 _ (by omega), a2 _ (by omega), a2 _ (by omega)⟩
    · simp only [if_neg e]
      exact ⟨by omega, (a1 _ (by omega) (by omega)).trans (by congr 1), (a1 _ (by omega) (by omega)).trans (by congr 1), (a1 _ (by omega) (by omega)).trans (by congr 1)⟩
  · split <;> split <;> omega
set_option maxHeartbeats 4000000 in
set_option maxRecDepth 100000 in
theorem c_Model_takeIn (G : kG) {g : kGh} {h : kH} {x1 : Int} (s1 : kR x1) (hI : Gd g h) : Ctr G y_Model_takeIn X_Model_takeIn 13 [.ref (G.2.2.2 184), kI x1] h (kQi (fun z h' => Fx (fun c i => c = 187 ∨ c = 191 ∨ (c = 184 ∧ (i = 4 ∨ i = 11 ∨ i = 12))) h h' ∧ (Gd g h' ∧ CMtakeIn h h' x1 z))) := by
  refine Ctr.ofK (by decide) rfl T_Model_takeIn (Nat.le_of_ble_eq_true rfl) (lo := [(0, .ref (G.2.2.2 184)), (1, kI x1)]) rfl ?_
  have fx : Fx (fun c i => c = 187 ∨ c = 191 ∨ (c = 184 ∧ (i = 4 ∨ i = 11 ∨ i = 12))) h h := Fx.rf
  refine K_aload_n (pc := 0) (i := 0) rfl rfl ?_
  refine K_iload_n (pc := 1) (i := 1) rfl rfl ?_
  refine K_cVI (pc := 2) (i := 2) rfl (c_Model_isKite G (x1 := x1) (hI := hI) (s1 := by omega)) S_184 rfl (lv_Model_102 rfl) rfl rfl rfl rfl rfl (fun v2 h2 q2 => ?_)
  obtain ⟨eh, r2⟩ := q2
  rw [eh]; clear eh
  first | refine K_if_ne 10 (pc := 5) (i := 3) rfl rfl (by omega) (fun b5 => ?_) (fun b5 => ?_) | refine K_if_ne_an 10 (pc := 5) (i := 3) rfl rfl (fun b5 => ?_) (fun b5 => ?_)
  · skip
    refine K_aload_n (pc := 10) (i := 6) rfl rfl ?_
    refine K_cVV (pc := 11) (i := 7) rfl (c_Model_keepAct G (hI := hI)) S_184 rfl (lv_Model_121 rfl) rfl rfl rfl rfl rfl (fun h11 q11 => ?_)
    obtain ⟨fx11, q11⟩ := q11
    obtain ⟨hI, mr11⟩ := q11
    have fx := fx.tr fx11 (fun c i q => (by first | (dsimp only at q ⊢; omega) | omega))
    have hG := hI
    have hI := hI.nf
    have u2 : h11 184 4 = h 184 4 := fx11 184 4 (by first | (dsimp only; omega) | omega | exact not_false)
    have k2 : h11 187 = h 187 := fx11.cell 187 (fun i => (by first | (dsimp only; omega) | omega))
    refine K_aload_n (pc := 14) (i := 8) rfl rfl ?_
    refine K_dup (pc := 15) (i := 9) rfl rfl ?_
    refine K_getI (pc := 16) (i := 10) (j := 4) rfl S_184 rfl (by decide) rfl fw_Model_59 ?_
    refine K_nm (fun v16 e16 => ?_)
    have r16 := rd_many hI
    rw [← e16] at r16
    refine K_iconst (pc := 19) (i := 11) rfl ?_
    refine K_isub (pc := 20) (i := 12) rfl ?_
    refine K_putI (pc := 21) (i := 13) (j := 4) rfl S_184 rfl (by decide) rfl rfl rfl fw_Model_59 ?_
    have hI := st_many hI (v := v16 - 1) (by omega) (fun e _ => False.elim e)
    have fx := Fx.st (c := 184) (i := 4) (v := v16 - 1) fx (by first | (dsimp only; omega) | omega | exact not_false)
    have tk : TK h11 (kU h11 184 4 (v16 - 1)) (x1).toNat (5 * x1.toNat) := ⟨fun j q w => absurd w (by omega), fun j _ => by rw [kU_c _ _ _ _ (show (187 : Nat) ≠ 184 by decide)], fun c _ q => kU_c _ _ _ _ q, by rw [kU_at, if_pos ⟨rfl, rfl⟩, e16]⟩
    have a21 : (kU h11 184 4 (v16 - 1)) 184 11 = h11 184 11 ∧ (kU h11 184 4 (v16 - 1)) 184 12 = h11 184 12 := ⟨by rw [kU_at, if_neg (by omega)], by rw [kU_at, if_neg (by omega)]⟩
    refine K_iconst (pc := 24) (i := 14) rfl ?_
    refine K_iload_n (pc := 25) (i := 15) rfl rfl ?_
    refine K_imul (pc := 26) (i := 16) rfl ?_
    refine K_ist_n (pc := 27) (i := 17) (lo' := [(0, _), (1, _), (2, _)]) rfl rfl rfl rfl ?_
    have L28 : ∀ (n : Nat) (x2 : Int) (ha : kH), (40 - x2).toNat < n → (Gd (kNf g) ha) → (Fx (fun c i => c = 187 ∨ c = 191 ∨ (c = 184 ∧ (i = 4 ∨ i = 11 ∨ i = 12))) h ha) → ((5 * x1 ≤ x2 ∧ x2 ≤ 40) ∧ TK h11 ha (x1).toNat x2.toNat ∧ (ha 184 11 = h11 184 11 ∧ ha 184 12 = h11 184 12)) → K X_Model_takeIn G (kZm G 13 (kQi (fun z h' => Fx (fun c i => c = 187 ∨ c = 191 ∨ (c = 184 ∧ (i = 4 ∨ i = 11 ∨ i = 12))) h h' ∧ (Gd g h' ∧ CMtakeIn h h' x1 z)))) 28 [(0, .ref (G.2.2.2 184)), (1, kI x1), (2, kI x2)] [] ha := by
      intro n
      induction n with
      | zero => intro x2 ha hm; exact absurd hm (Nat.not_lt_zero _)
      | succ n ih28 =>
        intro x2 ha hm28 hI fx hV28
        refine K_iload_n (pc := 28) (i := 18) rfl rfl ?_
        refine K_iconst (pc := 29) (i := 19) rfl ?_
        refine K_aload_n (pc := 30) (i := 20) rfl rfl ?_
        refine K_getI (pc := 31) (i := 21) (j := 4) rfl S_184 rfl (by decide) rfl fw_Model_59 ?_
        refine K_nm (fun v31 e31 => ?_)
        have r31 := rd_many hI
        rw [← e31] at r31
        refine K_imul (pc := 34) (i := 22) rfl ?_
        first | refine K_icmp_ge 58 (pc := 35) (i := 23) rfl rfl (by omega) (by omega) (fun b35 => ?_) (fun b35 => ?_) | refine K_icmp_ge_an 58 (pc := 35) (i := 23) rfl rfl (fun b35 => ?_) (fun b35 => ?_)
        · skip
          refine K_aload_n (pc := 58) (i := 36) rfl rfl ?_
          refine K_getI (pc := 59) (i := 37) (j := 4) rfl S_184 rfl (by decide) rfl fw_Model_59 ?_
          refine K_nm (fun v59 e59 => ?_)
          have r59 := rd_many hI
          rw [← e59] at r59
          exact K_retI (pc := 62) (i := 38) rfl rfl ⟨fx, ⟨Gd.fn hI (fun e => TK.ok hV28.2.1 (by omega) (by omega) (hG.2.2.2.2.2 e)), Or.inr ⟨by omega, e59, by rw [hV28.2.1.2.2.2, u2], mr11.of (hV28.2.1.2.2.1 191 (by decide) (by decide)) hV28.2.2.1 hV28.2.2.2, fun j hj => by rw [← k2]; exact hV28.2.1.2.1 j (Or.inl hj), fun j a b => by rw [← k2]; exact hV28.2.1.1 j a (by have := hV28.2.1.2.2.2; omega)⟩⟩⟩
        · skip
          refine K_aload_n (pc := 38) (i := 24) rfl rfl ?_
          refine K_getR (pc := 39) (i := 25) (j := 3) (d := 187) rfl S_184 rfl (by decide) rfl fw_Model_16 ?_
          refine K_iload_n (pc := 42) (i := 26) rfl rfl ?_
          refine K_aload_n (pc := 43) (i := 27) rfl rfl ?_
          refine K_getR (pc := 44) (i := 28) (j := 3) (d := 187) rfl S_184 rfl (by decide) rfl fw_Model_16 ?_
          refine K_iload_n (pc := 47) (i := 29) rfl rfl ?_
          refine K_iconst (pc := 48) (i := 30) rfl ?_
          refine K_iadd (pc := 49) (i := 31) rfl ?_
          refine K_iald (pc := 50) (i := 32) rfl S_187 (by omega) (by omega) (by decide) ?_
          refine K_nm (fun v50 e50 => ?_)
          have r50 := rd_mkites hI (x2 + 5).toNat
          rw [← e50] at r50
          refine K_iast (pc := 51) (i := 33) rfl S_187 (by omega) (by omega) (by decide) ?_
          have hI := st_mkites hI (i := (x2).toNat) (v := v50) (bK_of r50 (by omega)) (fun e _ => False.elim e)
          have fx := Fx.st (c := 187) (i := (x2).toNat) (v := v50) fx (by first | (dsimp only; omega) | omega | exact not_false)
          have tk51 := TK.k (n := (x2).toNat) (v := v50) hV28.2.1 (by omega) (by rw [e50, show (x2 + 5).toNat = x2.toNat + 5 by omega])
          refine K_inc (pc := 52) (i := 34) (q := 2) (lo' := [(0, _), (1, _), (2, _)]) rfl rfl rfl rfl rfl ?_
          refine K_goto 28 (pc := 55) (i := 35) rfl rfl ?_
          exact ih28 (x2 + 1) _ (by omega) hI fx ⟨by omega, by have := tk51; rwa [show x2.toNat + 1 = (x2 + 1).toNat by omega] at this, by rw [kU_c _ _ _ _ (show (184 : Nat) ≠ 187 by decide)]; exact hV28.2.2⟩
    exact L28 _ (5 * x1) _ (Nat.lt_succ_self _) hI fx ⟨by omega, by rwa [show (5 * x1).toNat = 5 * x1.toNat by omega], a21⟩
  · skip
    refine K_iconst (pc := 8) (i := 4) rfl ?_
    exact K_retI (pc := 9) (i := 5) rfl rfl ⟨fx, ⟨hI, Or.inl ⟨by omega, rfl, rfl⟩⟩⟩
