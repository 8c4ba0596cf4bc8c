set_option maxHeartbeats 4000000 in
set_option maxRecDepth 100000 in
theorem c_Model_copy (G : kG) {g : kGh} {h : kH}  (hI : Gd g h) : Ctr G y_Model_copy X_Model_copy 1 [.ref (G.2.2.2 184)] h (kQv (fun h' => Fx (fun c i => (c = 187 ∧ 40 ≤ i)) h h' ∧ (Gd g h' ∧ ∀ j : Nat, j < 40 → h' 187 (40 + j) = h 187 j))) := by
  refine Ctr.ofK (by decide) rfl T_Model_copy (Nat.le_of_ble_eq_true rfl) (lo := [(0, .ref (G.2.2.2 184))]) rfl ?_
  have fx : Fx (fun c i => (c = 187 ∧ 40 ≤ i)) h h := Fx.rf
  refine K_iconst (pc := 0) (i := 0) rfl ?_
  refine K_ist_n (pc := 1) (i := 1) (lo' := [(0, _), (1, _)]) rfl rfl rfl rfl ?_
  have L2 : ∀ (n : Nat) (x1 : Int) (ha : kH), (40 - x1).toNat < n → (Gd g ha) → (Fx (fun c i => (c = 187 ∧ 40 ≤ i)) h ha) → ((0 ≤ x1 ∧ x1 ≤ 40) ∧ ∀ j : Nat, (j : Int) < x1 → ha 187 (40 + j) = h 187 j) → K X_Model_copy G (kZm G 1 (kQv (fun h' => Fx (fun c i => (c = 187 ∧ 40 ≤ i)) h h' ∧ (Gd g h' ∧ ∀ j : Nat, j < 40 → h' 187 (40 + j) = h 187 j)))) 2 [(0, .ref (G.2.2.2 184)), (1, kI x1)] [] ha := by
    intro n
    induction n with
    | zero => intro x1 ha hm; exact absurd hm (Nat.not_lt_zero _)
    | succ n ih2 =>
      intro x1 ha hm2 hI fx hV2
      refine K_iload_n (pc := 2) (i := 2) rfl rfl ?_
      refine K_bipush (pc := 3) (i := 3) rfl rfl ?_
      first | refine K_icmp_ge 29 (pc := 5) (i := 4) rfl rfl (by omega) (by omega) (fun b5 => ?_) (fun b5 => ?_) | refine K_icmp_ge_an 29 (pc := 5) (i := 4) rfl rfl (fun b5 => ?_) (fun b5 => ?_)
      · skip
        exact K_retV (pc := 29) (i := 17) rfl rfl ⟨fx, ⟨hI, fun j hj => hV2.2 j (by omega)⟩⟩
      · skip
        refine K_aload_n (pc := 8) (i := 5) rfl rfl ?_
        refine K_getR (pc := 9) (i := 6) (j := 3) (d := 187) rfl S_184 rfl (by decide) rfl fw_Model_16 ?_
        refine K_bipush (pc := 12) (i := 7) rfl rfl ?_
        refine K_iload_n (pc := 14) (i := 8) rfl rfl ?_
        refine K_iadd (pc := 15) (i := 9) rfl ?_
        refine K_aload_n (pc := 16) (i := 10) rfl rfl ?_
        refine K_getR (pc := 17) (i := 11) (j := 3) (d := 187) rfl S_184 rfl (by decide) rfl fw_Model_16 ?_
        refine K_iload_n (pc := 20) (i := 12) rfl rfl ?_
        refine K_iald (pc := 21) (i := 13) rfl S_187 (by omega) (by omega) (by decide) ?_
        refine K_nm (fun v21 e21 => ?_)
        have r21 := rd_mkites hI (x1).toNat
        rw [← e21] at r21
        have t21 : v21 = h 187 x1.toNat := by rw [e21]; exact fx 187 x1.toNat (by first | (dsimp only; omega) | omega | exact not_false)
        refine K_iast (pc := 22) (i := 14) rfl S_187 (by omega) (by omega) (by decide) ?_
        have hI := st_mkites hI (i := (40 + x1).toNat) (v := v21) (bK_of r21 (by omega)) (fun _ a => a.hi (rd_many hI).2 (by omega))
        have fx := Fx.st (c := 187) (i := (40 + x1).toNat) (v := v21) fx (by first | (dsimp only; omega) | omega | exact not_false)
        have cp22 : ∀ j : Nat, (j : Int) < x1 + 1 → (kU ha 187 ((40 + x1).toNat) v21) 187 (40 + j) = h 187 j := fun j hj => by rw [kU_s]; by_cases q : j = x1.toNat; (rw [if_pos (by omega), t21, q]); (rw [if_neg (by omega)]; exact hV2.2 j (by omega))
        refine K_inc (pc := 23) (i := 15) (q := 1) (lo' := [(0, _), (1, _)]) rfl rfl rfl rfl rfl ?_
        refine K_goto 2 (pc := 26) (i := 16) rfl rfl ?_
        exact ih2 (x1 + 1) _ (by omega) hI fx ⟨by omega, cp22⟩
  exact L2 _ 0 _ (Nat.lt_succ_self _) hI fx ⟨by omega, fun j hj => absurd hj (by omega)⟩
set_option maxHeartbeats 4000000 in
set_option maxRecDepth 100000 in
theorem c_Model_blowAll (G : kG) {g : kGh} {h : kH} {x1 : Int} {x2 : Int} (s1 : 0 ≤ x1 ∧ x1 ≤ 8) (s2 : 0 ≤ x2 ∧ x2 ≤ 20) (hk : FK (kap h 40) x1) (hI : Gd g h) : Ctr G y_Model_blowAll X_Model_blowAll 4 [.ref (G.2.2.2 184), kI x1, kI x2] h (kQv (fun h' => Fx (fun c i => (c = 187 ∧ 40 ≤ i) ∨ c = 192) h h' ∧ (Gd g h' ∧ (∀ t : Nat, t < 2 → 0 ≤ h' 192 t ∧ h' 192 t ≤ 8 * x2) ∧ ∃ (k' : Nat → Int) (n' : Int), MTK (h 188) x2.toNat (kap h 40) x1 k' n' (h' 192)))) := by
  refine Ctr.ofK (by decide) rfl T_Model_blowAll (Nat.le_of_ble_eq_true rfl) (lo := [(0, .ref (G.2.2.2 184)), (1, kI x1), (2, kI x2)]) rfl ?_
  have fx : Fx (fun c i => (c = 187 ∧ 40 ≤ i) ∨ c = 192) h h := Fx.rf
  refine K_iload_n (pc := 0) (i := 0) rfl rfl ?_
  refine K_ist_n (pc := 1) (i := 1) (lo' := [(0, _), (1, _), (2, _), (3, _)]) rfl rfl rfl rfl ?_
  refine K_aload_n (pc := 2) (i := 2) rfl rfl ?_
  refine K_getR (pc := 3) (i := 3) (j := 14) (d := 192) rfl S_184 rfl (by decide) rfl fw_Model_31 ?_
  refine K_iconst (pc := 6) (i := 4) rfl ?_
  refine K_iconst (pc := 7) (i := 5) rfl ?_
  refine K_iast (pc := 8) (i := 6) rfl S_192 (by omega) (by omega) (by decide) ?_
  have hI := st_free (c := 192) hI (by decide +kernel) (by decide) (i := (0 : Int).toNat) (v := 0)
  have fx := Fx.st (c := 192) (i := (0 : Int).toNat) (v := 0) fx (by first | (dsimp only; omega) | omega | exact not_false)
  refine K_aload_n (pc := 9) (i := 7) rfl rfl ?_
  refine K_getR (pc := 10) (i := 8) (j := 14) (d := 192) rfl S_184 rfl (by decide) rfl fw_Model_31 ?_
  refine K_iconst (pc := 13) (i := 9) rfl ?_
  refine K_iconst (pc := 14) (i := 10) rfl ?_
  refine K_iast (pc := 15) (i := 11) rfl S_192 (by omega) (by omega) (by decide) ?_
  have hI := st_free (c := 192) hI (by decide +kernel) (by decide) (i := (1 : Int).toNat) (v := 0)
  have fx := Fx.st (c := 192) (i := (1 : Int).toNat) (v := 0) fx (by first | (dsimp only; omega) | omega | exact not_false)
  have kp15 : kap (kU (kU h 192 ((0 : Int).toNat) 0) 192 ((1 : Int).toNat) 0) 40 = kap h 40 := kap_of ((kU_c _ _ _ _ (by decide)).trans (kU_c _ _ _ _ (by decide)))
  have ga15 : ∀ t : Nat, t < 2 → (kU (kU h 192 ((0 : Int).toNat) 0) 192 ((1 : Int).toNat) 0) 192 t = 0 := fun t ht => by rcases (show t = 0 ∨ t = 1 by omega) with rfl | rfl <;> simp [kU]
  refine K_iconst (pc := 16) (i := 12) rfl ?_
  refine K_ist (pc := 17) (i := 13) (lo' := [(0, _), (1, _), (2, _), (3, _), (4, _)]) rfl rfl rfl rfl ?_
  have L19 : ∀ (n : Nat) (x3 : Int) (x4 : Int) (ha : kH), (20 - x4).toNat < n → (Gd g ha) → (Fx (fun c i => (c = 187 ∧ 40 ≤ i) ∨ c = 192) h ha) → ((0 ≤ x3 ∧ x3 ≤ 8) ∧ (0 ≤ x4 ∧ x4 ≤ x2) ∧ FK (kap ha 40) x3 ∧ MTK (h 188) x4.toNat (kap h 40) x1 (kap ha 40) x3 (ha 192)) → K X_Model_blowAll G (kZm G 4 (kQv (fun h' => Fx (fun c i => (c = 187 ∧ 40 ≤ i) ∨ c = 192) h h' ∧ (Gd g h' ∧ (∀ t : Nat, t < 2 → 0 ≤ h' 192 t ∧ h' 192 t ≤ 8 * x2) ∧ ∃ (k' : Nat → Int) (n' : Int), MTK (h 188) x2.toNat (kap h 40) x1 k' n' (h' 192))))) 19 [(0, .ref (G.2.2.2 184)), (1, kI x1), (2, kI x2), (3, kI x3), (4, kI x4)] [] ha := by
    intro n
    induction n with
    | zero => intro x3 x4 ha hm; exact absurd hm (Nat.not_lt_zero _)
    | succ n ih19 =>
      intro x3 x4 ha hm19 hI fx hV19
      refine K_iload (pc := 19) (i := 14) rfl rfl ?_
      refine K_iload_n (pc := 21) (i := 15) rfl rfl ?_
      first | refine K_icmp_ge 50 (pc := 22) (i := 16) rfl rfl (by omega) (by omega) (fun b22 => ?_) (fun b22 => ?_) | refine K_icmp_ge_an 50 (pc := 22) (i := 16) rfl rfl (fun b22 => ?_) (fun b22 => ?_)
      · skip
        exact K_retV (pc := 50) (i := 30) rfl rfl ⟨fx, ⟨hI, fun t ht => by have q := ((hV19.2.2.2).bd (by omega) (by omega)).2 t ht; omega, _, _, by have q := hV19.2.2.2; rwa [show x4 = x2 by omega] at q⟩⟩
      · skip
        refine K_aload_n (pc := 25) (i := 17) rfl rfl ?_
        refine K_bipush (pc := 26) (i := 18) rfl rfl ?_
        refine K_iload_n (pc := 28) (i := 19) rfl rfl ?_
        have fx0 := fx
        refine K_cVI (pc := 29) (i := 20) rfl (c_Model_blow40 G (x1 := 40) (x2 := x3) (hk := hV19.2.2.1) (hI := hI) (s1 := by omega) (s2 := by omega)) S_184 rfl (lv_Model_141 rfl) rfl rfl rfl rfl rfl (fun v29 h29 q29 => ?_)
        obtain ⟨fx29, q29⟩ := q29
        obtain ⟨hI, r29, bx29, ct29, fk29⟩ := q29
        have fx := fx.tr fx29 (fun c i q => (by first | (dsimp only at q ⊢; omega) | omega))
        refine K_ist (pc := 32) (i := 21) (lo' := [(0, _), (1, _), (2, _), (3, _), (4, _), (5, _)]) rfl rfl rfl rfl ?_
        refine K_aload_n (pc := 34) (i := 22) rfl rfl ?_
        refine K_bipush (pc := 35) (i := 23) rfl rfl ?_
        refine K_iload_n (pc := 37) (i := 24) rfl rfl ?_
        refine K_iload (pc := 38) (i := 25) rfl rfl ?_
        refine K_cVI (pc := 40) (i := 26) rfl (c_Model_leave40 G (x1 := 40) (x2 := x3) (x3 := v29) (hI := hI) (s1 := by omega) (s2 := by omega)) S_184 rfl (lv_Model_144 rfl) rfl rfl rfl rfl rfl (fun v40 h40 q40 => ?_)
        obtain ⟨fx40, q40⟩ := q40
        obtain ⟨hI, r40, kc40, th40, gn40⟩ := q40
        have fx := fx.tr fx40 (fun c i q => (by first | (dsimp only at q ⊢; omega) | omega))
        have w40 : ha 188 = h 188 := fx0.cell 188 (fun i => (by first | (dsimp only; omega) | omega | exact not_false))
        have mt40 := MTK.st (h1 := h29) (h2 := h40) (l := v40) hV19.2.2.2 w40 r29 bx29 ct29 fk29 (fx29.cell 192 (fun i => (by first | (dsimp only; omega) | omega | exact not_false))) kc40 th40 gn40
        have fk40 : FK (kap h40 40) v40 := by rw [kc40]; exact FK.thin fk29 th40 (by omega)
        rw [show x4.toNat + 1 = (x4 + 1).toNat by omega] at mt40
        refine K_ist_n (pc := 43) (i := 27) (lo' := [(0, _), (1, _), (2, _), (3, _), (4, _), (5, _)]) rfl rfl rfl rfl ?_
        refine K_inc (pc := 44) (i := 28) (q := 4) (lo' := [(0, _), (1, _), (2, _), (3, _), (4, _), (5, _)]) rfl rfl rfl rfl rfl ?_
        refine K_goto 19 (pc := 47) (i := 29) rfl rfl ?_
        refine K_drop (lo' := [(0, .ref (G.2.2.2 184)), (1, kI x1), (2, kI x2), (3, kI v40), (4, kI (x4 + 1))]) [0, 1, 2, 3, 4] rfl ?_
        exact ih19 v40 (x4 + 1) _ (by omega) hI fx ⟨by omega, by omega, fk40, mt40⟩
  exact L19 _ x1 0 _ (Nat.lt_succ_self _) hI fx ⟨by omega, by omega, by rw [kp15]; exact hk, kp15, rfl, ga15⟩
set_option maxHeartbeats 4000000 in
set_option maxRecDepth 100000 in
theorem c_Model_kitesOf (G : kG) {g : kGh} {h : kH} {x1 : Int} (s1 : kR x1) (hI : Gd g h) : Ctr G y_Model_kitesOf X_Model_kitesOf 1 [.ref (G.2.2.2 184), kI x1] h (kQi (fun z h' => h' = h ∧ (0 ≤ z ∧ z ≤ 8) ∧ z = cnt (fun i => h 187 (5 * i)) x1 (h 184 4).toNat)) := by
  refine Ctr.ofK (by decide) rfl T_Model_kitesOf (Nat.le_of_ble_eq_true rfl) (lo := [(0, .ref (G.2.2.2 184)), (1, kI x1)]) rfl ?_
  refine K_iconst (pc := 0) (i := 0) rfl ?_
  refine K_ist_n (pc := 1) (i := 1) (lo' := [(0, _), (1, _), (2, _)]) rfl rfl rfl rfl ?_
  refine K_iconst (pc := 2) (i := 2) rfl ?_
  refine K_ist_n (pc := 3) (i := 3) (lo' := [(0, _), (1, _), (2, _), (3, _)]) rfl rfl rfl rfl ?_
  have L4 : ∀ (n : Nat) (x2 : Int) (x3 : Int), (8 - x3).toNat < n → ((0 ≤ x2 ∧ x2 ≤ x3 ∧ x3 ≤ 8) ∧ x3 ≤ h 184 4 ∧ x2 = cnt (fun i => h 187 (5 * i)) x1 x3.toNat) → K X_Model_kitesOf G (kZm G 1 (kQi (fun z h' => h' = h ∧ (0 ≤ z ∧ z ≤ 8) ∧ z = cnt (fun i => h 187 (5 * i)) x1 (h 184 4).toNat))) 4 [(0, .ref (G.2.2.2 184)), (1, kI x1), (2, kI x2), (3, kI x3)] [] h := by
    intro n
    induction n with
    | zero => intro x2 x3 hm; exact absurd hm (Nat.not_lt_zero _)
    | succ n ih4 =>
      intro x2 x3 hm4 hV4
      refine K_iload_n (pc := 4) (i := 4) rfl rfl ?_
      refine K_aload_n (pc := 5) (i := 5) rfl rfl ?_
      refine K_getI (pc := 6) (i := 6) (j := 4) rfl S_184 rfl (by decide) rfl fw_Model_59 ?_
      refine K_nm (fun v6 e6 => ?_)
      have r6 := rd_many hI
      rw [← e6] at r6
      first | refine K_icmp_ge 38 (pc := 9) (i := 7) rfl rfl (by omega) (by omega) (fun b9 => ?_) (fun b9 => ?_) | refine K_icmp_ge_an 38 (pc := 9) (i := 7) rfl rfl (fun b9 => ?_) (fun b9 => ?_)
      · skip
        refine K_iload_n (pc := 38) (i := 24) rfl rfl ?_
        exact K_retI (pc := 39) (i := 25) rfl rfl ⟨rfl, by omega, by rw [show (h 184 4).toNat = x3.toNat by omega]; exact hV4.2.2⟩
      · skip
        refine K_iload_n (pc := 12) (i := 8) rfl rfl ?_
        refine K_aload_n (pc := 13) (i := 9) rfl rfl ?_
        refine K_getR (pc := 14) (i := 10) (j := 3) (d := 187) rfl S_184 rfl (by decide) rfl fw_Model_16 ?_
        refine K_iconst (pc := 17) (i := 11) rfl ?_
        refine K_iload_n (pc := 18) (i := 12) rfl rfl ?_
        refine K_imul (pc := 19) (i := 13) rfl ?_
        refine K_iald (pc := 20) (i := 14) rfl S_187 (by omega) (by omega) (by decide) ?_
        refine K_nm (fun v20 e20 => ?_)
        have r20 := (rd_mkites hI (5 * x3).toNat).1 (by omega)
        rw [← e20] at r20
        have w20 : h 187 (5 * x3.toNat) = v20 := by rw [e20]; congr 1; omega
        refine K_iload_n (pc := 21) (i := 15) rfl rfl ?_
        first | refine K_icmp_ne 29 (pc := 22) (i := 16) rfl rfl (by omega) (by omega) (fun b22 => ?_) (fun b22 => ?_) | refine K_icmp_ne_an 29 (pc := 22) (i := 16) rfl rfl (fun b22 => ?_) (fun b22 => ?_)
        · skip
          refine K_iconst (pc := 29) (i := 19) rfl ?_
          refine K_iadd (pc := 30) (i := 20) rfl ?_
          have c30 : ∀ w : Int, (w = x2 + 1 ∧ v20 = x1) ∨ (w = x2 + 0 ∧ v20 ≠ x1) → w = cnt (fun i => h 187 (5 * i)) x1 (x3 + 1).toNat := fun w q => by rw [show (x3 + 1).toNat = x3.toNat + 1 by omega, cnt, w20]; split <;> omega
          refine K_ist_n (pc := 31) (i := 21) (lo' := [(0, _), (1, _), (2, _), (3, _)]) rfl rfl rfl rfl ?_
          refine K_inc (pc := 32) (i := 22) (q := 3) (lo' := [(0, _), (1, _), (2, _), (3, _)]) rfl rfl rfl rfl rfl ?_
          refine K_goto 4 (pc := 35) (i := 23) rfl rfl ?_
          exact ih4 (x2 + 0) (x3 + 1) (by omega) ⟨by omega, by omega, c30 _ (by omega)⟩
        · skip
          refine K_iconst (pc := 25) (i := 17) rfl ?_
          refine K_goto 30 (pc := 26) (i := 18) rfl rfl ?_
          refine K_iadd (pc := 30) (i := 20) rfl ?_
          have c30 : ∀ w : Int, (w = x2 + 1 ∧ v20 = x1) ∨ (w = x2 + 0 ∧ v20 ≠ x1) → w = cnt (fun i => h 187 (5 * i)) x1 (x3 + 1).toNat := fun w q => by rw [show (x3 + 1).toNat = x3.toNat + 1 by omega, cnt, w20]; split <;> omega
          refine K_ist_n (pc := 31) (i := 21) (lo' := [(0, _), (1, _), (2, _), (3, _)]) rfl rfl rfl rfl ?_
          refine K_inc (pc := 32) (i := 22) (q := 3) (lo' := [(0, _), (1, _), (2, _), (3, _)]) rfl rfl rfl rfl rfl ?_
          refine K_goto 4 (pc := 35) (i := 23) rfl rfl ?_
          exact ih4 (x2 + 1) (x3 + 1) (by omega) ⟨by omega, by omega, c30 _ (by omega)⟩
  exact L4 _ 0 0 (Nat.lt_succ_self _) ⟨by omega, by have := rd_many hI; omega, rfl⟩
/-- powers of three -/
def p3 : Nat → Int
  | 0 => 1
  | n + 1 => 3 * p3 n
theorem p3_0 : p3 0 = 1 := rfl
theorem p3_bd : ∀ n, n < 9 → 1 ≤ p3 n ∧ p3 n ≤ 6561 := by decide
set_option maxHeartbeats 4000000 in
set_option maxRecDepth 100000 in
theorem c_Model_threeTo (G : kG)  {h : kH} {x0 : Int} (s0 : 0 ≤ x0 ∧ x0 ≤ 8) : Ctr G y_Model_threeTo X_Model_threeTo 1 [kI x0] h (kQi (fun z h' => h' = h ∧ (1 ≤ z ∧ z ≤ 6561) ∧ z = p3 x0.toNat)) := by
  refine Ctr.ofK (by decide) rfl T_Model_threeTo (Nat.le_of_ble_eq_true rfl) (lo := [(0, kI x0)]) rfl ?_
  refine K_iconst (pc := 0) (i := 0) rfl ?_
  refine K_ist_n (pc := 1) (i := 1) (lo' := [(0, _), (1, _)]) rfl rfl rfl rfl ?_
  refine K_iconst (pc := 2) (i := 2) rfl ?_
  refine K_ist_n (pc := 3) (i := 3) (lo' := [(0, _), (1, _), (2, _)]) rfl rfl rfl rfl ?_
  have L4 : ∀ (n : Nat) (x1 : Int) (x2 : Int), (8 - x2).toNat < n → ((0 ≤ x2 ∧ x2 ≤ x0) ∧ x1 = p3 x2.toNat) → K X_Model_threeTo G (kZm G 1 (kQi (fun z h' => h' = h ∧ (1 ≤ z ∧ z ≤ 6561) ∧ z = p3 x0.toNat))) 4 [(0, kI x0), (1, kI x1), (2, kI x2)] [] h := by
    intro n
    induction n with
    | zero => intro x1 x2 hm; exact absurd hm (Nat.not_lt_zero _)
    | succ n ih4 =>
      intro x1 x2 hm4 hV4
      have pb := p3_bd x2.toNat (by omega)
      rw [← hV4.2] at pb
      refine K_iload_n (pc := 4) (i := 4) rfl rfl ?_
      refine K_iload_n (pc := 5) (i := 5) rfl rfl ?_
      first | refine K_icmp_ge 19 (pc := 6) (i := 6) rfl rfl (by omega) (by omega) (fun b6 => ?_) (fun b6 => ?_) | refine K_icmp_ge_an 19 (pc := 6) (i := 6) rfl rfl (fun b6 => ?_) (fun b6 => ?_)
      · skip
        refine K_iload_n (pc := 19) (i := 13) rfl rfl ?_
        exact K_retI (pc := 20) (i := 14) rfl rfl ⟨rfl, by omega, by rw [show x0 = x2 by omega]; exact hV4.2⟩
      · skip
        refine K_iload_n (pc := 9) (i := 7) rfl rfl ?_
        refine K_iconst (pc := 10) (i := 8) rfl ?_
        refine K_imul (pc := 11) (i := 9) rfl ?_
        refine K_ist_n (pc := 12) (i := 10) (lo' := [(0, _), (1, _), (2, _)]) rfl rfl rfl rfl ?_
        refine K_inc (pc := 13) (i := 11) (q := 2) (lo' := [(0, _), (1, _), (2, _)]) rfl rfl rfl rfl rfl ?_
        refine K_goto 4 (pc := 16) (i := 12) rfl rfl ?_
        exact ih4 (x1 * 3) (x2 + 1) (by omega) ⟨by omega, by rw [show (x2 + 1).toNat = x2.toNat + 1 by omega, p3, ← hV4.2]; omega⟩
  exact L4 _ 1 0 (Nat.lt_succ_self _) ⟨by omega, rfl⟩
theorem FK.kH {h : kH} {o i : Nat} {n v : Int} (a : FK (kap h o) n) (q : Nat) (hi : i = o + (5 * q + 3)) (hv : 1 ≤ v ∧ v ≤ 9) : FK (kap (kU h 187 i v) o) n := by
  subst hi
  rw [kap_uf]
  exact a.setH q rfl hv
set_option maxHeartbeats 4000000 in
set_option maxRecDepth 100000 in
theorem c_Model_layPlan (G : kG) {g : kGh} {h : kH} {x1 : Int} {x2 : Int} (s2 : kR x2) {n0 : Int} (hk : FK (kap h 40) n0) (hI : Gd g h) : Ctr G y_Model_layPlan X_Model_layPlan 1 [.ref (G.2.2.2 184), kI x1, kI x2] h (kQv (fun h' => Fx (fun c i => (c = 187 ∧ 40 ≤ i)) h h' ∧ (Gd g h' ∧ FK (kap h' 40) n0))) := by
  refine Ctr.ofK (by decide) rfl T_Model_layPlan (Nat.le_of_ble_eq_true rfl) (lo := [(0, .ref (G.2.2.2 184)), (1, kI x1), (2, kI x2)]) rfl ?_
  have fx : Fx (fun c i => (c = 187 ∧ 40 ≤ i)) h h := Fx.rf
  refine K_iload_n (pc := 0) (i := 0) rfl rfl ?_
  refine K_ist_n (pc := 1) (i := 1) (lo' := [(0, _), (1, _), (2, _), (3, _)]) rfl rfl rfl rfl ?_
  refine K_aload_n (pc := 2) (i := 2) rfl rfl ?_
  refine K_getI (pc := 3) (i := 3) (j := 4) rfl S_184 rfl (by decide) rfl fw_Model_59 ?_
  refine K_nm (fun v3 e3 => ?_)
  have r3 := rd_many hI
  rw [← e3] at r3
  refine K_iconst (pc := 6) (i := 4) rfl ?_
  refine K_isub (pc := 7) (i := 5) rfl ?_
  refine K_ist (pc := 8) (i := 6) (lo' := [(0, _), (1, _), (2, _), (3, _), (4, _)]) rfl rfl rfl rfl ?_
  have L10 : ∀ (n : Nat) (x3 : Int) (x4 : Int) (ha : kH), (x4 + 1).toNat < n → (Gd g ha) → (Fx (fun c i => (c = 187 ∧ 40 ≤ i)) h ha) → ((-1 ≤ x4 ∧ x4 ≤ 7) ∧ kR x3 ∧ FK (kap ha 40) n0) → K X_Model_layPlan G (kZm G 1 (kQv (fun h' => Fx (fun c i => (c = 187 ∧ 40 ≤ i)) h h' ∧ (Gd g h' ∧ FK (kap h' 40) n0)))) 10 [(0, .ref (G.2.2.2 184)), (1, kI x1), (2, kI x2), (3, kI x3), (4, kI x4)] [] ha := by
    intro n
    induction n with
    | zero => intro x3 x4 ha hm; exact absurd hm (Nat.not_lt_zero _)
    | succ n ih10 =>
      intro x3 x4 ha hm10 hI fx hV10
      refine K_iload (pc := 10) (i := 7) rfl rfl ?_
      first | refine K_if_lt 95 (pc := 12) (i := 8) rfl rfl (by omega) (fun b12 => ?_) (fun b12 => ?_) | refine K_if_lt_an 95 (pc := 12) (i := 8) rfl rfl (fun b12 => ?_) (fun b12 => ?_)
      · skip
        exact K_retV (pc := 95) (i := 59) rfl rfl ⟨fx, ⟨hI, hV10.2.2⟩⟩
      · skip
        refine K_aload_n (pc := 15) (i := 9) rfl rfl ?_
        refine K_getR (pc := 16) (i := 10) (j := 3) (d := 187) rfl S_184 rfl (by decide) rfl fw_Model_16 ?_
        refine K_iconst (pc := 19) (i := 11) rfl ?_
        refine K_iload (pc := 20) (i := 12) rfl rfl ?_
        refine K_imul (pc := 22) (i := 13) rfl ?_
        refine K_iald (pc := 23) (i := 14) rfl S_187 (by omega) (by omega) (by decide) ?_
        refine K_nm (fun v23 e23 => ?_)
        have r23 := (rd_mkites hI (5 * x4).toNat).1 (by omega)
        rw [← e23] at r23
        refine K_iload_n (pc := 24) (i := 15) rfl rfl ?_
        first | refine K_icmp_ne 89 (pc := 25) (i := 16) rfl rfl (by omega) (by omega) (fun b25 => ?_) (fun b25 => ?_) | refine K_icmp_ne_an 89 (pc := 25) (i := 16) rfl rfl (fun b25 => ?_) (fun b25 => ?_)
        · skip
          refine K_inc (pc := 89) (i := 57) (q := 4) (lo' := [(0, _), (1, _), (2, _), (3, _), (4, _)]) rfl rfl rfl rfl rfl ?_
          refine K_goto 10 (pc := 92) (i := 58) rfl rfl ?_
          exact ih10 x3 (x4 + (-1)) _ (by omega) hI fx (by first | exact ⟨by omega, by omega, fk84⟩ | exact ⟨by omega, by omega, hV10.2.2⟩)
        · skip
          refine K_aload_n (pc := 28) (i := 17) rfl rfl ?_
          refine K_getR (pc := 29) (i := 18) (j := 3) (d := 187) rfl S_184 rfl (by decide) rfl fw_Model_16 ?_
          refine K_iconst (pc := 32) (i := 19) rfl ?_
          refine K_iload (pc := 33) (i := 20) rfl rfl ?_
          refine K_imul (pc := 35) (i := 21) rfl ?_
          refine K_iconst (pc := 36) (i := 22) rfl ?_
          refine K_iadd (pc := 37) (i := 23) rfl ?_
          refine K_iald (pc := 38) (i := 24) rfl S_187 (by omega) (by omega) (by decide) ?_
          refine K_nm (fun v38 e38 => ?_)
          have r38 := (rd_mkites hI ((5 * x4) + 3).toNat).2.1 (by omega)
          rw [← e38] at r38
          refine K_iload_n (pc := 39) (i := 25) rfl rfl ?_
          refine K_iconst (pc := 40) (i := 26) rfl ?_
          refine K_irem (pc := 41) (i := 27) rfl (by omega) (by omega) ?_
          refine K_any (fun v41 r41 => ?_)
          refine K_iadd (pc := 42) (i := 28) rfl ?_
          refine K_iconst (pc := 43) (i := 29) rfl ?_
          refine K_isub (pc := 44) (i := 30) rfl ?_
          refine K_any (fun v44 r44 => ?_)
          refine K_ist (pc := 45) (i := 31) (lo' := [(0, _), (1, _), (2, _), (3, _), (4, _), (5, _)]) rfl rfl rfl rfl ?_
          refine K_aload_n (pc := 47) (i := 32) rfl rfl ?_
          refine K_getR (pc := 48) (i := 33) (j := 3) (d := 187) rfl S_184 rfl (by decide) rfl fw_Model_16 ?_
          refine K_bipush (pc := 51) (i := 34) rfl rfl ?_
          refine K_iconst (pc := 53) (i := 35) rfl ?_
          refine K_iload (pc := 54) (i := 36) rfl rfl ?_
          refine K_imul (pc := 56) (i := 37) rfl ?_
          refine K_iadd (pc := 57) (i := 38) rfl ?_
          refine K_iconst (pc := 58) (i := 39) rfl ?_
          refine K_iadd (pc := 59) (i := 40) rfl ?_
          refine K_iload (pc := 60) (i := 41) rfl rfl ?_
          refine K_iconst (pc := 62) (i := 42) rfl ?_
          first | refine K_icmp_ge 70 (pc := 63) (i := 43) rfl rfl (by omega) (by omega) (fun b63 => ?_) (fun b63 => ?_) | refine K_icmp_ge_an 70 (pc := 63) (i := 43) rfl rfl (fun b63 => ?_) (fun b63 => ?_)
          · skip
            refine K_iload (pc := 70) (i := 46) rfl rfl ?_
            refine K_bipush (pc := 72) (i := 47) rfl rfl ?_
            first | refine K_icmp_le 82 (pc := 74) (i := 48) rfl rfl (by omega) (by omega) (fun b74 => ?_) (fun b74 => ?_) | refine K_icmp_le_an 82 (pc := 74) (i := 48) rfl rfl (fun b74 => ?_) (fun b74 => ?_)
            · skip
              refine K_iload (pc := 82) (i := 51) rfl rfl ?_
              refine K_iast (pc := 84) (i := 52) rfl S_187 (by omega) (by omega) (by decide) ?_
              have hI := st_mkites hI (i := ((40 + (5 * x4)) + 3).toNat) (v := v44) (by unfold bK; omega) (fun _ a => a.hi (rd_many hI).2 (by omega))
              have fx := Fx.st (c := 187) (i := ((40 + (5 * x4)) + 3).toNat) (v := v44) fx (by first | (dsimp only; omega) | omega | exact not_false)
              have fk84 := FK.kH (o := 40) (i := ((40 + (5 * x4)) + 3).toNat) (v := v44) hV10.2.2 x4.toNat (by omega) (by omega)
              refine K_iload_n (pc := 85) (i := 53) rfl rfl ?_
              refine K_iconst (pc := 86) (i := 54) rfl ?_
              refine K_idiv (pc := 87) (i := 55) rfl (by omega) (by omega) ?_
              refine K_any (fun v87 r87 => ?_)
              refine K_ist_n (pc := 88) (i := 56) (lo' := [(0, _), (1, _), (2, _), (3, _), (4, _), (5, _)]) rfl rfl rfl rfl ?_
              refine K_inc (pc := 89) (i := 57) (q := 4) (lo' := [(0, _), (1, _), (2, _), (3, _), (4, _), (5, _)]) rfl rfl rfl rfl rfl ?_
              refine K_goto 10 (pc := 92) (i := 58) rfl rfl ?_
              refine K_drop (lo' := [(0, .ref (G.2.2.2 184)), (1, kI x1), (2, kI x2), (3, kI v87), (4, kI (x4 + (-1)))]) [0, 1, 2, 3, 4] rfl ?_
              exact ih10 v87 (x4 + (-1)) _ (by omega) hI fx (by first | exact ⟨by omega, by omega, fk84⟩ | exact ⟨by omega, by omega, hV10.2.2⟩)
            · skip
              refine K_bipush (pc := 77) (i := 49) rfl rfl ?_
              refine K_goto 84 (pc := 79) (i := 50) rfl rfl ?_
              refine K_iast (pc := 84) (i := 52) rfl S_187 (by omega) (by omega) (by decide) ?_
              have hI := st_mkites hI (i := ((40 + (5 * x4)) + 3).toNat) (v := 9) (by unfold bK; omega) (fun _ a => a.hi (rd_many hI).2 (by omega))
              have fx := Fx.st (c := 187) (i := ((40 + (5 * x4)) + 3).toNat) (v := 9) fx (by first | (dsimp only; omega) | omega | exact not_false)
              have fk84 := FK.kH (o := 40) (i := ((40 + (5 * x4)) + 3).toNat) (v := 9) hV10.2.2 x4.toNat (by omega) (by omega)
              refine K_iload_n (pc := 85) (i := 53) rfl rfl ?_
              refine K_iconst (pc := 86) (i := 54) rfl ?_
              refine K_idiv (pc := 87) (i := 55) rfl (by omega) (by omega) ?_
              refine K_any (fun v87 r87 => ?_)
              refine K_ist_n (pc := 88) (i := 56) (lo' := [(0, _), (1, _), (2, _), (3, _), (4, _), (5, _)]) rfl rfl rfl rfl ?_
              refine K_inc (pc := 89) (i := 57) (q := 4) (lo' := [(0, _), (1, _), (2, _), (3, _), (4, _), (5, _)]) rfl rfl rfl rfl rfl ?_
              refine K_goto 10 (pc := 92) (i := 58) rfl rfl ?_
              refine K_drop (lo' := [(0, .ref (G.2.2.2 184)), (1, kI x1), (2, kI x2), (3, kI v87), (4, kI (x4 + (-1)))]) [0, 1, 2, 3, 4] rfl ?_
              exact ih10 v87 (x4 + (-1)) _ (by omega) hI fx (by first | exact ⟨by omega, by omega, fk84⟩ | exact ⟨by omega, by omega, hV10.2.2⟩)
          · skip
            refine K_iconst (pc := 66) (i := 44) rfl ?_
            refine K_goto 84 (pc := 67) (i := 45) rfl rfl ?_
            refine K_iast (pc := 84) (i := 52) rfl S_187 (by omega) (by omega) (by decide) ?_
            have hI := st_mkites hI (i := ((40 + (5 * x4)) + 3).toNat) (v := 1) (by unfold bK; omega) (fun _ a => a.hi (rd_many hI).2 (by omega))
            have fx := Fx.st (c := 187) (i := ((40 + (5 * x4)) + 3).toNat) (v := 1) fx (by first | (dsimp only; omega) | omega | exact not_false)
            have fk84 := FK.kH (o := 40) (i := ((40 + (5 * x4)) + 3).toNat) (v := 1) hV10.2.2 x4.toNat (by omega) (by omega)
            refine K_iload_n (pc := 85) (i := 53) rfl rfl ?_
            refine K_iconst (pc := 86) (i := 54) rfl ?_
            refine K_idiv (pc := 87) (i := 55) rfl (by omega) (by omega) ?_
            refine K_any (fun v87 r87 => ?_)
            refine K_ist_n (pc := 88) (i := 56) (lo' := [(0, _), (1, _), (2, _), (3, _), (4, _), (5, _)]) rfl rfl rfl rfl ?_
            refine K_inc (pc := 89) (i := 57) (q := 4) (lo' := [(0, _), (1, _), (2, _), (3, _), (4, _), (5, _)]) rfl rfl rfl rfl rfl ?_
            refine K_goto 10 (pc := 92) (i := 58) rfl rfl ?_
            refine K_drop (lo' := [(0, .ref (G.2.2.2 184)), (1, kI x1), (2, kI x2), (3, kI v87), (4, kI (x4 + (-1)))]) [0, 1, 2, 3, 4] rfl ?_
            exact ih10 v87 (x4 + (-1)) _ (by omega) hI fx (by first | exact ⟨by omega, by omega, fk84⟩ | exact ⟨by omega, by omega, hV10.2.2⟩)
  exact L10 _ x2 (v3 - 1) _ (Nat.lt_succ_self _) hI fx ⟨by omega, by omega, hk⟩
