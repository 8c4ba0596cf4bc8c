def ahC (h : kH) (f k a b : Nat) : Prop := mhC h f k a * kAbs (trC h f k b) < mhC h f k b * kAbs (trC h f k a) ∨ (mhC h f k a * kAbs (trC h f k b) = mhC h f k b * kAbs (trC h f k a) ∧ a < b)
set_option maxHeartbeats 4000000 in
set_option maxRecDepth 100000 in
theorem c_Tangle_isAhead (G : kG) {g : kGh} {h : kH} {f : Nat} (hf : f ∈ FL) {x1 : Int} {x2 : Int} {x3 : Int} (s1 : 0 ≤ x1 ∧ x1 ≤ 7) (s2 : 0 ≤ x2 ∧ x2 ≤ 7) (s3 : 0 ≤ x3 ∧ x3 ≤ 7) (hI : Gd g h) : Ctr G y_Tangle_isAhead X_Tangle_isAhead 3 [.ref (G.2.2.2 f), kI x1, kI x2, kI x3] h (kQi (fun z h' => h' = h ∧ ((z = 1 ∧ ahC h f x1.toNat x2.toNat x3.toNat) ∨ (z = 0 ∧ ¬ ahC h f x1.toNat x2.toNat x3.toNat)))) := by
  refine Ctr.ofK (by decide) rfl T_Tangle_isAhead (Nat.le_of_ble_eq_true rfl) (lo := [(0, .ref (G.2.2.2 f)), (1, kI x1), (2, kI x2), (3, kI x3)]) rfl ?_
  refine K_aload_n (pc := 0) (i := 0) rfl rfl ?_
  refine K_iload_n (pc := 1) (i := 1) rfl rfl ?_
  refine K_iload_n (pc := 2) (i := 2) rfl rfl ?_
  refine K_cVI (pc := 3) (i := 3) rfl (c_Fleet_meetingHeight G (f := f) (hf := hf) (x1 := x1) (x2 := x2) (hI := hI) (s1 := by omega) (s2 := by omega)) (S_Fl hf) rfl (lv_Tangle_46 rfl) rfl rfl rfl rfl rfl (fun v3 h3 q3 => ?_)
  obtain ⟨eh, r3⟩ := q3
  rw [eh]; clear eh
  refine K_aload_n (pc := 6) (i := 4) rfl rfl ?_
  refine K_iload_n (pc := 7) (i := 5) rfl rfl ?_
  refine K_iload_n (pc := 8) (i := 6) rfl rfl ?_
  refine K_cVI (pc := 9) (i := 7) rfl (c_Fleet_meetingBelow G (f := f) (hf := hf) (x1 := x1) (x2 := x3) (hI := hI) (s1 := by omega) (s2 := by omega)) (S_Fl hf) rfl (lv_Tangle_50 rfl) rfl rfl rfl rfl rfl (fun v9 h9 q9 => ?_)
  obtain ⟨eh, r9⟩ := q9
  rw [eh]; clear eh
  refine K_imul (pc := 12) (i := 8) rfl ?_
  refine K_nm (fun v12 e12 => ?_)
  have u12 := mul_bd (A := 3240) (B := 720) (a := v3) (b := v9) (by omega) (by omega)
  rw [← e12] at u12
  have y12 : v12 = mhC h f x1.toNat x2.toNat * kAbs (trC h f x1.toNat x3.toNat) := by rw [e12, r3.1, r9.1]
  refine K_ist (pc := 13) (i := 9) (lo' := [(0, _), (1, _), (2, _), (3, _), (4, _)]) rfl rfl rfl rfl ?_
  refine K_aload_n (pc := 15) (i := 10) rfl rfl ?_
  refine K_iload_n (pc := 16) (i := 11) rfl rfl ?_
  refine K_iload_n (pc := 17) (i := 12) rfl rfl ?_
  refine K_cVI (pc := 18) (i := 13) rfl (c_Fleet_meetingHeight G (f := f) (hf := hf) (x1 := x1) (x2 := x3) (hI := hI) (s1 := by omega) (s2 := by omega)) (S_Fl hf) rfl (lv_Tangle_46 rfl) rfl rfl rfl rfl rfl (fun v18 h18 q18 => ?_)
  obtain ⟨eh, r18⟩ := q18
  rw [eh]; clear eh
  refine K_aload_n (pc := 21) (i := 14) rfl rfl ?_
  refine K_iload_n (pc := 22) (i := 15) rfl rfl ?_
  refine K_iload_n (pc := 23) (i := 16) rfl rfl ?_
  refine K_cVI (pc := 24) (i := 17) rfl (c_Fleet_meetingBelow G (f := f) (hf := hf) (x1 := x1) (x2 := x2) (hI := hI) (s1 := by omega) (s2 := by omega)) (S_Fl hf) rfl (lv_Tangle_50 rfl) rfl rfl rfl rfl rfl (fun v24 h24 q24 => ?_)
  obtain ⟨eh, r24⟩ := q24
  rw [eh]; clear eh
  refine K_imul (pc := 27) (i := 18) rfl ?_
  refine K_nm (fun v27 e27 => ?_)
  have u27 := mul_bd (A := 3240) (B := 720) (a := v18) (b := v24) (by omega) (by omega)
  rw [← e27] at u27
  have y27 : v27 = mhC h f x1.toNat x3.toNat * kAbs (trC h f x1.toNat x2.toNat) := by rw [e27, r18.1, r24.1]
  refine K_ist (pc := 28) (i := 19) (lo' := [(0, _), (1, _), (2, _), (3, _), (4, _), (5, _)]) rfl rfl rfl rfl ?_
  refine K_iload (pc := 30) (i := 20) rfl rfl ?_
  refine K_iload (pc := 32) (i := 21) rfl rfl ?_
  first | refine K_icmp_lt 49 (pc := 34) (i := 22) rfl rfl (by omega) (by omega) (fun b34 => ?_) (fun b34 => ?_) | refine K_icmp_lt_an 49 (pc := 34) (i := 22) rfl rfl (fun b34 => ?_) (fun b34 => ?_)
  · skip
    refine K_iconst (pc := 49) (i := 29) rfl ?_
    refine K_goto 54 (pc := 50) (i := 30) rfl rfl ?_
    exact K_retZ (pc := 54) (i := 32) rfl rfl (by omega) ⟨rfl, by unfold ahC; rw [← y12, ← y27]; omega⟩
  · skip
    refine K_iload (pc := 37) (i := 23) rfl rfl ?_
    refine K_iload (pc := 39) (i := 24) rfl rfl ?_
    first | refine K_icmp_ne 53 (pc := 41) (i := 25) rfl rfl (by omega) (by omega) (fun b41 => ?_) (fun b41 => ?_) | refine K_icmp_ne_an 53 (pc := 41) (i := 25) rfl rfl (fun b41 => ?_) (fun b41 => ?_)
    · skip
      refine K_iconst (pc := 53) (i := 31) rfl ?_
      exact K_retZ (pc := 54) (i := 32) rfl rfl (by omega) ⟨rfl, by unfold ahC; rw [← y12, ← y27]; omega⟩
    · skip
      refine K_iload_n (pc := 44) (i := 26) rfl rfl ?_
      refine K_iload_n (pc := 45) (i := 27) rfl rfl ?_
      first | refine K_icmp_ge 53 (pc := 46) (i := 28) rfl rfl (by omega) (by omega) (fun b46 => ?_) (fun b46 => ?_) | refine K_icmp_ge_an 53 (pc := 46) (i := 28) rfl rfl (fun b46 => ?_) (fun b46 => ?_)
      · skip
        refine K_iconst (pc := 53) (i := 31) rfl ?_
        exact K_retZ (pc := 54) (i := 32) rfl rfl (by omega) ⟨rfl, by unfold ahC; rw [← y12, ← y27]; omega⟩
      · skip
        refine K_iconst (pc := 49) (i := 29) rfl ?_
        refine K_goto 54 (pc := 50) (i := 30) rfl rfl ?_
        exact K_retZ (pc := 54) (i := 32) rfl rfl (by omega) ⟨rfl, by unfold ahC; rw [← y12, ← y27]; omega⟩
set_option maxHeartbeats 4000000 in
set_option maxRecDepth 100000 in
theorem c_Tangle_countAhead (G : kG) {g : kGh} {h : kH} {f : Nat} (hf : f ∈ FL) {x2 : Int} {x3 : Int} (s2 : 0 ≤ x2 ∧ x2 ≤ 7) (s3 : 0 ≤ x3 ∧ x3 ≤ 7) (hI : Gd g h) : Ctr G y_Tangle_countAhead X_Tangle_countAhead 4 [.ref (G.2.2.2 182), .ref (G.2.2.2 f), kI x2, kI x3] h (kQi (fun z h' => h' = h ∧ (0 ≤ z ∧ z ≤ 8) ∧ z = sm (fun o => ind (tb (h 183 x2.toNat) o = true ∧ ahC h f x2.toNat o x3.toNat)) (h f 6).toNat)) := by
  refine Ctr.ofK (by decide) rfl T_Tangle_countAhead (Nat.le_of_ble_eq_true rfl) (lo := [(0, .ref (G.2.2.2 182)), (1, .ref (G.2.2.2 f)), (2, kI x2), (3, kI x3)]) rfl ?_
  have n00 := rd_kites hI hf
  refine K_iconst (pc := 0) (i := 0) rfl ?_
  refine K_ist (pc := 1) (i := 1) (lo' := [(0, _), (1, _), (2, _), (3, _), (4, _)]) rfl rfl rfl rfl ?_
  refine K_iconst (pc := 3) (i := 2) rfl ?_
  refine K_ist (pc := 4) (i := 3) (lo' := [(0, _), (1, _), (2, _), (3, _), (4, _), (5, _)]) rfl rfl rfl rfl ?_
  have L6 : ∀ (n : Nat) (x4 : Int) (x5 : Int), (8 - x5).toNat < n → ((0 ≤ x4 ∧ x4 ≤ x5 ∧ x5 ≤ 8) ∧ x5 ≤ h f 6 ∧ x4 = sm (fun o => ind (tb (h 183 x2.toNat) o = true ∧ ahC h f x2.toNat o x3.toNat)) x5.toNat) → K X_Tangle_countAhead G (kZm G 4 (kQi (fun z h' => h' = h ∧ (0 ≤ z ∧ z ≤ 8) ∧ z = sm (fun o => ind (tb (h 183 x2.toNat) o = true ∧ ahC h f x2.toNat o x3.toNat)) (h f 6).toNat))) 6 [(0, .ref (G.2.2.2 182)), (1, .ref (G.2.2.2 f)), (2, kI x2), (3, kI x3), (4, kI x4), (5, kI x5)] [] h := by
    intro n
    induction n with
    | zero => intro x4 x5 hm; exact absurd hm (Nat.not_lt_zero _)
    | succ n ih6 =>
      intro x4 x5 hm6 hV6
      refine K_iload (pc := 6) (i := 4) rfl rfl ?_
      refine K_aload_n (pc := 8) (i := 5) rfl rfl ?_
      refine K_getI (pc := 9) (i := 6) (j := 6) rfl (S_Fl hf) rfl (by decide) rfl fw_Tangle_15 ?_
      refine K_nm (fun v9 e9 => ?_)
      have r9 := rd_kites hI hf
      rw [← e9] at r9
      first | refine K_icmp_ge 49 (pc := 12) (i := 7) rfl rfl (by omega) (by omega) (fun b12 => ?_) (fun b12 => ?_) | refine K_icmp_ge_an 49 (pc := 12) (i := 7) rfl rfl (fun b12 => ?_) (fun b12 => ?_)
      · skip
        refine K_iload (pc := 49) (i := 26) rfl rfl ?_
        exact K_retI (pc := 51) (i := 27) rfl rfl ⟨rfl, by omega, by rw [show (h f 6).toNat = x5.toNat by omega]; exact hV6.2.2⟩
      · skip
        refine K_aload_n (pc := 15) (i := 8) rfl rfl ?_
        refine K_getR (pc := 16) (i := 9) (j := 0) (d := 183) rfl S_182 rfl (by decide) rfl fw_Tangle_9 ?_
        refine K_iload_n (pc := 19) (i := 10) rfl rfl ?_
        refine K_iald (pc := 20) (i := 11) rfl S_183 (by omega) (by omega) (by decide) ?_
        refine K_nm (fun v20 e20 => ?_)
        refine K_iload (pc := 21) (i := 12) rfl rfl ?_
        refine K_ishr (pc := 23) (i := 13) rfl ?_
        refine K_nm (fun v23 e23 => ?_)
        have r23 := kShr_R v20 x5
        rw [← e23] at r23
        refine K_iconst (pc := 24) (i := 14) rfl ?_
        refine K_iand (pc := 25) (i := 15) rfl ?_
        refine K_nm (fun v25 e25 => ?_)
        have r25 := kAnd_1 v23
        rw [← e25] at r25
        have t25 : v25 = if tb v20 x5 then 1 else 0 := by rw [e25, e23]; exact kbit (by omega)
        have c25 : ∀ w : Int, ((w = x4 + 1 ∧ (tb v20 x5 = true ∧ ahC h f x2.toNat x5.toNat x3.toNat)) ∨ (w = x4 ∧ ¬ (tb v20 x5 = true ∧ ahC h f x2.toNat x5.toNat x3.toNat))) → w = sm (fun o => ind (tb (h 183 x2.toNat) o = true ∧ ahC h f x2.toNat o x3.toNat)) (x5 + 1).toNat := fun w q => by rw [show (x5 + 1).toNat = x5.toNat + 1 by omega, sm, ← hV6.2.2, show ((x5.toNat : Nat) : Int) = x5 by omega, ← e20]; rcases q with q | q; (rw [ind_t q.2]; omega); (rw [ind_f q.2]; omega)
        first | refine K_if_eq 43 (pc := 26) (i := 16) rfl rfl (by omega) (fun b26 => ?_) (fun b26 => ?_) | refine K_if_eq_an 43 (pc := 26) (i := 16) rfl rfl (fun b26 => ?_) (fun b26 => ?_)
        · skip
          refine K_inc (pc := 43) (i := 24) (q := 5) (lo' := [(0, _), (1, _), (2, _), (3, _), (4, _), (5, _)]) rfl rfl rfl rfl rfl ?_
          refine K_goto 6 (pc := 46) (i := 25) rfl rfl ?_
          exact ih6 x4 (x5 + 1) (by omega) (by first | exact ⟨by omega, by omega, c25 _ (Or.inr ⟨rfl, fun q => absurd q.1 (tbz t25 (by omega))⟩)⟩ | exact ⟨by omega, by omega, c25 _ (Or.inr ⟨rfl, fun q => r34.elim (fun e => absurd e.1 (by omega)) (fun e => e.2 q.2)⟩)⟩ | exact ⟨by omega, by omega, c25 _ (Or.inl ⟨rfl, tbx t25 (by omega), r34.elim (fun e => e.2) (fun e => absurd e.1 (by omega))⟩)⟩)
        · skip
          refine K_aload_n (pc := 29) (i := 17) rfl rfl ?_
          refine K_iload_n (pc := 30) (i := 18) rfl rfl ?_
          refine K_iload (pc := 31) (i := 19) rfl rfl ?_
          refine K_iload_n (pc := 33) (i := 20) rfl rfl ?_
          refine K_cSI (pc := 34) (i := 21) rfl (c_Tangle_isAhead G (f := f) (hf := hf) (x1 := x2) (x2 := x5) (x3 := x3) (hI := hI) (s1 := by omega) (s2 := by omega) (s3 := by omega)) (ls_Tangle_42 rfl) rfl rfl rfl rfl (fun v34 h34 q34 => ?_)
          obtain ⟨eh, r34⟩ := q34
          rw [eh]; clear eh
          first | refine K_if_eq 43 (pc := 37) (i := 22) rfl rfl (by omega) (fun b37 => ?_) (fun b37 => ?_) | refine K_if_eq_an 43 (pc := 37) (i := 22) rfl rfl (fun b37 => ?_) (fun b37 => ?_)
          · skip
            refine K_inc (pc := 43) (i := 24) (q := 5) (lo' := [(0, _), (1, _), (2, _), (3, _), (4, _), (5, _)]) rfl rfl rfl rfl rfl ?_
            refine K_goto 6 (pc := 46) (i := 25) rfl rfl ?_
            exact ih6 x4 (x5 + 1) (by omega) (by first | exact ⟨by omega, by omega, c25 _ (Or.inr ⟨rfl, fun q => absurd q.1 (tbz t25 (by omega))⟩)⟩ | exact ⟨by omega, by omega, c25 _ (Or.inr ⟨rfl, fun q => r34.elim (fun e => absurd e.1 (by omega)) (fun e => e.2 q.2)⟩)⟩ | exact ⟨by omega, by omega, c25 _ (Or.inl ⟨rfl, tbx t25 (by omega), r34.elim (fun e => e.2) (fun e => absurd e.1 (by omega))⟩)⟩)
          · skip
            refine K_inc (pc := 40) (i := 23) (q := 4) (lo' := [(0, _), (1, _), (2, _), (3, _), (4, _), (5, _)]) rfl rfl rfl rfl rfl ?_
            refine K_inc (pc := 43) (i := 24) (q := 5) (lo' := [(0, _), (1, _), (2, _), (3, _), (4, _), (5, _)]) rfl rfl rfl rfl rfl ?_
            refine K_goto 6 (pc := 46) (i := 25) rfl rfl ?_
            exact ih6 (x4 + 1) (x5 + 1) (by omega) (by first | exact ⟨by omega, by omega, c25 _ (Or.inr ⟨rfl, fun q => absurd q.1 (tbz t25 (by omega))⟩)⟩ | exact ⟨by omega, by omega, c25 _ (Or.inr ⟨rfl, fun q => r34.elim (fun e => absurd e.1 (by omega)) (fun e => e.2 q.2)⟩)⟩ | exact ⟨by omega, by omega, c25 _ (Or.inl ⟨rfl, tbx t25 (by omega), r34.elim (fun e => e.2) (fun e => absurd e.1 (by omega))⟩)⟩)
  exact L6 _ 0 0 (Nat.lt_succ_self _) ⟨by omega, by omega, rfl⟩
/-- the first of n numbers of which P holds; none: -9 -/
def FST (P : Nat → Prop) (n z : Int) : Prop := (z = -9 ∧ ∀ k : Nat, (k : Int) < n → ¬ P k) ∨ (∃ k : Nat, z = k ∧ (k : Int) < n ∧ P k ∧ ∀ j : Nat, j < k → ¬ P j)
theorem FST.uniq {P P' : Nat → Prop} {n z z' : Int} (e : ∀ k : Nat, (k : Int) < n → (P k ↔ P' k)) (a : FST P n z) (b : FST P' n z') : z = z' := by
  rcases a with ⟨a1, a2⟩ | ⟨k, a1, a2, a3, a4⟩ <;> rcases b with ⟨b1, b2⟩ | ⟨l, b1, b2, b3, b4⟩
  · rw [a1, b1]
  · exact absurd ((e l b2).2 b3) (a2 l b2)
  · exact absurd ((e k a2).1 a3) (b2 k a2)
  · rcases Nat.lt_trichotomy k l with q | q | q
    · exact absurd ((e k a2).1 a3) (b4 k q)
    · rw [a1, b1, q]
    · exact absurd ((e l b2).2 b3) (a4 l q)
theorem ahC_sf {h h' : kH} {f : Nat} (e : ∀ c, f ≤ c → c ≤ f + 6 → h' c = h c) (k a b : Nat) : ahC h' f k a b ↔ ahC h f k a b := by
  unfold ahC mhC trC
  rw [e (f + 2) (by omega) (by omega), e (f + 3) (by omega) (by omega), e (f + 4) (by omega) (by omega)]
set_option maxHeartbeats 4000000 in
set_option maxRecDepth 100000 in
theorem c_Tangle_nthAlong (G : kG) {g : kGh} {h : kH} {f : Nat} (hf : f ∈ FL) (hr : f + 7 ≤ 160) {x2 : Int} {x3 : Int} (s2 : 0 ≤ x2 ∧ x2 < h f 6) (s3 : kR x3) (hI : Gd g h) : Ctr G y_Tangle_nthAlong X_Tangle_nthAlong 5 [.ref (G.2.2.2 182), .ref (G.2.2.2 f), kI x2, kI x3] h (kQi (fun z h' => Fx (fun c i => c = 183) h h' ∧ (Gd g h' ∧ FST (fun k => ((k ≠ x2.toNat ∧ mt h f x2.toNat k) ∧ sm (fun o => ind ((o ≠ x2.toNat ∧ mt h f x2.toNat o) ∧ ahC h f x2.toNat o k)) (h f 6).toNat = x3)) (h f 6) z))) := by
  refine Ctr.ofK (by decide) rfl T_Tangle_nthAlong (Nat.le_of_ble_eq_true rfl) (lo := [(0, .ref (G.2.2.2 182)), (1, .ref (G.2.2.2 f)), (2, kI x2), (3, kI x3)]) rfl ?_
  have fx : Fx (fun c i => c = 183) h h := Fx.rf
  have n00 := rd_kites hI hf
  refine K_aload_n (pc := 0) (i := 0) rfl rfl ?_
  refine K_aload_n (pc := 1) (i := 1) rfl rfl ?_
  refine K_cVV (pc := 2) (i := 2) rfl (c_Tangle_look G (f := f) (hf := hf) (hI := hI) (hr := by omega)) S_182 rfl (lv_Tangle_25 rfl) rfl rfl rfl rfl rfl (fun h2 q2 => ?_)
  obtain ⟨fx2, q2⟩ := q2
  obtain ⟨hI, lk2⟩ := q2
  have fx := fx.tr fx2 (fun c i q => (by first | (dsimp only at q ⊢; omega) | omega))
  have sf2 : ∀ c, f ≤ c → c ≤ f + 6 → h2 c = h c := fun c p q => fx2.cell c (fun i => (by first | (dsimp only; omega) | omega))
  have lq : ∀ k : Nat, (k : Int) < h f 6 → (tb (h2 183 x2.toNat) k = true ↔ k ≠ x2.toNat ∧ mt h f x2.toNat k) := fun k hk => by rw [(lk2 x2.toNat (by omega)).2 k (by omega) (by omega)]; exact ⟨fun q => ⟨by omega, q.2.2⟩, fun q => ⟨hk, by omega, q.2⟩⟩
  have sq : ∀ k : Nat, sm (fun o => ind (tb (h2 183 x2.toNat) o = true ∧ ahC h2 f x2.toNat o k)) (h f 6).toNat = sm (fun o => ind ((o ≠ x2.toNat ∧ mt h f x2.toNat o) ∧ ahC h f x2.toNat o k)) (h f 6).toNat := fun k => sm_c (fun o ho => ind_c (by rw [lq o (by omega), ahC_sf sf2]))
  refine K_iconst (pc := 5) (i := 3) rfl ?_
  refine K_ist (pc := 6) (i := 4) (lo' := [(0, _), (1, _), (2, _), (3, _), (4, _)]) rfl rfl rfl rfl ?_
  have L8 : ∀ (n : Nat) (x4 : Int), (8 - x4).toNat < n → ((0 ≤ x4 ∧ x4 ≤ 8) ∧ ∀ k : Nat, (k : Int) < x4 → ¬ ((k ≠ x2.toNat ∧ mt h f x2.toNat k) ∧ sm (fun o => ind ((o ≠ x2.toNat ∧ mt h f x2.toNat o) ∧ ahC h f x2.toNat o k)) (h f 6).toNat = x3)) → K X_Tangle_nthAlong G (kZm G 5 (kQi (fun z h' => Fx (fun c i => c = 183) h h' ∧ (Gd g h' ∧ FST (fun k => ((k ≠ x2.toNat ∧ mt h f x2.toNat k) ∧ sm (fun o => ind ((o ≠ x2.toNat ∧ mt h f x2.toNat o) ∧ ahC h f x2.toNat o k)) (h f 6).toNat = x3)) (h f 6) z)))) 8 [(0, .ref (G.2.2.2 182)), (1, .ref (G.2.2.2 f)), (2, kI x2), (3, kI x3), (4, kI x4)] [] h2 := by
    intro n
    induction n with
    | zero => intro x4 hm; exact absurd hm (Nat.not_lt_zero _)
    | succ n ih8 =>
      intro x4 hm8 hV8
      refine K_iload (pc := 8) (i := 5) rfl rfl ?_
      refine K_aload_n (pc := 10) (i := 6) rfl rfl ?_
      refine K_getI (pc := 11) (i := 7) (j := 6) rfl (S_Fl hf) rfl (by decide) rfl fw_Tangle_15 ?_
      refine K_nm (fun v11 e11 => ?_)
      have r11 := rd_kites hI hf
      rw [← e11] at r11
      have n11 : v11 = h f 6 := by rw [e11]; exact congrFun (sf2 f (by omega) (by omega)) 6
      first | refine K_icmp_ge 52 (pc := 14) (i := 8) rfl rfl (by omega) (by omega) (fun b14 => ?_) (fun b14 => ?_) | refine K_icmp_ge_an 52 (pc := 14) (i := 8) rfl rfl (fun b14 => ?_) (fun b14 => ?_)
      · skip
        refine K_bipush (pc := 52) (i := 29) rfl rfl ?_
        exact K_retI (pc := 54) (i := 30) rfl rfl ⟨fx, ⟨hI, Or.inl ⟨rfl, fun k hk => hV8.2 k (by omega)⟩⟩⟩
      · skip
        refine K_aload_n (pc := 17) (i := 9) rfl rfl ?_
        refine K_getR (pc := 18) (i := 10) (j := 0) (d := 183) rfl S_182 rfl (by decide) rfl fw_Tangle_9 ?_
        refine K_iload_n (pc := 21) (i := 11) rfl rfl ?_
        refine K_iald (pc := 22) (i := 12) rfl S_183 (by omega) (by omega) (by decide) ?_
        refine K_nm (fun v22 e22 => ?_)
        refine K_iload (pc := 23) (i := 13) rfl rfl ?_
        refine K_ishr (pc := 25) (i := 14) rfl ?_
        refine K_nm (fun v25 e25 => ?_)
        have r25 := kShr_R v22 x4
        rw [← e25] at r25
        refine K_iconst (pc := 26) (i := 15) rfl ?_
        refine K_iand (pc := 27) (i := 16) rfl ?_
        refine K_nm (fun v27 e27 => ?_)
        have r27 := kAnd_1 v25
        rw [← e27] at r27
        have t27 : v27 = if tb v22 x4 then 1 else 0 := by rw [e27, e25]; exact kbit (by omega)
        have y27 : tb v22 x4 = true ↔ x4.toNat ≠ x2.toNat ∧ mt h f x2.toNat x4.toNat := by have q := lq x4.toNat (by omega); rw [show ((x4.toNat : Nat) : Int) = x4 by omega, ← e22] at q; exact q
        first | refine K_if_eq 46 (pc := 28) (i := 17) rfl rfl (by omega) (fun b28 => ?_) (fun b28 => ?_) | refine K_if_eq_an 46 (pc := 28) (i := 17) rfl rfl (fun b28 => ?_) (fun b28 => ?_)
        · skip
          refine K_inc (pc := 46) (i := 27) (q := 4) (lo' := [(0, _), (1, _), (2, _), (3, _), (4, _)]) rfl rfl rfl rfl rfl ?_
          refine K_goto 8 (pc := 49) (i := 28) rfl rfl ?_
          exact ih8 (x4 + 1) (by omega) (by first | exact ⟨by omega, fun k q => if e : k = x4.toNat then (by subst e; exact fun r => absurd (y27.2 r.1) (tbz t27 (by omega))) else hV8.2 k (by omega)⟩ | exact ⟨by omega, fun k q => if e : k = x4.toNat then (by subst e; exact fun r => absurd r.2 (by rw [← t36]; omega)) else hV8.2 k (by omega)⟩)
        · skip
          refine K_aload_n (pc := 31) (i := 18) rfl rfl ?_
          refine K_aload_n (pc := 32) (i := 19) rfl rfl ?_
          refine K_iload_n (pc := 33) (i := 20) rfl rfl ?_
          refine K_iload (pc := 34) (i := 21) rfl rfl ?_
          refine K_cVI (pc := 36) (i := 22) rfl (c_Tangle_countAhead G (f := f) (hf := hf) (x2 := x2) (x3 := x4) (hI := hI) (s2 := by omega) (s3 := by omega)) S_182 rfl (lv_Tangle_38 rfl) rfl rfl rfl rfl rfl (fun v36 h36 q36 => ?_)
          obtain ⟨eh, r36⟩ := q36
          rw [eh]; clear eh
          have t36 : v36 = sm (fun o => ind ((o ≠ x2.toNat ∧ mt h f x2.toNat o) ∧ ahC h f x2.toNat o x4.toNat)) (h f 6).toNat := by rw [r36.2, show h2 f 6 = h f 6 from congrFun (sf2 f (by omega) (by omega)) 6]; exact sq x4.toNat
          refine K_iload_n (pc := 39) (i := 23) rfl rfl ?_
          first | refine K_icmp_ne 46 (pc := 40) (i := 24) rfl rfl (by omega) (by omega) (fun b40 => ?_) (fun b40 => ?_) | refine K_icmp_ne_an 46 (pc := 40) (i := 24) rfl rfl (fun b40 => ?_) (fun b40 => ?_)
          · skip
            refine K_inc (pc := 46) (i := 27) (q := 4) (lo' := [(0, _), (1, _), (2, _), (3, _), (4, _)]) rfl rfl rfl rfl rfl ?_
            refine K_goto 8 (pc := 49) (i := 28) rfl rfl ?_
            exact ih8 (x4 + 1) (by omega) (by first | exact ⟨by omega, fun k q => if e : k = x4.toNat then (by subst e; exact fun r => absurd (y27.2 r.1) (tbz t27 (by omega))) else hV8.2 k (by omega)⟩ | exact ⟨by omega, fun k q => if e : k = x4.toNat then (by subst e; exact fun r => absurd r.2 (by rw [← t36]; omega)) else hV8.2 k (by omega)⟩)
          · skip
            refine K_iload (pc := 43) (i := 25) rfl rfl ?_
            exact K_retI (pc := 45) (i := 26) rfl rfl ⟨fx, ⟨hI, Or.inr ⟨x4.toNat, by omega, by omega, ⟨y27.1 (tbx t27 (by omega)), by rw [← t36]; omega⟩, fun j hj => hV8.2 j (by omega)⟩⟩⟩
  exact L8 _ 0 (Nat.lt_succ_self _) ⟨by omega, fun k q => absurd q (by omega)⟩
