theorem kU4 {h : kH} {n : Nat} {a b c w : Int} : (∀ j, kU (kU (kU (kU h 170 n a) 171 n b) 172 n c) 169 6 w 170 j = if j = n then a else h 170 j) ∧ (∀ j, kU (kU (kU (kU h 170 n a) 171 n b) 172 n c) 169 6 w 171 j = if j = n then b else h 171 j) ∧ (∀ j, kU (kU (kU (kU h 170 n a) 171 n b) 172 n c) 169 6 w 172 j = if j = n then c else h 172 j) ∧ kU (kU (kU (kU h 170 n a) 171 n b) 172 n c) 169 6 w 169 6 = w := by
  refine ⟨fun j => ?_, fun j => ?_, fun j => ?_, ?_⟩ <;> simp [kU]
set_option maxHeartbeats 4000000 in
set_option maxRecDepth 100000 in
theorem c_Seen_add (G : kG) {g : kGh} {h : kH} {x1 : Int} {x2 : Int} {x3 : Int} (s1 : 0 ≤ x1 ∧ x1 ≤ 7) (s2 : 0 ≤ x2 ∧ x2 ≤ 7) (s3 : x3 = 0 ∨ x3 = 1) (hI : Gd g h) : Ctr G y_Seen_add X_Seen_add 2 [.ref (G.2.2.2 169), kI x1, kI x2, kI x3] h (kQi (fun z h' => Fx (fun c i => 169 ≤ c ∧ c ≤ 172) h h' ∧ (Gd g h' ∧ ((z = 0 ∧ 8 ≤ h 169 6 ∧ h' = h) ∨ (z = 1 ∧ h 169 6 < 8 ∧ h' 169 6 = h 169 6 + 1 ∧ (∀ j, h' 170 j = if j = (h 169 6).toNat then min x1 x2 else h 170 j) ∧ (∀ j, h' 171 j = if j = (h 169 6).toNat then max x1 x2 else h 171 j) ∧ ∀ j, h' 172 j = if j = (h 169 6).toNat then x3 else h 172 j))))) := by
  refine Ctr.ofK (by decide) rfl T_Seen_add (Nat.le_of_ble_eq_true rfl) (lo := [(0, .ref (G.2.2.2 169)), (1, kI x1), (2, kI x2), (3, kI x3)]) rfl ?_
  have fx : Fx (fun c i => 169 ≤ c ∧ c ≤ 172) h h := Fx.rf
  refine K_aload_n (pc := 0) (i := 0) rfl rfl ?_
  refine K_getI (pc := 1) (i := 1) (j := 6) rfl S_169 rfl (by decide) rfl fw_Seen_35 ?_
  refine K_nm (fun v1 e1 => ?_)
  have r1 := rd_seensize hI
  rw [← e1] at r1
  refine K_bipush (pc := 4) (i := 2) rfl rfl ?_
  first | refine K_icmp_lt 11 (pc := 6) (i := 3) rfl rfl (by omega) (by omega) (fun b6 => ?_) (fun b6 => ?_) | refine K_icmp_lt_an 11 (pc := 6) (i := 3) rfl rfl (fun b6 => ?_) (fun b6 => ?_)
  · skip
    refine K_aload_n (pc := 11) (i := 6) rfl rfl ?_
    refine K_getR (pc := 12) (i := 7) (j := 0) (d := 170) rfl S_169 rfl (by decide) rfl fw_Seen_9 ?_
    refine K_aload_n (pc := 15) (i := 8) rfl rfl ?_
    refine K_getI (pc := 16) (i := 9) (j := 6) rfl S_169 rfl (by decide) rfl fw_Seen_35 ?_
    refine K_nm (fun v16 e16 => ?_)
    have r16 := rd_seensize hI
    rw [← e16] at r16
    have t16 : v16 = v1 := by rw [e16, e1]; try simp [kU]
    refine K_iload_n (pc := 19) (i := 10) rfl rfl ?_
    refine K_iload_n (pc := 20) (i := 11) rfl rfl ?_
    refine K_mmin (pc := 21) (i := 12) rfl mw_Seen_39 (by omega) (by omega) (Nat.le_of_ble_eq_true rfl) ⟨Nat.le_of_ble_eq_true rfl, Nat.le_of_ble_eq_true rfl⟩ ⟨Nat.le_of_ble_eq_true rfl, Nat.le_of_ble_eq_true rfl⟩ ?_
    refine K_nm (fun v21 e21 => ?_)
    refine K_iast (pc := 24) (i := 13) rfl S_170 (by omega) (by omega) (by decide) ?_
    have hI := st_seenkite hI (i := (v16).toNat) (v := v21) (by omega)
    have fx := Fx.st (c := 170) (i := (v16).toNat) (v := v21) fx (by first | (dsimp only; omega) | omega | exact not_false)
    refine K_aload_n (pc := 25) (i := 14) rfl rfl ?_
    refine K_getR (pc := 26) (i := 15) (j := 1) (d := 171) rfl S_169 rfl (by decide) rfl fw_Seen_15 ?_
    refine K_aload_n (pc := 29) (i := 16) rfl rfl ?_
    refine K_getI (pc := 30) (i := 17) (j := 6) rfl S_169 rfl (by decide) rfl fw_Seen_35 ?_
    refine K_nm (fun v30 e30 => ?_)
    have r30 := rd_seensize hI
    rw [← e30] at r30
    have t30 : v30 = v1 := by rw [e30, e1]; try simp [kU]
    refine K_iload_n (pc := 33) (i := 18) rfl rfl ?_
    refine K_iload_n (pc := 34) (i := 19) rfl rfl ?_
    refine K_mmax (pc := 35) (i := 20) rfl mw_Seen_45 (by omega) (by omega) (Nat.le_of_ble_eq_true rfl) ⟨Nat.le_of_ble_eq_true rfl, Nat.le_of_ble_eq_true rfl⟩ ⟨Nat.le_of_ble_eq_true rfl, Nat.le_of_ble_eq_true rfl⟩ ?_
    refine K_nm (fun v35 e35 => ?_)
    refine K_iast (pc := 38) (i := 21) rfl S_171 (by omega) (by omega) (by decide) ?_
    have hI := st_seenother hI (i := (v30).toNat) (v := v35) (by omega)
    have fx := Fx.st (c := 171) (i := (v30).toNat) (v := v35) fx (by first | (dsimp only; omega) | omega | exact not_false)
    refine K_aload_n (pc := 39) (i := 22) rfl rfl ?_
    refine K_getR (pc := 40) (i := 23) (j := 2) (d := 172) rfl S_169 rfl (by decide) rfl fw_Seen_18 ?_
    refine K_aload_n (pc := 43) (i := 24) rfl rfl ?_
    refine K_getI (pc := 44) (i := 25) (j := 6) rfl S_169 rfl (by decide) rfl fw_Seen_35 ?_
    refine K_nm (fun v44 e44 => ?_)
    have r44 := rd_seensize hI
    rw [← e44] at r44
    have t44 : v44 = v1 := by rw [e44, e1]; try simp [kU]
    refine K_iload_n (pc := 47) (i := 26) rfl rfl ?_
    refine K_bast (pc := 48) (i := 27) rfl S_172 (by omega) (by omega) (by decide) (by omega) ?_
    have hI := st_crossing hI (i := (v44).toNat) (v := x3) (by omega)
    have fx := Fx.st (c := 172) (i := (v44).toNat) (v := x3) fx (by first | (dsimp only; omega) | omega | exact not_false)
    refine K_aload_n (pc := 49) (i := 28) rfl rfl ?_
    refine K_dup (pc := 50) (i := 29) rfl rfl ?_
    refine K_getI (pc := 51) (i := 30) (j := 6) rfl S_169 rfl (by decide) rfl fw_Seen_35 ?_
    refine K_nm (fun v51 e51 => ?_)
    have r51 := rd_seensize hI
    rw [← e51] at r51
    have t51 : v51 = v1 := by rw [e51, e1]; try simp [kU]
    refine K_iconst (pc := 54) (i := 31) rfl ?_
    refine K_iadd (pc := 55) (i := 32) rfl ?_
    refine K_putI (pc := 56) (i := 33) (j := 6) rfl S_169 rfl (by decide) rfl rfl rfl fw_Seen_35 ?_
    have hI := st_seensize hI (v := v51 + 1) (by omega)
    have fx := Fx.st (c := 169) (i := 6) (v := v51 + 1) fx (by first | (dsimp only; omega) | omega | exact not_false)
    refine K_iconst (pc := 59) (i := 34) rfl ?_
    exact K_retZ (pc := 60) (i := 35) rfl rfl (by omega) ⟨fx, ⟨hI, Or.inr ⟨rfl, by omega, by rw [t16, t30, t44, t51, ← e1]; exact kU4.2.2.2, by rw [t16, t30, t44, t51, ← e1, ← e21]; exact kU4.1, by rw [t16, t30, t44, t51, ← e1, ← e35]; exact kU4.2.1, by rw [t16, t30, t44, t51, ← e1]; exact kU4.2.2.1⟩⟩⟩
  · skip
    refine K_iconst (pc := 9) (i := 4) rfl ?_
    exact K_retZ (pc := 10) (i := 5) rfl rfl (by omega) ⟨fx, ⟨hI, Or.inl ⟨rfl, by omega, rfl⟩⟩⟩
set_option maxHeartbeats 4000000 in
set_option maxRecDepth 100000 in
theorem c_Seen_agrees (G : kG) {g : kGh} {h : kH} {x1 : Int} (s1 : 0 ≤ x1 ∧ x1 ≤ 7) (hI : Gd g h) : Ctr G y_Seen_agrees X_Seen_agrees 4 [.ref (G.2.2.2 169), kI x1] h (kQi (fun z h' => h' = h ∧ (z = 0 ∨ z = 1))) := by
  refine Ctr.ofK (by decide) rfl T_Seen_agrees (Nat.le_of_ble_eq_true rfl) (lo := [(0, .ref (G.2.2.2 169)), (1, kI x1)]) rfl ?_
  refine K_iconst (pc := 0) (i := 0) rfl ?_
  refine K_ist_n (pc := 1) (i := 1) (lo' := [(0, _), (1, _), (2, _)]) rfl rfl rfl rfl ?_
  have L2 : ∀ (n : Nat) (x2 : Int), (8 - x2).toNat < n → (0 ≤ x2 ∧ x2 ≤ 8) → K X_Seen_agrees G (kZm G 4 (kQi (fun z h' => h' = h ∧ (z = 0 ∨ z = 1)))) 2 [(0, .ref (G.2.2.2 169)), (1, kI x1), (2, kI x2)] [] h := by
    intro n
    induction n with
    | zero => intro x2 hm; exact absurd hm (Nat.not_lt_zero _)
    | succ n ih2 =>
      intro x2 hm2 hV2
      refine K_iload_n (pc := 2) (i := 2) rfl rfl ?_
      refine K_aload_n (pc := 3) (i := 3) rfl rfl ?_
      refine K_getI (pc := 4) (i := 4) (j := 6) rfl S_169 rfl (by decide) rfl fw_Seen_35 ?_
      refine K_nm (fun v4 e4 => ?_)
      have r4 := rd_seensize hI
      rw [← e4] at r4
      first | refine K_icmp_ge 51 (pc := 7) (i := 5) rfl rfl (by omega) (by omega) (fun b7 => ?_) (fun b7 => ?_) | refine K_icmp_ge_an 51 (pc := 7) (i := 5) rfl rfl (fun b7 => ?_) (fun b7 => ?_)
      · skip
        refine K_iconst (pc := 51) (i := 29) rfl ?_
        exact K_retZ (pc := 52) (i := 30) rfl rfl (by omega) ⟨rfl, by omega⟩
      · skip
        refine K_aload_n (pc := 10) (i := 6) rfl rfl ?_
        refine K_getR (pc := 11) (i := 7) (j := 1) (d := 171) rfl S_169 rfl (by decide) rfl fw_Seen_15 ?_
        refine K_iload_n (pc := 14) (i := 8) rfl rfl ?_
        refine K_iald (pc := 15) (i := 9) rfl S_171 (by omega) (by omega) (by decide) ?_
        refine K_nm (fun v15 e15 => ?_)
        have r15 := rd_seenother hI (x2).toNat
        rw [← e15] at r15
        refine K_iload_n (pc := 16) (i := 10) rfl rfl ?_
        first | refine K_icmp_ne 45 (pc := 17) (i := 11) rfl rfl (by omega) (by omega) (fun b17 => ?_) (fun b17 => ?_) | refine K_icmp_ne_an 45 (pc := 17) (i := 11) rfl rfl (fun b17 => ?_) (fun b17 => ?_)
        · skip
          refine K_inc (pc := 45) (i := 27) (q := 2) (lo' := [(0, _), (1, _), (2, _)]) rfl rfl rfl rfl rfl ?_
          refine K_goto 2 (pc := 48) (i := 28) rfl rfl ?_
          exact ih2 (x2 + 1) (by omega) (by omega)
        · skip
          refine K_aload_n (pc := 20) (i := 12) rfl rfl ?_
          refine K_getR (pc := 21) (i := 13) (j := 3) (d := 173) rfl S_169 rfl (by decide) rfl fw_Seen_25 ?_
          refine K_aload_n (pc := 24) (i := 14) rfl rfl ?_
          refine K_getR (pc := 25) (i := 15) (j := 0) (d := 170) rfl S_169 rfl (by decide) rfl fw_Seen_9 ?_
          refine K_iload_n (pc := 28) (i := 16) rfl rfl ?_
          refine K_iald (pc := 29) (i := 17) rfl S_170 (by omega) (by omega) (by decide) ?_
          refine K_nm (fun v29 e29 => ?_)
          have r29 := rd_seenkite hI (x2).toNat
          rw [← e29] at r29
          refine K_iload_n (pc := 30) (i := 18) rfl rfl ?_
          refine K_cVI (pc := 31) (i := 19) rfl (c_Fleet_meet G (f := 173) (hf := fl173) (x1 := v29) (x2 := x1) (hI := hI) (s1 := by omega) (s2 := by omega)) (S_Fl fl173) rfl (lv_Seen_66 rfl) rfl rfl rfl rfl rfl (fun v31 h31 q31 => ?_)
          obtain ⟨eh, r31⟩ := q31
          rw [eh]; clear eh
          refine K_aload_n (pc := 34) (i := 20) rfl rfl ?_
          refine K_getR (pc := 35) (i := 21) (j := 2) (d := 172) rfl S_169 rfl (by decide) rfl fw_Seen_18 ?_
          refine K_iload_n (pc := 38) (i := 22) rfl rfl ?_
          refine K_bald (pc := 39) (i := 23) rfl S_172 (by omega) (by omega) (by decide) ?_
          refine K_nm (fun v39 e39 => ?_)
          have r39 := rd_crossing hI (x2).toNat
          rw [← e39] at r39
          first | refine K_icmp_eq 45 (pc := 40) (i := 24) rfl rfl (by omega) (by omega) (fun b40 => ?_) (fun b40 => ?_) | refine K_icmp_eq_an 45 (pc := 40) (i := 24) rfl rfl (fun b40 => ?_) (fun b40 => ?_)
          · skip
            refine K_inc (pc := 45) (i := 27) (q := 2) (lo' := [(0, _), (1, _), (2, _)]) rfl rfl rfl rfl rfl ?_
            refine K_goto 2 (pc := 48) (i := 28) rfl rfl ?_
            exact ih2 (x2 + 1) (by omega) (by omega)
          · skip
            refine K_iconst (pc := 43) (i := 25) rfl ?_
            exact K_retZ (pc := 44) (i := 26) rfl rfl (by omega) ⟨rfl, by omega⟩
  exact L2 _ 0 (Nat.lt_succ_self _) (by omega)
set_option maxHeartbeats 4000000 in
set_option maxRecDepth 100000 in
theorem c_Seen_rowsFrom4 (G : kG) {g : kGh} {h : kH} {x1 : Int} {x2 : Int} (s1 : 4 ≤ x1 ∧ x1 ≤ 4) (s2 : kR x2) (hI : Gd g h) : Ctr G y_Seen_rowsFrom X_Seen_rowsFrom 6 [.ref (G.2.2.2 169), kI x1, kI x2] h (kQi (fun z h' => Fx (fun c i => 173 ≤ c ∧ c ≤ 181) h h' ∧ (Gd g h' ∧ kR z))) := by
  refine Ctr.ofK (by decide) rfl T_Seen_rowsFrom (Nat.le_of_ble_eq_true rfl) (lo := [(0, .ref (G.2.2.2 169)), (1, kI x1), (2, kI x2)]) rfl ?_
  have fx : Fx (fun c i => 173 ≤ c ∧ c ≤ 181) h h := Fx.rf
  refine K_iload_n (pc := 0) (i := 0) rfl rfl ?_
  refine K_iload_n (pc := 1) (i := 1) rfl rfl ?_
  first | refine K_icmp_ge 10 (pc := 2) (i := 2) rfl rfl (by omega) (by omega) (fun b2 => ?_) (fun b2 => ?_) | refine K_icmp_ge_an 10 (pc := 2) (i := 2) rfl rfl (fun b2 => ?_) (fun b2 => ?_)
  · skip
    refine K_iconst (pc := 10) (i := 6) rfl ?_
    refine K_any (fun v11 r11 => ?_)
    exact K_retI (pc := 11) (i := 7) rfl rfl ⟨fx, ⟨hI, by omega⟩⟩
  · skip
    refine K_iload_n (pc := 5) (i := 3) rfl rfl ?_
    refine K_iconst (pc := 6) (i := 4) rfl ?_
    first | refine K_icmp_lt 12 (pc := 7) (i := 5) rfl rfl (by omega) (by omega) (fun b7 => ?_) (fun b7 => ?_) | refine K_icmp_lt_an 12 (pc := 7) (i := 5) rfl rfl (fun b7 => ?_) (fun b7 => ?_)
    · skip
      exact absurd b7 (by omega)
    · skip
      refine K_iconst (pc := 10) (i := 6) rfl ?_
      refine K_any (fun v11 r11 => ?_)
      exact K_retI (pc := 11) (i := 7) rfl rfl ⟨fx, ⟨hI, by omega⟩⟩
set_option maxHeartbeats 4000000 in
set_option maxRecDepth 100000 in
theorem c_Seen_rowsFrom3 (G : kG) {g : kGh} {h : kH} {x1 : Int} {x2 : Int} (s1 : 3 ≤ x1 ∧ x1 ≤ 4) (s2 : kR x2) (hI : Gd g h) : Ctr G y_Seen_rowsFrom X_Seen_rowsFrom 7 [.ref (G.2.2.2 169), kI x1, kI x2] h (kQi (fun z h' => Fx (fun c i => 173 ≤ c ∧ c ≤ 181) h h' ∧ (Gd g h' ∧ kR z))) := by
  refine Ctr.ofK (by decide) rfl T_Seen_rowsFrom (Nat.le_of_ble_eq_true rfl) (lo := [(0, .ref (G.2.2.2 169)), (1, kI x1), (2, kI x2)]) rfl ?_
  have fx : Fx (fun c i => 173 ≤ c ∧ c ≤ 181) h h := Fx.rf
  refine K_iload_n (pc := 0) (i := 0) rfl rfl ?_
  refine K_iload_n (pc := 1) (i := 1) rfl rfl ?_
  first | refine K_icmp_ge 10 (pc := 2) (i := 2) rfl rfl (by omega) (by omega) (fun b2 => ?_) (fun b2 => ?_) | refine K_icmp_ge_an 10 (pc := 2) (i := 2) rfl rfl (fun b2 => ?_) (fun b2 => ?_)
  · skip
    refine K_iconst (pc := 10) (i := 6) rfl ?_
    refine K_any (fun v11 r11 => ?_)
    exact K_retI (pc := 11) (i := 7) rfl rfl ⟨fx, ⟨hI, by omega⟩⟩
  · skip
    refine K_iload_n (pc := 5) (i := 3) rfl rfl ?_
    refine K_iconst (pc := 6) (i := 4) rfl ?_
    first | refine K_icmp_lt 12 (pc := 7) (i := 5) rfl rfl (by omega) (by omega) (fun b7 => ?_) (fun b7 => ?_) | refine K_icmp_lt_an 12 (pc := 7) (i := 5) rfl rfl (fun b7 => ?_) (fun b7 => ?_)
    · skip
      refine K_iconst (pc := 12) (i := 8) rfl ?_
      refine K_ist_n (pc := 13) (i := 9) (lo' := [(0, _), (1, _), (2, _), (3, _)]) rfl rfl rfl rfl ?_
      refine K_iconst (pc := 14) (i := 10) rfl ?_
      refine K_ist (pc := 15) (i := 11) (lo' := [(0, _), (1, _), (2, _), (3, _), (4, _)]) rfl rfl rfl rfl ?_
      have L17 : ∀ (n : Nat) (x3 : Int) (x4 : Int) (ha : kH), (10 - x4).toNat < n → (Gd g ha) → (Fx (fun c i => 173 ≤ c ∧ c ≤ 181) h ha) → (1 ≤ x4 ∧ x4 ≤ 10) → K X_Seen_rowsFrom G (kZm G 7 (kQi (fun z h' => Fx (fun c i => 173 ≤ c ∧ c ≤ 181) h h' ∧ (Gd g h' ∧ kR z)))) 17 [(0, .ref (G.2.2.2 169)), (1, kI x1), (2, kI x2), (3, kI x3), (4, kI x4)] [] ha := by
        intro n
        induction n with
        | zero => intro x3 x4 ha hm; exact absurd hm (Nat.not_lt_zero _)
        | succ n ih17 =>
          intro x3 x4 ha hm17 hI fx hV17
          refine K_iload (pc := 17) (i := 12) rfl rfl ?_
          refine K_bipush (pc := 19) (i := 13) rfl rfl ?_
          first | refine K_icmp_gt 107 (pc := 21) (i := 14) rfl rfl (by omega) (by omega) (fun b21 => ?_) (fun b21 => ?_) | refine K_icmp_gt_an 107 (pc := 21) (i := 14) rfl rfl (fun b21 => ?_) (fun b21 => ?_)
          · skip
            refine K_iload_n (pc := 107) (i := 62) rfl rfl ?_
            refine K_any (fun v108 r108 => ?_)
            exact K_retI (pc := 108) (i := 63) rfl rfl ⟨fx, ⟨hI, by omega⟩⟩
          · skip
            refine K_aload_n (pc := 24) (i := 15) rfl rfl ?_
            refine K_getR (pc := 25) (i := 16) (j := 3) (d := 173) rfl S_169 rfl (by decide) rfl fw_Seen_25 ?_
            refine K_getR (pc := 28) (i := 17) (j := 3) (d := 177) rfl (S_Fl fl173) rfl (by decide) rfl fw_Seen_59 ?_
            refine K_iload_n (pc := 31) (i := 18) rfl rfl ?_
            refine K_iload (pc := 32) (i := 19) rfl rfl ?_
            refine K_iast (pc := 34) (i := 20) rfl (S_Fl4 fl173) (by omega) (by omega) (by decide) ?_
            have hI := st_height hI fl173 (i := (x1).toNat) (v := x4) (by omega)
            have fx := Fx.st (c := 177) (i := (x1).toNat) (v := x4) fx (by first | (dsimp only; omega) | omega | exact not_false)
            refine K_aload_n (pc := 35) (i := 21) rfl rfl ?_
            refine K_iload_n (pc := 36) (i := 22) rfl rfl ?_
            refine K_cVI (pc := 37) (i := 23) rfl (c_Seen_agrees G (x1 := x1) (hI := hI) (s1 := by omega)) S_169 rfl (lv_Seen_62 rfl) rfl rfl rfl rfl rfl (fun v37 h37 q37 => ?_)
            obtain ⟨eh, r37⟩ := q37
            rw [eh]; clear eh
            first | refine K_if_eq 54 (pc := 40) (i := 24) rfl rfl (by omega) (fun b40 => ?_) (fun b40 => ?_) | refine K_if_eq_an 54 (pc := 40) (i := 24) rfl rfl (fun b40 => ?_) (fun b40 => ?_)
            · skip
              refine K_iconst (pc := 54) (i := 32) rfl ?_
              refine K_ist (pc := 55) (i := 33) (lo' := [(0, _), (1, _), (2, _), (3, _), (4, _), (5, _)]) rfl rfl rfl rfl ?_
              refine K_iload (pc := 57) (i := 34) rfl rfl ?_
              refine K_if_le 101 (pc := 59) (i := 35) rfl rfl (by omega) (fun _ => ?_) (fun b59 => False.elim (by omega))
              refine K_inc (pc := 101) (i := 60) (q := 4) (lo' := [(0, _), (1, _), (2, _), (3, _), (4, _), (5, _)]) rfl rfl rfl rfl rfl ?_
              refine K_goto 17 (pc := 104) (i := 61) rfl rfl ?_
              refine K_drop (lo' := [(0, .ref (G.2.2.2 169)), (1, kI x1), (2, kI x2), (3, kI x3), (4, kI (x4 + 1))]) [0, 1, 2, 3, 4] rfl ?_
              exact ih17 x3 (x4 + 1) _ (by omega) hI fx (by omega)
            · skip
              refine K_aload_n (pc := 43) (i := 25) rfl rfl ?_
              refine K_iload_n (pc := 44) (i := 26) rfl rfl ?_
              refine K_iconst (pc := 45) (i := 27) rfl ?_
              refine K_iadd (pc := 46) (i := 28) rfl ?_
              refine K_iload_n (pc := 47) (i := 29) rfl rfl ?_
              refine K_cSI (pc := 48) (i := 30) rfl (c_Seen_rowsFrom4 G (x1 := x1 + 1) (x2 := x2) (hI := hI) (s1 := by omega) (s2 := by omega)) (ls_Seen_55 rfl) rfl rfl rfl rfl (fun v48 h48 q48 => ?_)
              obtain ⟨fx48, q48⟩ := q48
              obtain ⟨hI, r48⟩ := q48
              have fx := fx.tr fx48 (fun c i q => (by first | (dsimp only at q ⊢; omega) | omega))
              refine K_goto 55 (pc := 51) (i := 31) rfl rfl ?_
              refine K_ist (pc := 55) (i := 33) (lo' := [(0, _), (1, _), (2, _), (3, _), (4, _), (5, _)]) rfl rfl rfl rfl ?_
              refine K_iload (pc := 57) (i := 34) rfl rfl ?_
              first | refine K_if_le 101 (pc := 59) (i := 35) rfl rfl (by omega) (fun b59 => ?_) (fun b59 => ?_) | refine K_if_le_an 101 (pc := 59) (i := 35) rfl rfl (fun b59 => ?_) (fun b59 => ?_)
              · skip
                refine K_inc (pc := 101) (i := 60) (q := 4) (lo' := [(0, _), (1, _), (2, _), (3, _), (4, _), (5, _)]) rfl rfl rfl rfl rfl ?_
                refine K_goto 17 (pc := 104) (i := 61) rfl rfl ?_
                refine K_drop (lo' := [(0, .ref (G.2.2.2 169)), (1, kI x1), (2, kI x2), (3, kI x3), (4, kI (x4 + 1))]) [0, 1, 2, 3, 4] rfl ?_
                exact ih17 x3 (x4 + 1) _ (by omega) hI fx (by omega)
              · skip
                refine K_iload_n (pc := 62) (i := 36) rfl rfl ?_
                refine K_iload (pc := 63) (i := 37) rfl rfl ?_
                refine K_iadd (pc := 65) (i := 38) rfl ?_
                refine K_ist_n (pc := 66) (i := 39) (lo' := [(0, _), (1, _), (2, _), (3, _), (4, _), (5, _)]) rfl rfl rfl rfl ?_
                refine K_aload_n (pc := 67) (i := 40) rfl rfl ?_
                refine K_getR (pc := 68) (i := 41) (j := 4) (d := 180) rfl S_169 rfl (by decide) rfl fw_Seen_29 ?_
                refine K_iload_n (pc := 71) (i := 42) rfl rfl ?_
                refine K_aload_n (pc := 72) (i := 43) rfl rfl ?_
                refine K_getR (pc := 73) (i := 44) (j := 4) (d := 180) rfl S_169 rfl (by decide) rfl fw_Seen_29 ?_
                refine K_iload_n (pc := 76) (i := 45) rfl rfl ?_
                refine K_iald (pc := 77) (i := 46) rfl S_180 (by omega) (by omega) (by decide) ?_
                refine K_any (fun v77 r77 => ?_)
                refine K_iload (pc := 78) (i := 47) rfl rfl ?_
                refine K_mmin (pc := 80) (i := 48) rfl mw_Seen_39 (by omega) (by omega) (Nat.le_of_ble_eq_true rfl) ⟨Nat.le_of_ble_eq_true rfl, Nat.le_of_ble_eq_true rfl⟩ ⟨Nat.le_of_ble_eq_true rfl, Nat.le_of_ble_eq_true rfl⟩ ?_
                refine K_nm (fun v80 e80 => ?_)
                refine K_iast (pc := 83) (i := 49) rfl S_180 (by omega) (by omega) (by decide) ?_
                have hI := st_free (c := 180) hI (by decide +kernel) (by decide) (i := (x1).toNat) (v := v80)
                have fx := Fx.st (c := 180) (i := (x1).toNat) (v := v80) fx (by first | (dsimp only; omega) | omega | exact not_false)
                refine K_aload_n (pc := 84) (i := 50) rfl rfl ?_
                refine K_getR (pc := 85) (i := 51) (j := 5) (d := 181) rfl S_169 rfl (by decide) rfl fw_Seen_32 ?_
                refine K_iload_n (pc := 88) (i := 52) rfl rfl ?_
                refine K_aload_n (pc := 89) (i := 53) rfl rfl ?_
                refine K_getR (pc := 90) (i := 54) (j := 5) (d := 181) rfl S_169 rfl (by decide) rfl fw_Seen_32 ?_
                refine K_iload_n (pc := 93) (i := 55) rfl rfl ?_
                refine K_iald (pc := 94) (i := 56) rfl S_181 (by omega) (by omega) (by decide) ?_
                refine K_any (fun v94 r94 => ?_)
                refine K_iload (pc := 95) (i := 57) rfl rfl ?_
                refine K_mmax (pc := 97) (i := 58) rfl mw_Seen_45 (by omega) (by omega) (Nat.le_of_ble_eq_true rfl) ⟨Nat.le_of_ble_eq_true rfl, Nat.le_of_ble_eq_true rfl⟩ ⟨Nat.le_of_ble_eq_true rfl, Nat.le_of_ble_eq_true rfl⟩ ?_
                refine K_nm (fun v97 e97 => ?_)
                refine K_iast (pc := 100) (i := 59) rfl S_181 (by omega) (by omega) (by decide) ?_
                have hI := st_free (c := 181) hI (by decide +kernel) (by decide) (i := (x1).toNat) (v := v97)
                have fx := Fx.st (c := 181) (i := (x1).toNat) (v := v97) fx (by first | (dsimp only; omega) | omega | exact not_false)
                refine K_inc (pc := 101) (i := 60) (q := 4) (lo' := [(0, _), (1, _), (2, _), (3, _), (4, _), (5, _)]) rfl rfl rfl rfl rfl ?_
                refine K_goto 17 (pc := 104) (i := 61) rfl rfl ?_
                refine K_drop (lo' := [(0, .ref (G.2.2.2 169)), (1, kI x1), (2, kI x2), (3, kI (x3 + v48)), (4, kI (x4 + 1))]) [0, 1, 2, 3, 4] rfl ?_
                exact ih17 (x3 + v48) (x4 + 1) _ (by omega) hI fx (by omega)
      exact L17 _ 0 1 _ (Nat.lt_succ_self _) hI fx (by omega)
    · skip
      refine K_iconst (pc := 10) (i := 6) rfl ?_
      refine K_any (fun v11 r11 => ?_)
      exact K_retI (pc := 11) (i := 7) rfl rfl ⟨fx, ⟨hI, by omega⟩⟩
set_option maxHeartbeats 4000000 in
set_option maxRecDepth 100000 in
theorem c_Seen_rowsFrom2 (G : kG) {g : kGh} {h : kH} {x1 : Int} {x2 : Int} (s1 : 2 ≤ x1 ∧ x1 ≤ 4) (s2 : kR x2) (hI : Gd g h) : Ctr G y_Seen_rowsFrom X_Seen_rowsFrom 8 [.ref (G.2.2.2 169), kI x1, kI x2] h (kQi (fun z h' => Fx (fun c i => 173 ≤ c ∧ c ≤ 181) h h' ∧ (Gd g h' ∧ kR z))) := by
  refine Ctr.ofK (by decide) rfl T_Seen_rowsFrom (Nat.le_of_ble_eq_true rfl) (lo := [(0, .ref (G.2.2.2 169)), (1, kI x1), (2, kI x2)]) rfl ?_
  have fx : Fx (fun c i => 173 ≤ c ∧ c ≤ 181) h h := Fx.rf
  refine K_iload_n (pc := 0) (i := 0) rfl rfl ?_
  refine K_iload_n (pc := 1) (i := 1) rfl rfl ?_
  first | refine K_icmp_ge 10 (pc := 2) (i := 2) rfl rfl (by omega) (by omega) (fun b2 => ?_) (fun b2 => ?_) | refine K_icmp_ge_an 10 (pc := 2) (i := 2) rfl rfl (fun b2 => ?_) (fun b2 => ?_)
  · skip
    refine K_iconst (pc := 10) (i := 6) rfl ?_
    refine K_any (fun v11 r11 => ?_)
    exact K_retI (pc := 11) (i := 7) rfl rfl ⟨fx, ⟨hI, by omega⟩⟩
  · skip
    refine K_iload_n (pc := 5) (i := 3) rfl rfl ?_
    refine K_iconst (pc := 6) (i := 4) rfl ?_
    first | refine K_icmp_lt 12 (pc := 7) (i := 5) rfl rfl (by omega) (by omega) (fun b7 => ?_) (fun b7 => ?_) | refine K_icmp_lt_an 12 (pc := 7) (i := 5) rfl rfl (fun b7 => ?_) (fun b7 => ?_)
    · skip
      refine K_iconst (pc := 12) (i := 8) rfl ?_
      refine K_ist_n (pc := 13) (i := 9) (lo' := [(0, _), (1, _), (2, _), (3, _)]) rfl rfl rfl rfl ?_
      refine K_iconst (pc := 14) (i := 10) rfl ?_
      refine K_ist (pc := 15) (i := 11) (lo' := [(0, _), (1, _), (2, _), (3, _), (4, _)]) rfl rfl rfl rfl ?_
      have L17 : ∀ (n : Nat) (x3 : Int) (x4 : Int) (ha : kH), (10 - x4).toNat < n → (Gd g ha) → (Fx (fun c i => 173 ≤ c ∧ c ≤ 181) h ha) → (1 ≤ x4 ∧ x4 ≤ 10) → K X_Seen_rowsFrom G (kZm G 8 (kQi (fun z h' => Fx (fun c i => 173 ≤ c ∧ c ≤ 181) h h' ∧ (Gd g h' ∧ kR z)))) 17 [(0, .ref (G.2.2.2 169)), (1, kI x1), (2, kI x2), (3, kI x3), (4, kI x4)] [] ha := by
        intro n
        induction n with
        | zero => intro x3 x4 ha hm; exact absurd hm (Nat.not_lt_zero _)
        | succ n ih17 =>
          intro x3 x4 ha hm17 hI fx hV17
          refine K_iload (pc := 17) (i := 12) rfl rfl ?_
          refine K_bipush (pc := 19) (i := 13) rfl rfl ?_
          first | refine K_icmp_gt 107 (pc := 21) (i := 14) rfl rfl (by omega) (by omega) (fun b21 => ?_) (fun b21 => ?_) | refine K_icmp_gt_an 107 (pc := 21) (i := 14) rfl rfl (fun b21 => ?_) (fun b21 => ?_)
          · skip
            refine K_iload_n (pc := 107) (i := 62) rfl rfl ?_
            refine K_any (fun v108 r108 => ?_)
            exact K_retI (pc := 108) (i := 63) rfl rfl ⟨fx, ⟨hI, by omega⟩⟩
          · skip
            refine K_aload_n (pc := 24) (i := 15) rfl rfl ?_
            refine K_getR (pc := 25) (i := 16) (j := 3) (d := 173) rfl S_169 rfl (by decide) rfl fw_Seen_25 ?_
            refine K_getR (pc := 28) (i := 17) (j := 3) (d := 177) rfl (S_Fl fl173) rfl (by decide) rfl fw_Seen_59 ?_
            refine K_iload_n (pc := 31) (i := 18) rfl rfl ?_
            refine K_iload (pc := 32) (i := 19) rfl rfl ?_
            refine K_iast (pc := 34) (i := 20) rfl (S_Fl4 fl173) (by omega) (by omega) (by decide) ?_
            have hI := st_height hI fl173 (i := (x1).toNat) (v := x4) (by omega)
            have fx := Fx.st (c := 177) (i := (x1).toNat) (v := x4) fx (by first | (dsimp only; omega) | omega | exact not_false)
            refine K_aload_n (pc := 35) (i := 21) rfl rfl ?_
            refine K_iload_n (pc := 36) (i := 22) rfl rfl ?_
            refine K_cVI (pc := 37) (i := 23) rfl (c_Seen_agrees G (x1 := x1) (hI := hI) (s1 := by omega)) S_169 rfl (lv_Seen_62 rfl) rfl rfl rfl rfl rfl (fun v37 h37 q37 => ?_)
            obtain ⟨eh, r37⟩ := q37
            rw [eh]; clear eh
            first | refine K_if_eq 54 (pc := 40) (i := 24) rfl rfl (by omega) (fun b40 => ?_) (fun b40 => ?_) | refine K_if_eq_an 54 (pc := 40) (i := 24) rfl rfl (fun b40 => ?_) (fun b40 => ?_)
            · skip
              refine K_iconst (pc := 54) (i := 32) rfl ?_
              refine K_ist (pc := 55) (i := 33) (lo' := [(0, _), (1, _), (2, _), (3, _), (4, _), (5, _)]) rfl rfl rfl rfl ?_
              refine K_iload (pc := 57) (i := 34) rfl rfl ?_
              refine K_if_le 101 (pc := 59) (i := 35) rfl rfl (by omega) (fun _ => ?_) (fun b59 => False.elim (by omega))
              refine K_inc (pc := 101) (i := 60) (q := 4) (lo' := [(0, _), (1, _), (2, _), (3, _), (4, _), (5, _)]) rfl rfl rfl rfl rfl ?_
              refine K_goto 17 (pc := 104) (i := 61) rfl rfl ?_
              refine K_drop (lo' := [(0, .ref (G.2.2.2 169)), (1, kI x1), (2, kI x2), (3, kI x3), (4, kI (x4 + 1))]) [0, 1, 2, 3, 4] rfl ?_
              exact ih17 x3 (x4 + 1) _ (by omega) hI fx (by omega)
            · skip
              refine K_aload_n (pc := 43) (i := 25) rfl rfl ?_
              refine K_iload_n (pc := 44) (i := 26) rfl rfl ?_
              refine K_iconst (pc := 45) (i := 27) rfl ?_
              refine K_iadd (pc := 46) (i := 28) rfl ?_
              refine K_iload_n (pc := 47) (i := 29) rfl rfl ?_
              refine K_cSI (pc := 48) (i := 30) rfl (c_Seen_rowsFrom3 G (x1 := x1 + 1) (x2 := x2) (hI := hI) (s1 := by omega) (s2 := by omega)) (ls_Seen_55 rfl) rfl rfl rfl rfl (fun v48 h48 q48 => ?_)
              obtain ⟨fx48, q48⟩ := q48
              obtain ⟨hI, r48⟩ := q48
              have fx := fx.tr fx48 (fun c i q => (by first | (dsimp only at q ⊢; omega) | omega))
              refine K_goto 55 (pc := 51) (i := 31) rfl rfl ?_
              refine K_ist (pc := 55) (i := 33) (lo' := [(0, _), (1, _), (2, _), (3, _), (4, _), (5, _)]) rfl rfl rfl rfl ?_
              refine K_iload (pc := 57) (i := 34) rfl rfl ?_
              first | refine K_if_le 101 (pc := 59) (i := 35) rfl rfl (by omega) (fun b59 => ?_) (fun b59 => ?_) | refine K_if_le_an 101 (pc := 59) (i := 35) rfl rfl (fun b59 => ?_) (fun b59 => ?_)
              · skip
                refine K_inc (pc := 101) (i := 60) (q := 4) (lo' := [(0, _), (1, _), (2, _), (3, _), (4, _), (5, _)]) rfl rfl rfl rfl rfl ?_
                refine K_goto 17 (pc := 104) (i := 61) rfl rfl ?_
                refine K_drop (lo' := [(0, .ref (G.2.2.2 169)), (1, kI x1), (2, kI x2), (3, kI x3), (4, kI (x4 + 1))]) [0, 1, 2, 3, 4] rfl ?_
                exact ih17 x3 (x4 + 1) _ (by omega) hI fx (by omega)
              · skip
                refine K_iload_n (pc := 62) (i := 36) rfl rfl ?_
                refine K_iload (pc := 63) (i := 37) rfl rfl ?_
                refine K_iadd (pc := 65) (i := 38) rfl ?_
                refine K_ist_n (pc := 66) (i := 39) (lo' := [(0, _), (1, _), (2, _), (3, _), (4, _), (5, _)]) rfl rfl rfl rfl ?_
                refine K_aload_n (pc := 67) (i := 40) rfl rfl ?_
                refine K_getR (pc := 68) (i := 41) (j := 4) (d := 180) rfl S_169 rfl (by decide) rfl fw_Seen_29 ?_
                refine K_iload_n (pc := 71) (i := 42) rfl rfl ?_
                refine K_aload_n (pc := 72) (i := 43) rfl rfl ?_
                refine K_getR (pc := 73) (i := 44) (j := 4) (d := 180) rfl S_169 rfl (by decide) rfl fw_Seen_29 ?_
                refine K_iload_n (pc := 76) (i := 45) rfl rfl ?_
                refine K_iald (pc := 77) (i := 46) rfl S_180 (by omega) (by omega) (by decide) ?_
                refine K_any (fun v77 r77 => ?_)
                refine K_iload (pc := 78) (i := 47) rfl rfl ?_
                refine K_mmin (pc := 80) (i := 48) rfl mw_Seen_39 (by omega) (by omega) (Nat.le_of_ble_eq_true rfl) ⟨Nat.le_of_ble_eq_true rfl, Nat.le_of_ble_eq_true rfl⟩ ⟨Nat.le_of_ble_eq_true rfl, Nat.le_of_ble_eq_true rfl⟩ ?_
                refine K_nm (fun v80 e80 => ?_)
                refine K_iast (pc := 83) (i := 49) rfl S_180 (by omega) (by omega) (by decide) ?_
                have hI := st_free (c := 180) hI (by decide +kernel) (by decide) (i := (x1).toNat) (v := v80)
                have fx := Fx.st (c := 180) (i := (x1).toNat) (v := v80) fx (by first | (dsimp only; omega) | omega | exact not_false)
                refine K_aload_n (pc := 84) (i := 50) rfl rfl ?_
                refine K_getR (pc := 85) (i := 51) (j := 5) (d := 181) rfl S_169 rfl (by decide) rfl fw_Seen_32 ?_
                refine K_iload_n (pc := 88) (i := 52) rfl rfl ?_
                refine K_aload_n (pc := 89) (i := 53) rfl rfl ?_
                refine K_getR (pc := 90) (i := 54) (j := 5) (d := 181) rfl S_169 rfl (by decide) rfl fw_Seen_32 ?_
                refine K_iload_n (pc := 93) (i := 55) rfl rfl ?_
                refine K_iald (pc := 94) (i := 56) rfl S_181 (by omega) (by omega) (by decide) ?_
                refine K_any (fun v94 r94 => ?_)
                refine K_iload (pc := 95) (i := 57) rfl rfl ?_
                refine K_mmax (pc := 97) (i := 58) rfl mw_Seen_45 (by omega) (by omega) (Nat.le_of_ble_eq_true rfl) ⟨Nat.le_of_ble_eq_true rfl, Nat.le_of_ble_eq_true rfl⟩ ⟨Nat.le_of_ble_eq_true rfl, Nat.le_of_ble_eq_true rfl⟩ ?_
                refine K_nm (fun v97 e97 => ?_)
                refine K_iast (pc := 100) (i := 59) rfl S_181 (by omega) (by omega) (by decide) ?_
                have hI := st_free (c := 181) hI (by decide +kernel) (by decide) (i := (x1).toNat) (v := v97)
                have fx := Fx.st (c := 181) (i := (x1).toNat) (v := v97) fx (by first | (dsimp only; omega) | omega | exact not_false)
                refine K_inc (pc := 101) (i := 60) (q := 4) (lo' := [(0, _), (1, _), (2, _), (3, _), (4, _), (5, _)]) rfl rfl rfl rfl rfl ?_
                refine K_goto 17 (pc := 104) (i := 61) rfl rfl ?_
                refine K_drop (lo' := [(0, .ref (G.2.2.2 169)), (1, kI x1), (2, kI x2), (3, kI (x3 + v48)), (4, kI (x4 + 1))]) [0, 1, 2, 3, 4] rfl ?_
                exact ih17 (x3 + v48) (x4 + 1) _ (by omega) hI fx (by omega)
      exact L17 _ 0 1 _ (Nat.lt_succ_self _) hI fx (by omega)
    · skip
      refine K_iconst (pc := 10) (i := 6) rfl ?_
      refine K_any (fun v11 r11 => ?_)
      exact K_retI (pc := 11) (i := 7) rfl rfl ⟨fx, ⟨hI, by omega⟩⟩
set_option maxHeartbeats 4000000 in
set_option maxRecDepth 100000 in
theorem c_Seen_rowsFrom1 (G : kG) {g : kGh} {h : kH} {x1 : Int} {x2 : Int} (s1 : 1 ≤ x1 ∧ x1 ≤ 4) (s2 : kR x2) (hI : Gd g h) : Ctr G y_Seen_rowsFrom X_Seen_rowsFrom 9 [.ref (G.2.2.2 169), kI x1, kI x2] h (kQi (fun z h' => Fx (fun c i => 173 ≤ c ∧ c ≤ 181) h h' ∧ (Gd g h' ∧ kR z))) := by
  refine Ctr.ofK (by decide) rfl T_Seen_rowsFrom (Nat.le_of_ble_eq_true rfl) (lo := [(0, .ref (G.2.2.2 169)), (1, kI x1), (2, kI x2)]) rfl ?_
  have fx : Fx (fun c i => 173 ≤ c ∧ c ≤ 181) h h := Fx.rf
  refine K_iload_n (pc := 0) (i := 0) rfl rfl ?_
  refine K_iload_n (pc := 1) (i := 1) rfl rfl ?_
  first | refine K_icmp_ge 10 (pc := 2) (i := 2) rfl rfl (by omega) (by omega) (fun b2 => ?_) (fun b2 => ?_) | refine K_icmp_ge_an 10 (pc := 2) (i := 2) rfl rfl (fun b2 => ?_) (fun b2 => ?_)
  · skip
    refine K_iconst (pc := 10) (i := 6) rfl ?_
    refine K_any (fun v11 r11 => ?_)
    exact K_retI (pc := 11) (i := 7) rfl rfl ⟨fx, ⟨hI, by omega⟩⟩
  · skip
    refine K_iload_n (pc := 5) (i := 3) rfl rfl ?_
    refine K_iconst (pc := 6) (i := 4) rfl ?_
    first | refine K_icmp_lt 12 (pc := 7) (i := 5) rfl rfl (by omega) (by omega) (fun b7 => ?_) (fun b7 => ?_) | refine K_icmp_lt_an 12 (pc := 7) (i := 5) rfl rfl (fun b7 => ?_) (fun b7 => ?_)
    · skip
      refine K_iconst (pc := 12) (i := 8) rfl ?_
      refine K_ist_n (pc := 13) (i := 9) (lo' := [(0, _), (1, _), (2, _), (3, _)]) rfl rfl rfl rfl ?_
      refine K_iconst (pc := 14) (i := 10) rfl ?_
      refine K_ist (pc := 15) (i := 11) (lo' := [(0, _), (1, _), (2, _), (3, _), (4, _)]) rfl rfl rfl rfl ?_
      have L17 : ∀ (n : Nat) (x3 : Int) (x4 : Int) (ha : kH), (10 - x4).toNat < n → (Gd g ha) → (Fx (fun c i => 173 ≤ c ∧ c ≤ 181) h ha) → (1 ≤ x4 ∧ x4 ≤ 10) → K X_Seen_rowsFrom G (kZm G 9 (kQi (fun z h' => Fx (fun c i => 173 ≤ c ∧ c ≤ 181) h h' ∧ (Gd g h' ∧ kR z)))) 17 [(0, .ref (G.2.2.2 169)), (1, kI x1), (2, kI x2), (3, kI x3), (4, kI x4)] [] ha := by
        intro n
        induction n with
        | zero => intro x3 x4 ha hm; exact absurd hm (Nat.not_lt_zero _)
        | succ n ih17 =>
          intro x3 x4 ha hm17 hI fx hV17
          refine K_iload (pc := 17) (i := 12) rfl rfl ?_
          refine K_bipush (pc := 19) (i := 13) rfl rfl ?_
          first | refine K_icmp_gt 107 (pc := 21) (i := 14) rfl rfl (by omega) (by omega) (fun b21 => ?_) (fun b21 => ?_) | refine K_icmp_gt_an 107 (pc := 21) (i := 14) rfl rfl (fun b21 => ?_) (fun b21 => ?_)
          · skip
            refine K_iload_n (pc := 107) (i := 62) rfl rfl ?_
            refine K_any (fun v108 r108 => ?_)
            exact K_retI (pc := 108) (i := 63) rfl rfl ⟨fx, ⟨hI, by omega⟩⟩
          · skip
            refine K_aload_n (pc := 24) (i := 15) rfl rfl ?_
            refine K_getR (pc := 25) (i := 16) (j := 3) (d := 173) rfl S_169 rfl (by decide) rfl fw_Seen_25 ?_
            refine K_getR (pc := 28) (i := 17) (j := 3) (d := 177) rfl (S_Fl fl173) rfl (by decide) rfl fw_Seen_59 ?_
            refine K_iload_n (pc := 31) (i := 18) rfl rfl ?_
            refine K_iload (pc := 32) (i := 19) rfl rfl ?_
            refine K_iast (pc := 34) (i := 20) rfl (S_Fl4 fl173) (by omega) (by omega) (by decide) ?_
            have hI := st_height hI fl173 (i := (x1).toNat) (v := x4) (by omega)
            have fx := Fx.st (c := 177) (i := (x1).toNat) (v := x4) fx (by first | (dsimp only; omega) | omega | exact not_false)
            refine K_aload_n (pc := 35) (i := 21) rfl rfl ?_
            refine K_iload_n (pc := 36) (i := 22) rfl rfl ?_
            refine K_cVI (pc := 37) (i := 23) rfl (c_Seen_agrees G (x1 := x1) (hI := hI) (s1 := by omega)) S_169 rfl (lv_Seen_62 rfl) rfl rfl rfl rfl rfl (fun v37 h37 q37 => ?_)
            obtain ⟨eh, r37⟩ := q37
            rw [eh]; clear eh
            first | refine K_if_eq 54 (pc := 40) (i := 24) rfl rfl (by omega) (fun b40 => ?_) (fun b40 => ?_) | refine K_if_eq_an 54 (pc := 40) (i := 24) rfl rfl (fun b40 => ?_) (fun b40 => ?_)
            · skip
              refine K_iconst (pc := 54) (i := 32) rfl ?_
              refine K_ist (pc := 55) (i := 33) (lo' := [(0, _), (1, _), (2, _), (3, _), (4, _), (5, _)]) rfl rfl rfl rfl ?_
              refine K_iload (pc := 57) (i := 34) rfl rfl ?_
              refine K_if_le 101 (pc := 59) (i := 35) rfl rfl (by omega) (fun _ => ?_) (fun b59 => False.elim (by omega))
              refine K_inc (pc := 101) (i := 60) (q := 4) (lo' := [(0, _), (1, _), (2, _), (3, _), (4, _), (5, _)]) rfl rfl rfl rfl rfl ?_
              refine K_goto 17 (pc := 104) (i := 61) rfl rfl ?_
              refine K_drop (lo' := [(0, .ref (G.2.2.2 169)), (1, kI x1), (2, kI x2), (3, kI x3), (4, kI (x4 + 1))]) [0, 1, 2, 3, 4] rfl ?_
              exact ih17 x3 (x4 + 1) _ (by omega) hI fx (by omega)
            · skip
              refine K_aload_n (pc := 43) (i := 25) rfl rfl ?_
              refine K_iload_n (pc := 44) (i := 26) rfl rfl ?_
              refine K_iconst (pc := 45) (i := 27) rfl ?_
              refine K_iadd (pc := 46) (i := 28) rfl ?_
              refine K_iload_n (pc := 47) (i := 29) rfl rfl ?_
              refine K_cSI (pc := 48) (i := 30) rfl (c_Seen_rowsFrom2 G (x1 := x1 + 1) (x2 := x2) (hI := hI) (s1 := by omega) (s2 := by omega)) (ls_Seen_55 rfl) rfl rfl rfl rfl (fun v48 h48 q48 => ?_)
              obtain ⟨fx48, q48⟩ := q48
              obtain ⟨hI, r48⟩ := q48
              have fx := fx.tr fx48 (fun c i q => (by first | (dsimp only at q ⊢; omega) | omega))
              refine K_goto 55 (pc := 51) (i := 31) rfl rfl ?_
              refine K_ist (pc := 55) (i := 33) (lo' := [(0, _), (1, _), (2, _), (3, _), (4, _), (5, _)]) rfl rfl rfl rfl ?_
              refine K_iload (pc := 57) (i := 34) rfl rfl ?_
              first | refine K_if_le 101 (pc := 59) (i := 35) rfl rfl (by omega) (fun b59 => ?_) (fun b59 => ?_) | refine K_if_le_an 101 (pc := 59) (i := 35) rfl rfl (fun b59 => ?_) (fun b59 => ?_)
              · skip
                refine K_inc (pc := 101) (i := 60) (q := 4) (lo' := [(0, _), (1, _), (2, _), (3, _), (4, _), (5, _)]) rfl rfl rfl rfl rfl ?_
                refine K_goto 17 (pc := 104) (i := 61) rfl rfl ?_
                refine K_drop (lo' := [(0, .ref (G.2.2.2 169)), (1, kI x1), (2, kI x2), (3, kI x3), (4, kI (x4 + 1))]) [0, 1, 2, 3, 4] rfl ?_
                exact ih17 x3 (x4 + 1) _ (by omega) hI fx (by omega)
              · skip
                refine K_iload_n (pc := 62) (i := 36) rfl rfl ?_
                refine K_iload (pc := 63) (i := 37) rfl rfl ?_
                refine K_iadd (pc := 65) (i := 38) rfl ?_
                refine K_ist_n (pc := 66) (i := 39) (lo' := [(0, _), (1, _), (2, _), (3, _), (4, _), (5, _)]) rfl rfl rfl rfl ?_
                refine K_aload_n (pc := 67) (i := 40) rfl rfl ?_
                refine K_getR (pc := 68) (i := 41) (j := 4) (d := 180) rfl S_169 rfl (by decide) rfl fw_Seen_29 ?_
                refine K_iload_n (pc := 71) (i := 42) rfl rfl ?_
                refine K_aload_n (pc := 72) (i := 43) rfl rfl ?_
                refine K_getR (pc := 73) (i := 44) (j := 4) (d := 180) rfl S_169 rfl (by decide) rfl fw_Seen_29 ?_
                refine K_iload_n (pc := 76) (i := 45) rfl rfl ?_
                refine K_iald (pc := 77) (i := 46) rfl S_180 (by omega) (by omega) (by decide) ?_
                refine K_any (fun v77 r77 => ?_)
                refine K_iload (pc := 78) (i := 47) rfl rfl ?_
                refine K_mmin (pc := 80) (i := 48) rfl mw_Seen_39 (by omega) (by omega) (Nat.le_of_ble_eq_true rfl) ⟨Nat.le_of_ble_eq_true rfl, Nat.le_of_ble_eq_true rfl⟩ ⟨Nat.le_of_ble_eq_true rfl, Nat.le_of_ble_eq_true rfl⟩ ?_
                refine K_nm (fun v80 e80 => ?_)
                refine K_iast (pc := 83) (i := 49) rfl S_180 (by omega) (by omega) (by decide) ?_
                have hI := st_free (c := 180) hI (by decide +kernel) (by decide) (i := (x1).toNat) (v := v80)
                have fx := Fx.st (c := 180) (i := (x1).toNat) (v := v80) fx (by first | (dsimp only; omega) | omega | exact not_false)
                refine K_aload_n (pc := 84) (i := 50) rfl rfl ?_
                refine K_getR (pc := 85) (i := 51) (j := 5) (d := 181) rfl S_169 rfl (by decide) rfl fw_Seen_32 ?_
                refine K_iload_n (pc := 88) (i := 52) rfl rfl ?_
                refine K_aload_n (pc := 89) (i := 53) rfl rfl ?_
                refine K_getR (pc := 90) (i := 54) (j := 5) (d := 181) rfl S_169 rfl (by decide) rfl fw_Seen_32 ?_
                refine K_iload_n (pc := 93) (i := 55) rfl rfl ?_
                refine K_iald (pc := 94) (i := 56) rfl S_181 (by omega) (by omega) (by decide) ?_
                refine K_any (fun v94 r94 => ?_)
                refine K_iload (pc := 95) (i := 57) rfl rfl ?_
                refine K_mmax (pc := 97) (i := 58) rfl mw_Seen_45 (by omega) (by omega) (Nat.le_of_ble_eq_true rfl) ⟨Nat.le_of_ble_eq_true rfl, Nat.le_of_ble_eq_true rfl⟩ ⟨Nat.le_of_ble_eq_true rfl, Nat.le_of_ble_eq_true rfl⟩ ?_
                refine K_nm (fun v97 e97 => ?_)
                refine K_iast (pc := 100) (i := 59) rfl S_181 (by omega) (by omega) (by decide) ?_
                have hI := st_free (c := 181) hI (by decide +kernel) (by decide) (i := (x1).toNat) (v := v97)
                have fx := Fx.st (c := 181) (i := (x1).toNat) (v := v97) fx (by first | (dsimp only; omega) | omega | exact not_false)
                refine K_inc (pc := 101) (i := 60) (q := 4) (lo' := [(0, _), (1, _), (2, _), (3, _), (4, _), (5, _)]) rfl rfl rfl rfl rfl ?_
                refine K_goto 17 (pc := 104) (i := 61) rfl rfl ?_
                refine K_drop (lo' := [(0, .ref (G.2.2.2 169)), (1, kI x1), (2, kI x2), (3, kI (x3 + v48)), (4, kI (x4 + 1))]) [0, 1, 2, 3, 4] rfl ?_
                exact ih17 (x3 + v48) (x4 + 1) _ (by omega) hI fx (by omega)
      exact L17 _ 0 1 _ (Nat.lt_succ_self _) hI fx (by omega)
    · skip
      refine K_iconst (pc := 10) (i := 6) rfl ?_
      refine K_any (fun v11 r11 => ?_)
      exact K_retI (pc := 11) (i := 7) rfl rfl ⟨fx, ⟨hI, by omega⟩⟩
set_option maxHeartbeats 4000000 in
set_option maxRecDepth 100000 in
theorem c_Seen_rowsFrom0 (G : kG) {g : kGh} {h : kH} {x1 : Int} {x2 : Int} (s1 : 0 ≤ x1 ∧ x1 ≤ 4) (s2 : kR x2) (hI : Gd g h) : Ctr G y_Seen_rowsFrom X_Seen_rowsFrom 10 [.ref (G.2.2.2 169), kI x1, kI x2] h (kQi (fun z h' => Fx (fun c i => 173 ≤ c ∧ c ≤ 181) h h' ∧ (Gd g h' ∧ kR z))) := by
  refine Ctr.ofK (by decide) rfl T_Seen_rowsFrom (Nat.le_of_ble_eq_true rfl) (lo := [(0, .ref (G.2.2.2 169)), (1, kI x1), (2, kI x2)]) rfl ?_
  have fx : Fx (fun c i => 173 ≤ c ∧ c ≤ 181) h h := Fx.rf
  refine K_iload_n (pc := 0) (i := 0) rfl rfl ?_
  refine K_iload_n (pc := 1) (i := 1) rfl rfl ?_
  first | refine K_icmp_ge 10 (pc := 2) (i := 2) rfl rfl (by omega) (by omega) (fun b2 => ?_) (fun b2 => ?_) | refine K_icmp_ge_an 10 (pc := 2) (i := 2) rfl rfl (fun b2 => ?_) (fun b2 => ?_)
  · skip
    refine K_iconst (pc := 10) (i := 6) rfl ?_
    refine K_any (fun v11 r11 => ?_)
    exact K_retI (pc := 11) (i := 7) rfl rfl ⟨fx, ⟨hI, by omega⟩⟩
  · skip
    refine K_iload_n (pc := 5) (i := 3) rfl rfl ?_
    refine K_iconst (pc := 6) (i := 4) rfl ?_
    first | refine K_icmp_lt 12 (pc := 7) (i := 5) rfl rfl (by omega) (by omega) (fun b7 => ?_) (fun b7 => ?_) | refine K_icmp_lt_an 12 (pc := 7) (i := 5) rfl rfl (fun b7 => ?_) (fun b7 => ?_)
    · skip
      refine K_iconst (pc := 12) (i := 8) rfl ?_
      refine K_ist_n (pc := 13) (i := 9) (lo' := [(0, _), (1, _), (2, _), (3, _)]) rfl rfl rfl rfl ?_
      refine K_iconst (pc := 14) (i := 10) rfl ?_
      refine K_ist (pc := 15) (i := 11) (lo' := [(0, _), (1, _), (2, _), (3, _), (4, _)]) rfl rfl rfl rfl ?_
      have L17 : ∀ (n : Nat) (x3 : Int) (x4 : Int) (ha : kH), (10 - x4).toNat < n → (Gd g ha) → (Fx (fun c i => 173 ≤ c ∧ c ≤ 181) h ha) → (1 ≤ x4 ∧ x4 ≤ 10) → K X_Seen_rowsFrom G (kZm G 10 (kQi (fun z h' => Fx (fun c i => 173 ≤ c ∧ c ≤ 181) h h' ∧ (Gd g h' ∧ kR z)))) 17 [(0, .ref (G.2.2.2 169)), (1, kI x1), (2, kI x2), (3, kI x3), (4, kI x4)] [] ha := by
        intro n
        induction n with
        | zero => intro x3 x4 ha hm; exact absurd hm (Nat.not_lt_zero _)
        | succ n ih17 =>
          intro x3 x4 ha hm17 hI fx hV17
          refine K_iload (pc := 17) (i := 12) rfl rfl ?_
          refine K_bipush (pc := 19) (i := 13) rfl rfl ?_
          first | refine K_icmp_gt 107 (pc := 21) (i := 14) rfl rfl (by omega) (by omega) (fun b21 => ?_) (fun b21 => ?_) | refine K_icmp_gt_an 107 (pc := 21) (i := 14) rfl rfl (fun b21 => ?_) (fun b21 => ?_)
          · skip
            refine K_iload_n (pc := 107) (i := 62) rfl rfl ?_
            refine K_any (fun v108 r108 => ?_)
            exact K_retI (pc := 108) (i := 63) rfl rfl ⟨fx, ⟨hI, by omega⟩⟩
          · skip
            refine K_aload_n (pc := 24) (i := 15) rfl rfl ?_
            refine K_getR (pc := 25) (i := 16) (j := 3) (d := 173) rfl S_169 rfl (by decide) rfl fw_Seen_25 ?_
            refine K_getR (pc := 28) (i := 17) (j := 3) (d := 177) rfl (S_Fl fl173) rfl (by decide) rfl fw_Seen_59 ?_
            refine K_iload_n (pc := 31) (i := 18) rfl rfl ?_
            refine K_iload (pc := 32) (i := 19) rfl rfl ?_
            refine K_iast (pc := 34) (i := 20) rfl (S_Fl4 fl173) (by omega) (by omega) (by decide) ?_
            have hI := st_height hI fl173 (i := (x1).toNat) (v := x4) (by omega)
            have fx := Fx.st (c := 177) (i := (x1).toNat) (v := x4) fx (by first | (dsimp only; omega) | omega | exact not_false)
            refine K_aload_n (pc := 35) (i := 21) rfl rfl ?_
            refine K_iload_n (pc := 36) (i := 22) rfl rfl ?_
            refine K_cVI (pc := 37) (i := 23) rfl (c_Seen_agrees G (x1 := x1) (hI := hI) (s1 := by omega)) S_169 rfl (lv_Seen_62 rfl) rfl rfl rfl rfl rfl (fun v37 h37 q37 => ?_)
            obtain ⟨eh, r37⟩ := q37
            rw [eh]; clear eh
            first | refine K_if_eq 54 (pc := 40) (i := 24) rfl rfl (by omega) (fun b40 => ?_) (fun b40 => ?_) | refine K_if_eq_an 54 (pc := 40) (i := 24) rfl rfl (fun b40 => ?_) (fun b40 => ?_)
            · skip
              refine K_iconst (pc := 54) (i := 32) rfl ?_
              refine K_ist (pc := 55) (i := 33) (lo' := [(0, _), (1, _), (2, _), (3, _), (4, _), (5, _)]) rfl rfl rfl rfl ?_
              refine K_iload (pc := 57) (i := 34) rfl rfl ?_
              refine K_if_le 101 (pc := 59) (i := 35) rfl rfl (by omega) (fun _ => ?_) (fun b59 => False.elim (by omega))
              refine K_inc (pc := 101) (i := 60) (q := 4) (lo' := [(0, _), (1, _), (2, _), (3, _), (4, _), (5, _)]) rfl rfl rfl rfl rfl ?_
              refine K_goto 17 (pc := 104) (i := 61) rfl rfl ?_
              refine K_drop (lo' := [(0, .ref (G.2.2.2 169)), (1, kI x1), (2, kI x2), (3, kI x3), (4, kI (x4 + 1))]) [0, 1, 2, 3, 4] rfl ?_
              exact ih17 x3 (x4 + 1) _ (by omega) hI fx (by omega)
            · skip
              refine K_aload_n (pc := 43) (i := 25) rfl rfl ?_
              refine K_iload_n (pc := 44) (i := 26) rfl rfl ?_
              refine K_iconst (pc := 45) (i := 27) rfl ?_
              refine K_iadd (pc := 46) (i := 28) rfl ?_
              refine K_iload_n (pc := 47) (i := 29) rfl rfl ?_
              refine K_cSI (pc := 48) (i := 30) rfl (c_Seen_rowsFrom1 G (x1 := x1 + 1) (x2 := x2) (hI := hI) (s1 := by omega) (s2 := by omega)) (ls_Seen_55 rfl) rfl rfl rfl rfl (fun v48 h48 q48 => ?_)
              obtain ⟨fx48, q48⟩ := q48
              obtain ⟨hI, r48⟩ := q48
              have fx := fx.tr fx48 (fun c i q => (by first | (dsimp only at q ⊢; omega) | omega))
              refine K_goto 55 (pc := 51) (i := 31) rfl rfl ?_
              refine K_ist (pc := 55) (i := 33) (lo' := [(0, _), (1, _), (2, _), (3, _), (4, _), (5, _)]) rfl rfl rfl rfl ?_
              refine K_iload (pc := 57) (i := 34) rfl rfl ?_
              first | refine K_if_le 101 (pc := 59) (i := 35) rfl rfl (by omega) (fun b59 => ?_) (fun b59 => ?_) | refine K_if_le_an 101 (pc := 59) (i := 35) rfl rfl (fun b59 => ?_) (fun b59 => ?_)
              · skip
                refine K_inc (pc := 101) (i := 60) (q := 4) (lo' := [(0, _), (1, _), (2, _), (3, _), (4, _), (5, _)]) rfl rfl rfl rfl rfl ?_
                refine K_goto 17 (pc := 104) (i := 61) rfl rfl ?_
                refine K_drop (lo' := [(0, .ref (G.2.2.2 169)), (1, kI x1), (2, kI x2), (3, kI x3), (4, kI (x4 + 1))]) [0, 1, 2, 3, 4] rfl ?_
                exact ih17 x3 (x4 + 1) _ (by omega) hI fx (by omega)
              · skip
                refine K_iload_n (pc := 62) (i := 36) rfl rfl ?_
                refine K_iload (pc := 63) (i := 37) rfl rfl ?_
                refine K_iadd (pc := 65) (i := 38) rfl ?_
                refine K_ist_n (pc := 66) (i := 39) (lo' := [(0, _), (1, _), (2, _), (3, _), (4, _), (5, _)]) rfl rfl rfl rfl ?_
                refine K_aload_n (pc := 67) (i := 40) rfl rfl ?_
                refine K_getR (pc := 68) (i := 41) (j := 4) (d := 180) rfl S_169 rfl (by decide) rfl fw_Seen_29 ?_
                refine K_iload_n (pc := 71) (i := 42) rfl rfl ?_
                refine K_aload_n (pc := 72) (i := 43) rfl rfl ?_
                refine K_getR (pc := 73) (i := 44) (j := 4) (d := 180) rfl S_169 rfl (by decide) rfl fw_Seen_29 ?_
                refine K_iload_n (pc := 76) (i := 45) rfl rfl ?_
                refine K_iald (pc := 77) (i := 46) rfl S_180 (by omega) (by omega) (by decide) ?_
                refine K_any (fun v77 r77 => ?_)
                refine K_iload (pc := 78) (i := 47) rfl rfl ?_
                refine K_mmin (pc := 80) (i := 48) rfl mw_Seen_39 (by omega) (by omega) (Nat.le_of_ble_eq_true rfl) ⟨Nat.le_of_ble_eq_true rfl, Nat.le_of_ble_eq_true rfl⟩ ⟨Nat.le_of_ble_eq_true rfl, Nat.le_of_ble_eq_true rfl⟩ ?_
                refine K_nm (fun v80 e80 => ?_)
                refine K_iast (pc := 83) (i := 49) rfl S_180 (by omega) (by omega) (by decide) ?_
                have hI := st_free (c := 180) hI (by decide +kernel) (by decide) (i := (x1).toNat) (v := v80)
                have fx := Fx.st (c := 180) (i := (x1).toNat) (v := v80) fx (by first | (dsimp only; omega) | omega | exact not_false)
                refine K_aload_n (pc := 84) (i := 50) rfl rfl ?_
                refine K_getR (pc := 85) (i := 51) (j := 5) (d := 181) rfl S_169 rfl (by decide) rfl fw_Seen_32 ?_
                refine K_iload_n (pc := 88) (i := 52) rfl rfl ?_
                refine K_aload_n (pc := 89) (i := 53) rfl rfl ?_
                refine K_getR (pc := 90) (i := 54) (j := 5) (d := 181) rfl S_169 rfl (by decide) rfl fw_Seen_32 ?_
                refine K_iload_n (pc := 93) (i := 55) rfl rfl ?_
                refine K_iald (pc := 94) (i := 56) rfl S_181 (by omega) (by omega) (by decide) ?_
                refine K_any (fun v94 r94 => ?_)
                refine K_iload (pc := 95) (i := 57) rfl rfl ?_
                refine K_mmax (pc := 97) (i := 58) rfl mw_Seen_45 (by omega) (by omega) (Nat.le_of_ble_eq_true rfl) ⟨Nat.le_of_ble_eq_true rfl, Nat.le_of_ble_eq_true rfl⟩ ⟨Nat.le_of_ble_eq_true rfl, Nat.le_of_ble_eq_true rfl⟩ ?_
                refine K_nm (fun v97 e97 => ?_)
                refine K_iast (pc := 100) (i := 59) rfl S_181 (by omega) (by omega) (by decide) ?_
                have hI := st_free (c := 181) hI (by decide +kernel) (by decide) (i := (x1).toNat) (v := v97)
                have fx := Fx.st (c := 181) (i := (x1).toNat) (v := v97) fx (by first | (dsimp only; omega) | omega | exact not_false)
                refine K_inc (pc := 101) (i := 60) (q := 4) (lo' := [(0, _), (1, _), (2, _), (3, _), (4, _), (5, _)]) rfl rfl rfl rfl rfl ?_
                refine K_goto 17 (pc := 104) (i := 61) rfl rfl ?_
                refine K_drop (lo' := [(0, .ref (G.2.2.2 169)), (1, kI x1), (2, kI x2), (3, kI (x3 + v48)), (4, kI (x4 + 1))]) [0, 1, 2, 3, 4] rfl ?_
                exact ih17 (x3 + v48) (x4 + 1) _ (by omega) hI fx (by omega)
      exact L17 _ 0 1 _ (Nat.lt_succ_self _) hI fx (by omega)
    · skip
      refine K_iconst (pc := 10) (i := 6) rfl ?_
      refine K_any (fun v11 r11 => ?_)
      exact K_retI (pc := 11) (i := 7) rfl rfl ⟨fx, ⟨hI, by omega⟩⟩
set_option maxHeartbeats 4000000 in
set_option maxRecDepth 100000 in
theorem c_Seen_countRows (G : kG) {g : kGh} {h : kH} {f : Nat} (hf : f ∈ FL) (hr : f + 7 ≤ 160) (hI : Gd g h) : Ctr G y_Seen_countRows X_Seen_countRows 11 [.ref (G.2.2.2 169), .ref (G.2.2.2 f)] h (kQi (fun z h' => Fx (fun c i => 173 ≤ c ∧ c ≤ 181) h h' ∧ (Gd g h' ∧ kR z))) := by
  refine Ctr.ofK (by decide) rfl T_Seen_countRows (Nat.le_of_ble_eq_true rfl) (lo := [(0, .ref (G.2.2.2 169)), (1, .ref (G.2.2.2 f))]) rfl ?_
  have fx : Fx (fun c i => 173 ≤ c ∧ c ≤ 181) h h := Fx.rf
  refine K_aload_n (pc := 0) (i := 0) rfl rfl ?_
  refine K_getR (pc := 1) (i := 1) (j := 3) (d := 173) rfl S_169 rfl (by decide) rfl fw_Seen_25 ?_
  refine K_aload_n (pc := 4) (i := 2) rfl rfl ?_
  refine K_cVV (pc := 5) (i := 3) rfl (c_Fleet_copyFrom G (f := 173) (hf := fl173) (f2 := f) (hf2 := hf) (hI := hI) (dj := by omega)) (S_Fl fl173) rfl (lv_Seen_48 rfl) rfl rfl rfl rfl rfl (fun h5 q5 => ?_)
  obtain ⟨fx5, q5⟩ := q5
  obtain ⟨hI, fr5, fc5⟩ := q5
  have fx := fx.tr fx5 (fun c i q => (by first | (dsimp only at q ⊢; omega) | omega))
  refine K_iconst (pc := 8) (i := 4) rfl ?_
  refine K_ist_n (pc := 9) (i := 5) (lo' := [(0, _), (1, _), (2, _)]) rfl rfl rfl rfl ?_
  have L10 : ∀ (n : Nat) (x2 : Int) (ha : kH), (4 - x2).toNat < n → (Gd g ha) → (Fx (fun c i => 173 ≤ c ∧ c ≤ 181) h ha) → (0 ≤ x2 ∧ x2 ≤ 4) → K X_Seen_countRows G (kZm G 11 (kQi (fun z h' => Fx (fun c i => 173 ≤ c ∧ c ≤ 181) h h' ∧ (Gd g h' ∧ kR z)))) 10 [(0, .ref (G.2.2.2 169)), (1, .ref (G.2.2.2 f)), (2, kI x2)] [] ha := by
    intro n
    induction n with
    | zero => intro x2 ha hm; exact absurd hm (Nat.not_lt_zero _)
    | succ n ih10 =>
      intro x2 ha hm10 hI fx hV10
      refine K_iload_n (pc := 10) (i := 6) rfl rfl ?_
      refine K_iconst (pc := 11) (i := 7) rfl ?_
      first | refine K_icmp_ge 36 (pc := 12) (i := 8) rfl rfl (by omega) (by omega) (fun b12 => ?_) (fun b12 => ?_) | refine K_icmp_ge_an 36 (pc := 12) (i := 8) rfl rfl (fun b12 => ?_) (fun b12 => ?_)
      · skip
        refine K_aload_n (pc := 36) (i := 21) rfl rfl ?_
        refine K_iconst (pc := 37) (i := 22) rfl ?_
        refine K_iconst (pc := 38) (i := 23) rfl ?_
        refine K_aload_n (pc := 39) (i := 24) rfl rfl ?_
        refine K_getI (pc := 40) (i := 25) (j := 6) rfl (S_Fl hf) rfl (by decide) rfl fw_Seen_52 ?_
        refine K_nm (fun v40 e40 => ?_)
        have r40 := rd_kites hI hf
        rw [← e40] at r40
        refine K_mmin (pc := 43) (i := 26) rfl mw_Seen_39 (by omega) (by omega) (Nat.le_of_ble_eq_true rfl) ⟨Nat.le_of_ble_eq_true rfl, Nat.le_of_ble_eq_true rfl⟩ ⟨Nat.le_of_ble_eq_true rfl, Nat.le_of_ble_eq_true rfl⟩ ?_
        refine K_nm (fun v43 e43 => ?_)
        refine K_cSI (pc := 46) (i := 27) rfl (c_Seen_rowsFrom0 G (x1 := 0) (x2 := v43) (hI := hI) (s1 := by omega) (s2 := by omega)) (ls_Seen_55 rfl) rfl rfl rfl rfl (fun v46 h46 q46 => ?_)
        obtain ⟨fx46, q46⟩ := q46
        obtain ⟨hI, r46⟩ := q46
        have fx := fx.tr fx46 (fun c i q => (by first | (dsimp only at q ⊢; omega) | omega))
        exact K_retI (pc := 49) (i := 28) rfl rfl ⟨fx, ⟨hI, by omega⟩⟩
      · skip
        refine K_aload_n (pc := 15) (i := 9) rfl rfl ?_
        refine K_getR (pc := 16) (i := 10) (j := 4) (d := 180) rfl S_169 rfl (by decide) rfl fw_Seen_29 ?_
        refine K_iload_n (pc := 19) (i := 11) rfl rfl ?_
        refine K_bipush (pc := 20) (i := 12) rfl rfl ?_
        refine K_iast (pc := 22) (i := 13) rfl S_180 (by omega) (by omega) (by decide) ?_
        have hI := st_free (c := 180) hI (by decide +kernel) (by decide) (i := (x2).toNat) (v := 9)
        have fx := Fx.st (c := 180) (i := (x2).toNat) (v := 9) fx (by first | (dsimp only; omega) | omega | exact not_false)
        refine K_aload_n (pc := 23) (i := 14) rfl rfl ?_
        refine K_getR (pc := 24) (i := 15) (j := 5) (d := 181) rfl S_169 rfl (by decide) rfl fw_Seen_32 ?_
        refine K_iload_n (pc := 27) (i := 16) rfl rfl ?_
        refine K_iconst (pc := 28) (i := 17) rfl ?_
        refine K_iast (pc := 29) (i := 18) rfl S_181 (by omega) (by omega) (by decide) ?_
        have hI := st_free (c := 181) hI (by decide +kernel) (by decide) (i := (x2).toNat) (v := 1)
        have fx := Fx.st (c := 181) (i := (x2).toNat) (v := 1) fx (by first | (dsimp only; omega) | omega | exact not_false)
        refine K_inc (pc := 30) (i := 19) (q := 2) (lo' := [(0, _), (1, _), (2, _)]) rfl rfl rfl rfl rfl ?_
        refine K_goto 10 (pc := 33) (i := 20) rfl rfl ?_
        exact ih10 (x2 + 1) _ (by omega) hI fx (by omega)
  exact L10 _ 0 _ (Nat.lt_succ_self _) hI fx (by omega)
