set_option maxHeartbeats 4000000 in
set_option maxRecDepth 100000 in
theorem c_War_where (G : kG) {g : kGh} {h : kH} {x1 : Int} {x2 : Int} {x3 : Int} {x4 : Int} (s1 : kR x1) (s2 : kR x2) (s3 : kR x3) (s4 : kR x4) (hI : Gd g h) : Ctr G y_War_where X_War_where 13 [.ref (G.2.2.2 0), kI x1, kI x2, kI x3, kI x4] h (kQi (fun z h' => Fx (fun c i => False) h h' ∧ (Gd g h' ∧ True))) := by
  refine Ctr.ofK (by decide) rfl T_War_where (Nat.le_of_ble_eq_true rfl) (lo := [(0, .ref (G.2.2.2 0)), (1, kI x1), (2, kI x2), (3, kI x3), (4, kI x4)]) rfl ?_
  have fx : Fx (fun c i => False) h h := Fx.rf
  refine K_aload_n (pc := 0) (i := 0) rfl rfl ?_
  refine K_iload_n (pc := 1) (i := 1) rfl rfl ?_
  refine K_iload_n (pc := 2) (i := 2) rfl rfl ?_
  refine K_cVI (pc := 3) (i := 3) rfl (c_War_refusalOfPair G (x1 := x1) (x2 := x2) (hI := hI) (s1 := by omega) (s2 := by omega)) S_0 rfl (lv_War_170 rfl) rfl rfl rfl rfl rfl (fun v3 h3 q3 => ?_)
  obtain ⟨eh, r3⟩ := q3
  rw [eh]; clear eh
  refine K_ist (pc := 6) (i := 4) (lo' := [(0, _), (1, _), (2, _), (3, _), (4, _), (5, _)]) rfl rfl rfl rfl ?_
  refine K_iload (pc := 8) (i := 5) rfl rfl ?_
  first | refine K_if_eq 16 (pc := 10) (i := 6) rfl rfl (by omega) (fun b10 => ?_) (fun b10 => ?_) | refine K_if_eq_an 16 (pc := 10) (i := 6) rfl rfl (fun b10 => ?_) (fun b10 => ?_)
  · skip
    refine K_aload_n (pc := 16) (i := 9) rfl rfl ?_
    refine K_getR (pc := 17) (i := 10) (j := 1) (d := 3) rfl S_0 rfl (by decide) rfl fw_War_19 ?_
    refine K_getR (pc := 20) (i := 11) (j := 0) (d := 6) rfl (S_Sk sk3) rfl (by decide) rfl fw_War_88 ?_
    refine K_iload_n (pc := 23) (i := 12) rfl rfl ?_
    refine K_iload_n (pc := 24) (i := 13) rfl rfl ?_
    refine K_cVI (pc := 25) (i := 14) rfl (c_Fleet_meet G (f := 6) (hf := fl6) (x1 := x1) (x2 := x2) (hI := hI) (s1 := by omega) (s2 := by omega)) (S_Fl fl6) rfl (lv_War_174 rfl) rfl rfl rfl rfl rfl (fun v25 h25 q25 => ?_)
    obtain ⟨eh, r25⟩ := q25
    rw [eh]; clear eh
    first | refine K_if_ne 34 (pc := 28) (i := 15) rfl rfl (by omega) (fun b28 => ?_) (fun b28 => ?_) | refine K_if_ne_an 34 (pc := 28) (i := 15) rfl rfl (fun b28 => ?_) (fun b28 => ?_)
    · skip
      refine K_iload_n (pc := 34) (i := 18) rfl rfl ?_
      first | refine K_if_eq 53 (pc := 35) (i := 19) rfl rfl (by omega) (fun b35 => ?_) (fun b35 => ?_) | refine K_if_eq_an 53 (pc := 35) (i := 19) rfl rfl (fun b35 => ?_) (fun b35 => ?_)
      · skip
        refine K_aload_n (pc := 53) (i := 27) rfl rfl ?_
        refine K_getR (pc := 54) (i := 28) (j := 1) (d := 3) rfl S_0 rfl (by decide) rfl fw_War_19 ?_
        refine K_getR (pc := 57) (i := 29) (j := 0) (d := 6) rfl (S_Sk sk3) rfl (by decide) rfl fw_War_88 ?_
        refine K_iload_n (pc := 60) (i := 30) rfl rfl ?_
        refine K_iload_n (pc := 61) (i := 31) rfl rfl ?_
        refine K_cVI (pc := 62) (i := 32) rfl (c_Fleet_meetingX G (f := 6) (hf := fl6) (x1 := x1) (x2 := x2) (hI := hI) (s1 := by omega) (s2 := by omega)) (S_Fl fl6) rfl (lv_War_181 rfl) rfl rfl rfl rfl rfl (fun v62 h62 q62 => ?_)
        obtain ⟨eh, r62⟩ := q62
        rw [eh]; clear eh
        refine K_ist (pc := 65) (i := 33) (lo' := [(0, _), (1, _), (2, _), (3, _), (4, _), (5, _), (6, _)]) rfl rfl rfl rfl ?_
        refine K_aload_n (pc := 67) (i := 34) rfl rfl ?_
        refine K_getR (pc := 68) (i := 35) (j := 1) (d := 3) rfl S_0 rfl (by decide) rfl fw_War_19 ?_
        refine K_getR (pc := 71) (i := 36) (j := 0) (d := 6) rfl (S_Sk sk3) rfl (by decide) rfl fw_War_88 ?_
        refine K_iload_n (pc := 74) (i := 37) rfl rfl ?_
        refine K_iload_n (pc := 75) (i := 38) rfl rfl ?_
        refine K_cVI (pc := 76) (i := 39) rfl (c_Fleet_meetingBelow G (f := 6) (hf := fl6) (x1 := x1) (x2 := x2) (hI := hI) (s1 := by omega) (s2 := by omega)) (S_Fl fl6) rfl (lv_War_184 rfl) rfl rfl rfl rfl rfl (fun v76 h76 q76 => ?_)
        obtain ⟨eh, r76⟩ := q76
        rw [eh]; clear eh
        refine K_ist (pc := 79) (i := 40) (lo' := [(0, _), (1, _), (2, _), (3, _), (4, _), (5, _), (6, _), (7, _)]) rfl rfl rfl rfl ?_
        refine K_iload (pc := 81) (i := 41) rfl rfl ?_
        refine K_iload (pc := 83) (i := 42) rfl rfl ?_
        refine K_cSI (pc := 85) (i := 43) rfl (c_War_greatestDivisor G (x0 := v62) (x1 := v76) (s0 := by omega) (s1 := by omega)) (ls_War_187 rfl) rfl rfl rfl rfl (fun v85 h85 q85 => ?_)
        obtain ⟨eh, r85⟩ := q85
        rw [eh]; clear eh
        refine K_ist (pc := 88) (i := 44) (lo' := [(0, _), (1, _), (2, _), (3, _), (4, _), (5, _), (6, _), (7, _), (8, _)]) rfl rfl rfl rfl ?_
        refine K_iload (pc := 90) (i := 45) rfl rfl ?_
        refine K_iconst (pc := 92) (i := 46) rfl ?_
        first | refine K_icmp_ge 99 (pc := 93) (i := 47) rfl rfl (by omega) (by omega) (fun b93 => ?_) (fun b93 => ?_) | refine K_icmp_ge_an 99 (pc := 93) (i := 47) rfl rfl (fun b93 => ?_) (fun b93 => ?_)
        · skip
          refine K_iload (pc := 99) (i := 50) rfl rfl ?_
          first | refine K_if_eq 109 (pc := 101) (i := 51) rfl rfl (by omega) (fun b101 => ?_) (fun b101 => ?_) | refine K_if_eq_an 109 (pc := 101) (i := 51) rfl rfl (fun b101 => ?_) (fun b101 => ?_)
          · skip
            refine K_iload (pc := 109) (i := 54) rfl rfl ?_
            refine K_iload (pc := 111) (i := 55) rfl rfl ?_
            refine K_idiv (pc := 113) (i := 56) rfl (by omega) (by omega) ?_
            refine K_any (fun v113 r113 => ?_)
            exact K_retI (pc := 114) (i := 57) rfl rfl ⟨fx, ⟨hI, trivial⟩⟩
          · skip
            refine K_iload (pc := 104) (i := 52) rfl rfl ?_
            refine K_goto 111 (pc := 106) (i := 53) rfl rfl ?_
            refine K_iload (pc := 111) (i := 55) rfl rfl ?_
            refine K_idiv (pc := 113) (i := 56) rfl (by omega) (by omega) ?_
            refine K_any (fun v113 r113 => ?_)
            exact K_retI (pc := 114) (i := 57) rfl rfl ⟨fx, ⟨hI, trivial⟩⟩
        · skip
          refine K_bipush (pc := 96) (i := 48) rfl rfl ?_
          exact K_retI (pc := 98) (i := 49) rfl rfl ⟨fx, ⟨hI, trivial⟩⟩
      · skip
        refine K_aload_n (pc := 38) (i := 20) rfl rfl ?_
        refine K_getR (pc := 39) (i := 21) (j := 1) (d := 3) rfl S_0 rfl (by decide) rfl fw_War_19 ?_
        refine K_getR (pc := 42) (i := 22) (j := 0) (d := 6) rfl (S_Sk sk3) rfl (by decide) rfl fw_War_88 ?_
        refine K_iload_n (pc := 45) (i := 23) rfl rfl ?_
        refine K_iload_n (pc := 46) (i := 24) rfl rfl ?_
        refine K_cVI (pc := 47) (i := 25) rfl (c_Fleet_meetingHeight G (f := 6) (hf := fl6) (x1 := x1) (x2 := x2) (hI := hI) (s1 := by omega) (s2 := by omega)) (S_Fl fl6) rfl (lv_War_178 rfl) rfl rfl rfl rfl rfl (fun v47 h47 q47 => ?_)
        obtain ⟨eh, r47⟩ := q47
        rw [eh]; clear eh
        refine K_goto 65 (pc := 50) (i := 26) rfl rfl ?_
        refine K_ist (pc := 65) (i := 33) (lo' := [(0, _), (1, _), (2, _), (3, _), (4, _), (5, _), (6, _)]) rfl rfl rfl rfl ?_
        refine K_aload_n (pc := 67) (i := 34) rfl rfl ?_
        refine K_getR (pc := 68) (i := 35) (j := 1) (d := 3) rfl S_0 rfl (by decide) rfl fw_War_19 ?_
        refine K_getR (pc := 71) (i := 36) (j := 0) (d := 6) rfl (S_Sk sk3) rfl (by decide) rfl fw_War_88 ?_
        refine K_iload_n (pc := 74) (i := 37) rfl rfl ?_
        refine K_iload_n (pc := 75) (i := 38) rfl rfl ?_
        refine K_cVI (pc := 76) (i := 39) rfl (c_Fleet_meetingBelow G (f := 6) (hf := fl6) (x1 := x1) (x2 := x2) (hI := hI) (s1 := by omega) (s2 := by omega)) (S_Fl fl6) rfl (lv_War_184 rfl) rfl rfl rfl rfl rfl (fun v76 h76 q76 => ?_)
        obtain ⟨eh, r76⟩ := q76
        rw [eh]; clear eh
        refine K_ist (pc := 79) (i := 40) (lo' := [(0, _), (1, _), (2, _), (3, _), (4, _), (5, _), (6, _), (7, _)]) rfl rfl rfl rfl ?_
        refine K_iload (pc := 81) (i := 41) rfl rfl ?_
        refine K_iload (pc := 83) (i := 42) rfl rfl ?_
        refine K_cSI (pc := 85) (i := 43) rfl (c_War_greatestDivisor G (x0 := v47) (x1 := v76) (s0 := by omega) (s1 := by omega)) (ls_War_187 rfl) rfl rfl rfl rfl (fun v85 h85 q85 => ?_)
        obtain ⟨eh, r85⟩ := q85
        rw [eh]; clear eh
        refine K_ist (pc := 88) (i := 44) (lo' := [(0, _), (1, _), (2, _), (3, _), (4, _), (5, _), (6, _), (7, _), (8, _)]) rfl rfl rfl rfl ?_
        refine K_iload (pc := 90) (i := 45) rfl rfl ?_
        refine K_iconst (pc := 92) (i := 46) rfl ?_
        first | refine K_icmp_ge 99 (pc := 93) (i := 47) rfl rfl (by omega) (by omega) (fun b93 => ?_) (fun b93 => ?_) | refine K_icmp_ge_an 99 (pc := 93) (i := 47) rfl rfl (fun b93 => ?_) (fun b93 => ?_)
        · skip
          refine K_iload (pc := 99) (i := 50) rfl rfl ?_
          first | refine K_if_eq 109 (pc := 101) (i := 51) rfl rfl (by omega) (fun b101 => ?_) (fun b101 => ?_) | refine K_if_eq_an 109 (pc := 101) (i := 51) rfl rfl (fun b101 => ?_) (fun b101 => ?_)
          · skip
            refine K_iload (pc := 109) (i := 54) rfl rfl ?_
            refine K_iload (pc := 111) (i := 55) rfl rfl ?_
            refine K_idiv (pc := 113) (i := 56) rfl (by omega) (by omega) ?_
            refine K_any (fun v113 r113 => ?_)
            exact K_retI (pc := 114) (i := 57) rfl rfl ⟨fx, ⟨hI, trivial⟩⟩
          · skip
            refine K_iload (pc := 104) (i := 52) rfl rfl ?_
            refine K_goto 111 (pc := 106) (i := 53) rfl rfl ?_
            refine K_iload (pc := 111) (i := 55) rfl rfl ?_
            refine K_idiv (pc := 113) (i := 56) rfl (by omega) (by omega) ?_
            refine K_any (fun v113 r113 => ?_)
            exact K_retI (pc := 114) (i := 57) rfl rfl ⟨fx, ⟨hI, trivial⟩⟩
        · skip
          refine K_bipush (pc := 96) (i := 48) rfl rfl ?_
          exact K_retI (pc := 98) (i := 49) rfl rfl ⟨fx, ⟨hI, trivial⟩⟩
    · skip
      refine K_bipush (pc := 31) (i := 16) rfl rfl ?_
      exact K_retI (pc := 33) (i := 17) rfl rfl ⟨fx, ⟨hI, trivial⟩⟩
  · skip
    refine K_iload (pc := 13) (i := 7) rfl rfl ?_
    exact K_retI (pc := 15) (i := 8) rfl rfl ⟨fx, ⟨hI, trivial⟩⟩
set_option maxHeartbeats 4000000 in
set_option maxRecDepth 100000 in
theorem c_War_along (G : kG) {g : kGh} {h : kH} {x1 : Int} {x2 : Int} (s1 : kR x1) (s2 : kR x2) (hI : Gd g h) : Ctr G y_War_along X_War_along 13 [.ref (G.2.2.2 0), kI x1, kI x2] h (kQi (fun z h' => Fx (fun c i => c = 183) h h' ∧ (Gd g h' ∧ ((¬ (0 ≤ x1 ∧ x1 < h 6 6) ∧ z = -1) ∨ ((0 ≤ x1 ∧ x1 < h 6 6) ∧ FST (fun k => ((k ≠ x1.toNat ∧ mt h 6 x1.toNat k) ∧ sm (fun o => ind ((o ≠ x1.toNat ∧ mt h 6 x1.toNat o) ∧ ahC h 6 x1.toNat o k)) (h 6 6).toNat = x2)) (h 6 6) z))))) := by
  refine Ctr.ofK (by decide) rfl T_War_along (Nat.le_of_ble_eq_true rfl) (lo := [(0, .ref (G.2.2.2 0)), (1, kI x1), (2, kI x2)]) rfl ?_
  have fx : Fx (fun c i => c = 183) h h := Fx.rf
  refine K_aload_n (pc := 0) (i := 0) rfl rfl ?_
  refine K_iload_n (pc := 1) (i := 1) rfl rfl ?_
  refine K_cVI (pc := 2) (i := 2) rfl (c_War_isKite G (x1 := x1) (hI := hI) (s1 := by omega)) S_0 rfl (lv_War_97 rfl) rfl rfl rfl rfl rfl (fun v2 h2 q2 => ?_)
  obtain ⟨eh, r2⟩ := q2
  rw [eh]; clear eh
  first | refine K_if_eq 27 (pc := 5) (i := 3) rfl rfl (by omega) (fun b5 => ?_) (fun b5 => ?_) | refine K_if_eq_an 27 (pc := 5) (i := 3) rfl rfl (fun b5 => ?_) (fun b5 => ?_)
  · skip
    refine K_iconst (pc := 27) (i := 13) rfl ?_
    exact K_retI (pc := 28) (i := 14) rfl rfl ⟨fx, (by first | exact ⟨hI, Or.inl ⟨by omega, rfl⟩⟩ | exact ⟨hI, Or.inr ⟨by omega, r21⟩⟩)⟩
  · skip
    refine K_aload_n (pc := 8) (i := 4) rfl rfl ?_
    refine K_getR (pc := 9) (i := 5) (j := 7) (d := 182) rfl S_0 rfl (by decide) rfl fw_War_56 ?_
    refine K_aload_n (pc := 12) (i := 6) rfl rfl ?_
    refine K_getR (pc := 13) (i := 7) (j := 1) (d := 3) rfl S_0 rfl (by decide) rfl fw_War_19 ?_
    refine K_getR (pc := 16) (i := 8) (j := 0) (d := 6) rfl (S_Sk sk3) rfl (by decide) rfl fw_War_88 ?_
    refine K_iload_n (pc := 19) (i := 9) rfl rfl ?_
    refine K_iload_n (pc := 20) (i := 10) rfl rfl ?_
    refine K_cVI (pc := 21) (i := 11) rfl (c_Tangle_nthAlong G (f := 6) (hf := fl6) (x2 := x1) (x3 := x2) (hI := hI) (hr := by omega) (s2 := by omega) (s3 := by omega)) S_182 rfl (lv_War_190 rfl) rfl rfl rfl rfl rfl (fun v21 h21 q21 => ?_)
    obtain ⟨fx21, q21⟩ := q21
    obtain ⟨hI, r21⟩ := q21
    have fx := fx.tr fx21 (fun c i q => (by first | (dsimp only at q ⊢; omega) | omega))
    refine K_goto 28 (pc := 24) (i := 12) rfl rfl ?_
    exact K_retI (pc := 28) (i := 14) rfl rfl ⟨fx, (by first | exact ⟨hI, Or.inl ⟨by omega, rfl⟩⟩ | exact ⟨hI, Or.inr ⟨by omega, r21⟩⟩)⟩
set_option maxHeartbeats 4000000 in
set_option maxRecDepth 100000 in
theorem c_War_tangle (G : kG) {g : kGh} {h : kH}  (hI : Gd g h) : Ctr G y_War_tangle X_War_tangle 13 [.ref (G.2.2.2 0)] h (kQi (fun z h' => Fx (fun c i => c = 183) h h' ∧ (Gd g h' ∧ z = sm (fun a => sm (fun b => ind (b ≠ a ∧ mt h 6 a b)) (h 6 6).toNat) (h 6 6).toNat / 2))) := by
  refine Ctr.ofK (by decide) rfl T_War_tangle (Nat.le_of_ble_eq_true rfl) (lo := [(0, .ref (G.2.2.2 0))]) rfl ?_
  have fx : Fx (fun c i => c = 183) h h := Fx.rf
  refine K_aload_n (pc := 0) (i := 0) rfl rfl ?_
  refine K_getR (pc := 1) (i := 1) (j := 7) (d := 182) rfl S_0 rfl (by decide) rfl fw_War_56 ?_
  refine K_aload_n (pc := 4) (i := 2) rfl rfl ?_
  refine K_getR (pc := 5) (i := 3) (j := 1) (d := 3) rfl S_0 rfl (by decide) rfl fw_War_19 ?_
  refine K_getR (pc := 8) (i := 4) (j := 0) (d := 6) rfl (S_Sk sk3) rfl (by decide) rfl fw_War_88 ?_
  refine K_cVI (pc := 11) (i := 5) rfl (c_Tangle_pairs G (f := 6) (hf := fl6) (hI := hI) (hr := by omega)) S_182 rfl (lv_War_194 rfl) rfl rfl rfl rfl rfl (fun v11 h11 q11 => ?_)
  obtain ⟨fx11, q11⟩ := q11
  obtain ⟨hI, r11⟩ := q11
  have fx := fx.tr fx11 (fun c i q => (by first | (dsimp only at q ⊢; omega) | omega))
  exact K_retI (pc := 14) (i := 6) rfl rfl ⟨fx, ⟨hI, r11⟩⟩
set_option maxHeartbeats 4000000 in
set_option maxRecDepth 100000 in
theorem c_War_toTakeIn (G : kG) {g : kGh} {h : kH}  (hI : Gd g h) : Ctr G y_War_toTakeIn X_War_toTakeIn 13 [.ref (G.2.2.2 0)] h (kQi (fun z h' => Fx (fun c i => c = 183) h h' ∧ (Gd g h' ∧ ∃ k : Nat, (h 6 6 = k ∧ k < 9) ∧ FWc (fun s => LSt (fun i j => mt h 6 i j) k s) ((2 ^ k : Nat) - 1 : Int) z ((2 ^ k : Nat) : Int)))) := by
  refine Ctr.ofK (by decide) rfl T_War_toTakeIn (Nat.le_of_ble_eq_true rfl) (lo := [(0, .ref (G.2.2.2 0))]) rfl ?_
  have fx : Fx (fun c i => c = 183) h h := Fx.rf
  refine K_aload_n (pc := 0) (i := 0) rfl rfl ?_
  refine K_getR (pc := 1) (i := 1) (j := 7) (d := 182) rfl S_0 rfl (by decide) rfl fw_War_56 ?_
  refine K_aload_n (pc := 4) (i := 2) rfl rfl ?_
  refine K_getR (pc := 5) (i := 3) (j := 1) (d := 3) rfl S_0 rfl (by decide) rfl fw_War_19 ?_
  refine K_getR (pc := 8) (i := 4) (j := 0) (d := 6) rfl (S_Sk sk3) rfl (by decide) rfl fw_War_88 ?_
  refine K_cVI (pc := 11) (i := 5) rfl (c_Tangle_fewest G (f := 6) (hf := fl6) (hI := hI) (hr := by omega)) S_182 rfl (lv_War_198 rfl) rfl rfl rfl rfl rfl (fun v11 h11 q11 => ?_)
  obtain ⟨fx11, q11⟩ := q11
  obtain ⟨hI, r11⟩ := q11
  have fx := fx.tr fx11 (fun c i q => (by first | (dsimp only at q ⊢; omega) | omega))
  exact K_retI (pc := 14) (i := 6) rfl rfl ⟨fx, ⟨hI, r11⟩⟩
def CWafter (h : kH) (x n z : Int) : Prop := (¬ ((0 ≤ x ∧ x ≤ 1) ∧ 0 ≤ n ∧ n ≤ 20) ∧ z = -2) ∨ (((0 ≤ x ∧ x ≤ 1) ∧ 0 ≤ n ∧ n ≤ 20) ∧ ∃ ht hz : kH, FC ht 16 h 6 ∧ (∀ i, i < 10 → ht 14 i = h 4 i) ∧ BTW 13 n.toNat ht hz ∧ z = hz 22 x.toNat - h 12 x.toNat)
set_option maxHeartbeats 4000000 in
set_option maxRecDepth 100000 in
theorem c_War_after (G : kG) {g : kGh} {h : kH} {x1 : Int} {x2 : Int} (s1 : kR x1) (s2 : kR x2) (hI : Gd g h) : Ctr G y_War_after X_War_after 13 [.ref (G.2.2.2 0), kI x1, kI x2] h (kQi (fun z h' => Fx (fun c i => 13 ≤ c ∧ c ≤ 22) h h' ∧ (Gd g h' ∧ CWafter h x1 x2 z))) := by
  refine Ctr.ofK (by decide) rfl T_War_after (Nat.le_of_ble_eq_true rfl) (lo := [(0, .ref (G.2.2.2 0)), (1, kI x1), (2, kI x2)]) rfl ?_
  have fx : Fx (fun c i => 13 ≤ c ∧ c ≤ 22) h h := Fx.rf
  refine K_iload_n (pc := 0) (i := 0) rfl rfl ?_
  refine K_cSI (pc := 1) (i := 1) rfl (c_War_isTown G (x0 := x1) (s0 := by omega)) (ls_War_146 rfl) rfl rfl rfl rfl (fun v1 h1 q1 => ?_)
  obtain ⟨eh, r1⟩ := q1
  rw [eh]; clear eh
  first | refine K_if_eq 17 (pc := 4) (i := 2) rfl rfl (by omega) (fun b4 => ?_) (fun b4 => ?_) | refine K_if_eq_an 17 (pc := 4) (i := 2) rfl rfl (fun b4 => ?_) (fun b4 => ?_)
  · skip
    refine K_bipush (pc := 17) (i := 8) rfl rfl ?_
    exact K_retI (pc := 19) (i := 9) rfl rfl ⟨fx, ⟨hI, Or.inl ⟨by omega, rfl⟩⟩⟩
  · skip
    refine K_iload_n (pc := 7) (i := 3) rfl rfl ?_
    refine K_iconst (pc := 8) (i := 4) rfl ?_
    refine K_bipush (pc := 9) (i := 5) rfl rfl ?_
    refine K_cSI (pc := 11) (i := 6) rfl (c_War_isWithin G (x0 := x2) (x1 := 0) (x2 := 20) (s0 := by omega) (s1 := by omega) (s2 := by omega)) (ls_War_124 rfl) rfl rfl rfl rfl (fun v11 h11 q11 => ?_)
    obtain ⟨eh, r11⟩ := q11
    rw [eh]; clear eh
    first | refine K_if_ne 20 (pc := 14) (i := 7) rfl rfl (by omega) (fun b14 => ?_) (fun b14 => ?_) | refine K_if_ne_an 20 (pc := 14) (i := 7) rfl rfl (fun b14 => ?_) (fun b14 => ?_)
    · skip
      refine K_aload_n (pc := 20) (i := 10) rfl rfl ?_
      refine K_getR (pc := 21) (i := 11) (j := 2) (d := 13) rfl S_0 rfl (by decide) rfl fw_War_23 ?_
      refine K_aload_n (pc := 24) (i := 12) rfl rfl ?_
      refine K_getR (pc := 25) (i := 13) (j := 1) (d := 3) rfl S_0 rfl (by decide) rfl fw_War_19 ?_
      refine K_cVV (pc := 28) (i := 14) rfl (c_Sky_copyFrom G (s := 13) (hs := sk13) (s2 := 3) (hs2 := sk3) (hI := hI) (dj := by omega)) (S_Sk sk13) rfl (lv_War_201 rfl) rfl rfl rfl rfl rfl (fun h28 q28 => ?_)
      obtain ⟨fx28, q28⟩ := q28
      obtain ⟨hI, fc28, wc28⟩ := q28
      have fx := fx.tr fx28 (fun c i q => (by first | (dsimp only at q ⊢; omega) | omega))
      refine K_aload_n (pc := 31) (i := 15) rfl rfl ?_
      refine K_getR (pc := 32) (i := 16) (j := 2) (d := 13) rfl S_0 rfl (by decide) rfl fw_War_23 ?_
      refine K_iload_n (pc := 35) (i := 17) rfl rfl ?_
      refine K_cVV (pc := 36) (i := 18) rfl (c_Sky_blowTimes G (s := 13) (hs := sk13) (x1 := x2) (hI := hI) (s1 := by omega)) (S_Sk sk13) rfl (lv_War_204 rfl) rfl rfl rfl rfl rfl (fun h36 q36 => ?_)
      obtain ⟨fx36, q36⟩ := q36
      obtain ⟨hI, bt36⟩ := q36
      have fx := fx.tr fx36 (fun c i q => (by first | (dsimp only at q ⊢; omega) | omega))
      refine K_aload_n (pc := 39) (i := 19) rfl rfl ?_
      refine K_iload_n (pc := 40) (i := 20) rfl rfl ?_
      refine K_cVI (pc := 41) (i := 21) rfl (c_War_wonInTrial G (x1 := x1) (hI := hI) (s1 := by omega)) S_0 rfl (lv_War_207 rfl) rfl rfl rfl rfl rfl (fun v41 h41 q41 => ?_)
      obtain ⟨eh, r41⟩ := q41
      rw [eh]; clear eh
      exact K_retI (pc := 44) (i := 22) rfl rfl ⟨fx, ⟨hI, Or.inr ⟨by omega, _, _, fc28, fun i hi => by have q := wc28 i; rw [if_pos hi] at q; exact q, bt36, by rw [r41, fx36.cell 12 (fun i => (by first | (dsimp only; omega) | omega)), fx28.cell 12 (fun i => (by first | (dsimp only; omega) | omega))]⟩⟩⟩
    · skip
      refine K_bipush (pc := 17) (i := 8) rfl rfl ?_
      exact K_retI (pc := 19) (i := 9) rfl rfl ⟨fx, ⟨hI, Or.inl ⟨by omega, rfl⟩⟩⟩
set_option maxHeartbeats 4000000 in
set_option maxRecDepth 100000 in
theorem c_War_tonight (G : kG) {g : kGh} {h : kH} {x1 : Int} (s1 : kR x1) (hI : Gd g h) : Ctr G y_War_tonight X_War_tonight 13 [.ref (G.2.2.2 0), kI x1] h (kQi (fun z h' => Fx (fun c i => 160 ≤ c ∧ c ≤ 168) h h' ∧ (Gd g h' ∧ True))) := by
  refine Ctr.ofK (by decide) rfl T_War_tonight (Nat.le_of_ble_eq_true rfl) (lo := [(0, .ref (G.2.2.2 0)), (1, kI x1)]) rfl ?_
  have fx : Fx (fun c i => 160 ≤ c ∧ c ≤ 168) h h := Fx.rf
  refine K_aload_n (pc := 0) (i := 0) rfl rfl ?_
  refine K_iload_n (pc := 1) (i := 1) rfl rfl ?_
  refine K_cVI (pc := 2) (i := 2) rfl (c_War_refusalOfPlan G (x1 := x1) (hI := hI) (s1 := by omega)) S_0 rfl (lv_War_210 rfl) rfl rfl rfl rfl rfl (fun v2 h2 q2 => ?_)
  obtain ⟨eh, r2⟩ := q2
  rw [eh]; clear eh
  refine K_ist_n (pc := 5) (i := 3) (lo' := [(0, _), (1, _), (2, _)]) rfl rfl rfl rfl ?_
  refine K_iload_n (pc := 6) (i := 4) rfl rfl ?_
  first | refine K_if_eq 12 (pc := 7) (i := 5) rfl rfl (by omega) (fun b7 => ?_) (fun b7 => ?_) | refine K_if_eq_an 12 (pc := 7) (i := 5) rfl rfl (fun b7 => ?_) (fun b7 => ?_)
  · skip
    refine K_aload_n (pc := 12) (i := 8) rfl rfl ?_
    refine K_getR (pc := 13) (i := 9) (j := 5) (d := 160) rfl S_0 rfl (by decide) rfl fw_War_42 ?_
    refine K_aload_n (pc := 16) (i := 10) rfl rfl ?_
    refine K_getR (pc := 17) (i := 11) (j := 1) (d := 3) rfl S_0 rfl (by decide) rfl fw_War_19 ?_
    refine K_iload_n (pc := 20) (i := 12) rfl rfl ?_
    refine K_iconst (pc := 21) (i := 13) rfl ?_
    refine K_cVI (pc := 22) (i := 14) rfl (c_Plans_best G (x2 := x1) (x3 := 0) (hI := hI) (s2 := by omega)) S_160 rfl (lv_War_213 rfl) rfl rfl rfl rfl rfl (fun v22 h22 q22 => ?_)
    obtain ⟨fx22, q22⟩ := q22
    obtain ⟨hI, r22⟩ := q22
    have fx := fx.tr fx22 (fun c i q => (by first | (dsimp only at q ⊢; omega) | omega))
    refine K_bipush (pc := 25) (i := 15) rfl rfl ?_
    refine K_iadd (pc := 27) (i := 16) rfl ?_
    exact K_retI (pc := 28) (i := 17) rfl rfl ⟨fx, ⟨hI, trivial⟩⟩
  · skip
    refine K_iload_n (pc := 10) (i := 6) rfl rfl ?_
    exact K_retI (pc := 11) (i := 7) rfl rfl ⟨fx, ⟨hI, trivial⟩⟩
set_option maxHeartbeats 4000000 in
set_option maxRecDepth 100000 in
theorem c_War_tonightAt (G : kG) {g : kGh} {h : kH} {x1 : Int} {x2 : Int} (s1 : kR x1) (s2 : kR x2) (hI : Gd g h) : Ctr G y_War_tonightAt X_War_tonightAt 13 [.ref (G.2.2.2 0), kI x1, kI x2] h (kQi (fun z h' => Fx (fun c i => 160 ≤ c ∧ c ≤ 168) h h' ∧ (Gd g h' ∧ True))) := by
  refine Ctr.ofK (by decide) rfl T_War_tonightAt (Nat.le_of_ble_eq_true rfl) (lo := [(0, .ref (G.2.2.2 0)), (1, kI x1), (2, kI x2)]) rfl ?_
  have fx : Fx (fun c i => 160 ≤ c ∧ c ≤ 168) h h := Fx.rf
  refine K_iload_n (pc := 0) (i := 0) rfl rfl ?_
  first | refine K_if_ge 7 (pc := 1) (i := 1) rfl rfl (by omega) (fun b1 => ?_) (fun b1 => ?_) | refine K_if_ge_an 7 (pc := 1) (i := 1) rfl rfl (fun b1 => ?_) (fun b1 => ?_)
  · skip
    refine K_aload_n (pc := 7) (i := 4) rfl rfl ?_
    refine K_iload_n (pc := 8) (i := 5) rfl rfl ?_
    refine K_cVI (pc := 9) (i := 6) rfl (c_War_refusalOfPlan G (x1 := x1) (hI := hI) (s1 := by omega)) S_0 rfl (lv_War_210 rfl) rfl rfl rfl rfl rfl (fun v9 h9 q9 => ?_)
    obtain ⟨eh, r9⟩ := q9
    rw [eh]; clear eh
    refine K_ist_n (pc := 12) (i := 7) (lo' := [(0, _), (1, _), (2, _), (3, _)]) rfl rfl rfl rfl ?_
    refine K_iload_n (pc := 13) (i := 8) rfl rfl ?_
    first | refine K_if_eq 19 (pc := 14) (i := 9) rfl rfl (by omega) (fun b14 => ?_) (fun b14 => ?_) | refine K_if_eq_an 19 (pc := 14) (i := 9) rfl rfl (fun b14 => ?_) (fun b14 => ?_)
    · skip
      refine K_iload_n (pc := 19) (i := 12) rfl rfl ?_
      refine K_aload_n (pc := 20) (i := 13) rfl rfl ?_
      refine K_getR (pc := 21) (i := 14) (j := 1) (d := 3) rfl S_0 rfl (by decide) rfl fw_War_19 ?_
      refine K_getR (pc := 24) (i := 15) (j := 0) (d := 6) rfl (S_Sk sk3) rfl (by decide) rfl fw_War_88 ?_
      refine K_iload_n (pc := 27) (i := 16) rfl rfl ?_
      refine K_cVI (pc := 28) (i := 17) rfl (c_Fleet_ofTown G (f := 6) (hf := fl6) (x1 := x1) (hI := hI) (s1 := by omega)) (S_Fl fl6) rfl (lv_War_217 rfl) rfl rfl rfl rfl rfl (fun v28 h28 q28 => ?_)
      obtain ⟨eh, r28⟩ := q28
      rw [eh]; clear eh
      first | refine K_icmp_lt 37 (pc := 31) (i := 18) rfl rfl (by omega) (by omega) (fun b31 => ?_) (fun b31 => ?_) | refine K_icmp_lt_an 37 (pc := 31) (i := 18) rfl rfl (fun b31 => ?_) (fun b31 => ?_)
      · skip
        refine K_aload_n (pc := 37) (i := 21) rfl rfl ?_
        refine K_getR (pc := 38) (i := 22) (j := 5) (d := 160) rfl S_0 rfl (by decide) rfl fw_War_42 ?_
        refine K_aload_n (pc := 41) (i := 23) rfl rfl ?_
        refine K_getR (pc := 42) (i := 24) (j := 1) (d := 3) rfl S_0 rfl (by decide) rfl fw_War_19 ?_
        refine K_iload_n (pc := 45) (i := 25) rfl rfl ?_
        refine K_iconst (pc := 46) (i := 26) rfl ?_
        refine K_cVI (pc := 47) (i := 27) rfl (c_Plans_best G (x2 := x1) (x3 := 0) (hI := hI) (s2 := by omega)) S_160 rfl (lv_War_213 rfl) rfl rfl rfl rfl rfl (fun v47 h47 q47 => ?_)
        obtain ⟨fx47, q47⟩ := q47
        obtain ⟨hI, r47⟩ := q47
        have fx := fx.tr fx47 (fun c i q => (by first | (dsimp only at q ⊢; omega) | omega))
        refine K_pop (pc := 50) (i := 28) rfl rfl ?_
        refine K_aload_n (pc := 51) (i := 29) rfl rfl ?_
        refine K_getR (pc := 52) (i := 30) (j := 5) (d := 160) rfl S_0 rfl (by decide) rfl fw_War_42 ?_
        refine K_iload_n (pc := 55) (i := 31) rfl rfl ?_
        refine K_cVI (pc := 56) (i := 32) rfl (c_Plans_bestChange G (x1 := x2) (hI := hI) (s1 := by omega)) S_160 rfl (lv_War_220 rfl) rfl rfl rfl rfl rfl (fun v56 h56 q56 => ?_)
        obtain ⟨eh, r56⟩ := q56
        rw [eh]; clear eh
        exact K_retI (pc := 59) (i := 33) rfl rfl ⟨fx, ⟨hI, trivial⟩⟩
      · skip
        refine K_bipush (pc := 34) (i := 19) rfl rfl ?_
        exact K_retI (pc := 36) (i := 20) rfl rfl ⟨fx, ⟨hI, trivial⟩⟩
    · skip
      refine K_iload_n (pc := 17) (i := 10) rfl rfl ?_
      exact K_retI (pc := 18) (i := 11) rfl rfl ⟨fx, ⟨hI, trivial⟩⟩
  · skip
    refine K_bipush (pc := 4) (i := 2) rfl rfl ?_
    exact K_retI (pc := 6) (i := 3) rfl rfl ⟨fx, ⟨hI, trivial⟩⟩
set_option maxHeartbeats 4000000 in
set_option maxRecDepth 100000 in
theorem c_War_forSure (G : kG) {g : kGh} {h : kH} {x1 : Int} (s1 : kR x1) (hI : Gd g h) : Ctr G y_War_forSure X_War_forSure 13 [.ref (G.2.2.2 0), kI x1] h (kQi (fun z h' => Fx (fun c i => 160 ≤ c ∧ c ≤ 168) h h' ∧ (Gd g h' ∧ True))) := by
  refine Ctr.ofK (by decide) rfl T_War_forSure (Nat.le_of_ble_eq_true rfl) (lo := [(0, .ref (G.2.2.2 0)), (1, kI x1)]) rfl ?_
  have fx : Fx (fun c i => 160 ≤ c ∧ c ≤ 168) h h := Fx.rf
  refine K_aload_n (pc := 0) (i := 0) rfl rfl ?_
  refine K_iload_n (pc := 1) (i := 1) rfl rfl ?_
  refine K_cVI (pc := 2) (i := 2) rfl (c_War_refusalOfPlan G (x1 := x1) (hI := hI) (s1 := by omega)) S_0 rfl (lv_War_210 rfl) rfl rfl rfl rfl rfl (fun v2 h2 q2 => ?_)
  obtain ⟨eh, r2⟩ := q2
  rw [eh]; clear eh
  refine K_ist_n (pc := 5) (i := 3) (lo' := [(0, _), (1, _), (2, _)]) rfl rfl rfl rfl ?_
  refine K_iload_n (pc := 6) (i := 4) rfl rfl ?_
  first | refine K_if_eq 12 (pc := 7) (i := 5) rfl rfl (by omega) (fun b7 => ?_) (fun b7 => ?_) | refine K_if_eq_an 12 (pc := 7) (i := 5) rfl rfl (fun b7 => ?_) (fun b7 => ?_)
  · skip
    refine K_aload_n (pc := 12) (i := 8) rfl rfl ?_
    refine K_getR (pc := 13) (i := 9) (j := 1) (d := 3) rfl S_0 rfl (by decide) rfl fw_War_19 ?_
    refine K_getR (pc := 16) (i := 10) (j := 0) (d := 6) rfl (S_Sk sk3) rfl (by decide) rfl fw_War_88 ?_
    refine K_iconst (pc := 19) (i := 11) rfl ?_
    refine K_iload_n (pc := 20) (i := 12) rfl rfl ?_
    refine K_isub (pc := 21) (i := 13) rfl ?_
    refine K_cVI (pc := 22) (i := 14) rfl (c_Fleet_ofTown G (f := 6) (hf := fl6) (x1 := 1 - x1) (hI := hI) (s1 := by omega)) (S_Fl fl6) rfl (lv_War_217 rfl) rfl rfl rfl rfl rfl (fun v22 h22 q22 => ?_)
    obtain ⟨eh, r22⟩ := q22
    rw [eh]; clear eh
    refine K_iconst (pc := 25) (i := 15) rfl ?_
    first | refine K_icmp_le 32 (pc := 26) (i := 16) rfl rfl (by omega) (by omega) (fun b26 => ?_) (fun b26 => ?_) | refine K_icmp_le_an 32 (pc := 26) (i := 16) rfl rfl (fun b26 => ?_) (fun b26 => ?_)
    · skip
      refine K_aload_n (pc := 32) (i := 19) rfl rfl ?_
      refine K_getR (pc := 33) (i := 20) (j := 5) (d := 160) rfl S_0 rfl (by decide) rfl fw_War_42 ?_
      refine K_aload_n (pc := 36) (i := 21) rfl rfl ?_
      refine K_getR (pc := 37) (i := 22) (j := 1) (d := 3) rfl S_0 rfl (by decide) rfl fw_War_19 ?_
      refine K_iload_n (pc := 40) (i := 23) rfl rfl ?_
      refine K_iconst (pc := 41) (i := 24) rfl ?_
      refine K_cVI (pc := 42) (i := 25) rfl (c_Plans_best G (x2 := x1) (x3 := 1) (hI := hI) (s2 := by omega)) S_160 rfl (lv_War_213 rfl) rfl rfl rfl rfl rfl (fun v42 h42 q42 => ?_)
      obtain ⟨fx42, q42⟩ := q42
      obtain ⟨hI, r42⟩ := q42
      have fx := fx.tr fx42 (fun c i q => (by first | (dsimp only at q ⊢; omega) | omega))
      refine K_bipush (pc := 45) (i := 26) rfl rfl ?_
      refine K_iadd (pc := 47) (i := 27) rfl ?_
      exact K_retI (pc := 48) (i := 28) rfl rfl ⟨fx, ⟨hI, trivial⟩⟩
    · skip
      refine K_bipush (pc := 29) (i := 17) rfl rfl ?_
      exact K_retI (pc := 31) (i := 18) rfl rfl ⟨fx, ⟨hI, trivial⟩⟩
  · skip
    refine K_iload_n (pc := 10) (i := 6) rfl rfl ?_
    exact K_retI (pc := 11) (i := 7) rfl rfl ⟨fx, ⟨hI, trivial⟩⟩
set_option maxHeartbeats 4000000 in
set_option maxRecDepth 100000 in
theorem c_War_fits (G : kG) {g : kGh} {h : kH}  (hI : Gd g h) : Ctr G y_War_fits X_War_fits 13 [.ref (G.2.2.2 0)] h (kQi (fun z h' => Fx (fun c i => 173 ≤ c ∧ c ≤ 181) h h' ∧ (Gd g h' ∧ True))) := by
  refine Ctr.ofK (by decide) rfl T_War_fits (Nat.le_of_ble_eq_true rfl) (lo := [(0, .ref (G.2.2.2 0))]) rfl ?_
  have fx : Fx (fun c i => 173 ≤ c ∧ c ≤ 181) h h := Fx.rf
  refine K_aload_n (pc := 0) (i := 0) rfl rfl ?_
  refine K_getR (pc := 1) (i := 1) (j := 6) (d := 169) rfl S_0 rfl (by decide) rfl fw_War_49 ?_
  refine K_aload_n (pc := 4) (i := 2) rfl rfl ?_
  refine K_getR (pc := 5) (i := 3) (j := 1) (d := 3) rfl S_0 rfl (by decide) rfl fw_War_19 ?_
  refine K_getR (pc := 8) (i := 4) (j := 0) (d := 6) rfl (S_Sk sk3) rfl (by decide) rfl fw_War_88 ?_
  refine K_cVI (pc := 11) (i := 5) rfl (c_Seen_countRows G (f := 6) (hf := fl6) (hI := hI) (hr := by omega)) S_169 rfl (lv_War_230 rfl) rfl rfl rfl rfl rfl (fun v11 h11 q11 => ?_)
  obtain ⟨fx11, q11⟩ := q11
  obtain ⟨hI, r11⟩ := q11
  have fx := fx.tr fx11 (fun c i q => (by first | (dsimp only at q ⊢; omega) | omega))
  exact K_retI (pc := 14) (i := 6) rfl rfl ⟨fx, ⟨hI, trivial⟩⟩
set_option maxHeartbeats 4000000 in
set_option maxRecDepth 100000 in
theorem c_War_height (G : kG) {g : kGh} {h : kH} {x1 : Int} {x2 : Int} (s1 : kR x1) (s2 : kR x2) (hI : Gd g h) : Ctr G y_War_height X_War_height 13 [.ref (G.2.2.2 0), kI x1, kI x2] h (kQi (fun z h' => Fx (fun c i => 173 ≤ c ∧ c ≤ 181) h h' ∧ (Gd g h' ∧ True))) := by
  refine Ctr.ofK (by decide) rfl T_War_height (Nat.le_of_ble_eq_true rfl) (lo := [(0, .ref (G.2.2.2 0)), (1, kI x1), (2, kI x2)]) rfl ?_
  have fx : Fx (fun c i => 173 ≤ c ∧ c ≤ 181) h h := Fx.rf
  refine K_aload_n (pc := 0) (i := 0) rfl rfl ?_
  refine K_iload_n (pc := 1) (i := 1) rfl rfl ?_
  refine K_cVI (pc := 2) (i := 2) rfl (c_War_isSeenKite G (x1 := x1) (hI := hI) (s1 := by omega)) S_0 rfl (lv_War_223 rfl) rfl rfl rfl rfl rfl (fun v2 h2 q2 => ?_)
  obtain ⟨eh, r2⟩ := q2
  rw [eh]; clear eh
  first | refine K_if_ne 10 (pc := 5) (i := 3) rfl rfl (by omega) (fun b5 => ?_) (fun b5 => ?_) | refine K_if_ne_an 10 (pc := 5) (i := 3) rfl rfl (fun b5 => ?_) (fun b5 => ?_)
  · skip
    refine K_aload_n (pc := 10) (i := 6) rfl rfl ?_
    refine K_getR (pc := 11) (i := 7) (j := 6) (d := 169) rfl S_0 rfl (by decide) rfl fw_War_49 ?_
    refine K_aload_n (pc := 14) (i := 8) rfl rfl ?_
    refine K_getR (pc := 15) (i := 9) (j := 1) (d := 3) rfl S_0 rfl (by decide) rfl fw_War_19 ?_
    refine K_getR (pc := 18) (i := 10) (j := 0) (d := 6) rfl (S_Sk sk3) rfl (by decide) rfl fw_War_88 ?_
    refine K_cVI (pc := 21) (i := 11) rfl (c_Seen_countRows G (f := 6) (hf := fl6) (hI := hI) (hr := by omega)) S_169 rfl (lv_War_230 rfl) rfl rfl rfl rfl rfl (fun v21 h21 q21 => ?_)
    obtain ⟨fx21, q21⟩ := q21
    obtain ⟨hI, r21⟩ := q21
    have fx := fx.tr fx21 (fun c i q => (by first | (dsimp only at q ⊢; omega) | omega))
    first | refine K_if_ne 30 (pc := 24) (i := 12) rfl rfl (by omega) (fun b24 => ?_) (fun b24 => ?_) | refine K_if_ne_an 30 (pc := 24) (i := 12) rfl rfl (fun b24 => ?_) (fun b24 => ?_)
    · skip
      refine K_iload_n (pc := 30) (i := 15) rfl rfl ?_
      first | refine K_if_eq 46 (pc := 31) (i := 16) rfl rfl (by omega) (fun b31 => ?_) (fun b31 => ?_) | refine K_if_eq_an 46 (pc := 31) (i := 16) rfl rfl (fun b31 => ?_) (fun b31 => ?_)
      · skip
        refine K_aload_n (pc := 46) (i := 23) rfl rfl ?_
        refine K_getR (pc := 47) (i := 24) (j := 6) (d := 169) rfl S_0 rfl (by decide) rfl fw_War_49 ?_
        refine K_getR (pc := 50) (i := 25) (j := 4) (d := 180) rfl S_169 rfl (by decide) rfl fw_War_236 ?_
        refine K_iload_n (pc := 53) (i := 26) rfl rfl ?_
        refine K_iald (pc := 54) (i := 27) rfl S_180 (by omega) (by omega) (by decide) ?_
        refine K_any (fun v54 r54 => ?_)
        exact K_retI (pc := 55) (i := 28) rfl rfl ⟨fx, ⟨hI, trivial⟩⟩
      · skip
        refine K_aload_n (pc := 34) (i := 17) rfl rfl ?_
        refine K_getR (pc := 35) (i := 18) (j := 6) (d := 169) rfl S_0 rfl (by decide) rfl fw_War_49 ?_
        refine K_getR (pc := 38) (i := 19) (j := 5) (d := 181) rfl S_169 rfl (by decide) rfl fw_War_233 ?_
        refine K_iload_n (pc := 41) (i := 20) rfl rfl ?_
        refine K_iald (pc := 42) (i := 21) rfl S_181 (by omega) (by omega) (by decide) ?_
        refine K_any (fun v42 r42 => ?_)
        refine K_goto 55 (pc := 43) (i := 22) rfl rfl ?_
        exact K_retI (pc := 55) (i := 28) rfl rfl ⟨fx, ⟨hI, trivial⟩⟩
    · skip
      refine K_bipush (pc := 27) (i := 13) rfl rfl ?_
      exact K_retI (pc := 29) (i := 14) rfl rfl ⟨fx, ⟨hI, trivial⟩⟩
  · skip
    refine K_iconst (pc := 8) (i := 4) rfl ?_
    exact K_retI (pc := 9) (i := 5) rfl rfl ⟨fx, ⟨hI, trivial⟩⟩
