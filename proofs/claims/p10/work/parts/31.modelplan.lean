set_option maxHeartbeats 4000000 in
set_option maxRecDepth 100000 in
theorem c_Model_kite (G : kG) {g : kGh} {h : kH} {x1 : Int} {x2 : Int} (s1 : kR x1) (s2 : kR x2) (hI : Gd g h) : Ctr G y_Model_kite X_Model_kite 13 [.ref (G.2.2.2 184), kI x1, kI x2] h (kQi (fun z h' => Fx (fun c i => False) h h' ∧ (Gd g h' ∧ z = ktF (h 184 4) (fun i a => h 187 (5 * i + a)) (fun i => egK (h 187) (h 188) i) x1 x2))) := by
  refine Ctr.ofK (by decide) rfl T_Model_kite (Nat.le_of_ble_eq_true rfl) (lo := [(0, .ref (G.2.2.2 184)), (1, kI x1), (2, kI x2)]) rfl ?_
  have fx : Fx (fun c i => False) h h := Fx.rf
  refine K_aload_n (pc := 0) (i := 0) rfl rfl ?_
  refine K_iload_n (pc := 1) (i := 1) rfl rfl ?_
  refine K_cVI (pc := 2) (i := 2) rfl (c_Model_isKite G (x1 := x1) (hI := hI) (s1 := by omega)) S_184 rfl (lv_Model_102 rfl) rfl rfl rfl rfl rfl (fun v2 h2 q2 => ?_)
  obtain ⟨eh, r2⟩ := q2
  rw [eh]; clear eh
  first | refine K_if_ne 10 (pc := 5) (i := 3) rfl rfl (by omega) (fun b5 => ?_) (fun b5 => ?_) | refine K_if_ne_an 10 (pc := 5) (i := 3) rfl rfl (fun b5 => ?_) (fun b5 => ?_)
  · skip
    refine K_iload_n (pc := 10) (i := 6) rfl rfl ?_
    refine K_i2l (pc := 11) (i := 7) rfl ?_
    refine K_eqJ (kI2l_eq (a := x2) (by omega)) ?_
    refine K_lconst 0 (pc := 12) (i := 8) rfl rfl ?_
    refine K_ldc2 (4) (pc := 13) (i := 9) rfl cl_Model_106 (by decide) ?_
    refine K_cSI (pc := 16) (i := 10) rfl (c_Model_in G (l0 := x2) (l2 := 0) (l4 := 4) (s0 := by omega) (s2 := by omega) (s4 := by omega)) (ls_Model_65 rfl) rfl rfl rfl rfl (fun v16 h16 q16 => ?_)
    obtain ⟨eh, r16⟩ := q16
    rw [eh]; clear eh
    first | refine K_if_eq 35 (pc := 19) (i := 11) rfl rfl (by omega) (fun b19 => ?_) (fun b19 => ?_) | refine K_if_eq_an 35 (pc := 19) (i := 11) rfl rfl (fun b19 => ?_) (fun b19 => ?_)
    · skip
      refine K_iload_n (pc := 35) (i := 21) rfl rfl ?_
      refine K_iconst (pc := 36) (i := 22) rfl ?_
      first | refine K_icmp_ne 49 (pc := 37) (i := 23) rfl rfl (by omega) (by omega) (fun b37 => ?_) (fun b37 => ?_) | refine K_icmp_ne_an 49 (pc := 37) (i := 23) rfl rfl (fun b37 => ?_) (fun b37 => ?_)
      · skip
        refine K_bipush (pc := 49) (i := 29) rfl rfl ?_
        exact K_retI (pc := 51) (i := 30) rfl rfl ⟨fx, (by first | exact ⟨hI, ktF_o (by omega) (by omega) rfl⟩ | exact ⟨hI, ktF_e (by omega) (by omega) (by rw [r43.2, show kap h (0 : Int).toNat = h 187 from kap_0 h])⟩ | exact ⟨hI, ktF_at (by omega) (by omega) (by rw [e31]; congr 1; omega)⟩)⟩
      · skip
        refine K_aload_n (pc := 40) (i := 24) rfl rfl ?_
        refine K_iconst (pc := 41) (i := 25) rfl ?_
        refine K_iload_n (pc := 42) (i := 26) rfl rfl ?_
        refine K_cVI (pc := 43) (i := 27) rfl (c_Model_edgeOf G (x1 := 0) (x2 := x1) (hI := hI) (s1 := by omega) (s2 := by omega)) S_184 rfl (lv_Model_108 rfl) rfl rfl rfl rfl rfl (fun v43 h43 q43 => ?_)
        obtain ⟨eh, r43⟩ := q43
        rw [eh]; clear eh
        refine K_goto 51 (pc := 46) (i := 28) rfl rfl ?_
        exact K_retI (pc := 51) (i := 30) rfl rfl ⟨fx, (by first | exact ⟨hI, ktF_o (by omega) (by omega) rfl⟩ | exact ⟨hI, ktF_e (by omega) (by omega) (by rw [r43.2, show kap h (0 : Int).toNat = h 187 from kap_0 h])⟩ | exact ⟨hI, ktF_at (by omega) (by omega) (by rw [e31]; congr 1; omega)⟩)⟩
    · skip
      refine K_aload_n (pc := 22) (i := 12) rfl rfl ?_
      refine K_getR (pc := 23) (i := 13) (j := 3) (d := 187) rfl S_184 rfl (by decide) rfl fw_Model_16 ?_
      refine K_iconst (pc := 26) (i := 14) rfl ?_
      refine K_iload_n (pc := 27) (i := 15) rfl rfl ?_
      refine K_imul (pc := 28) (i := 16) rfl ?_
      refine K_iload_n (pc := 29) (i := 17) rfl rfl ?_
      refine K_iadd (pc := 30) (i := 18) rfl ?_
      refine K_iald (pc := 31) (i := 19) rfl S_187 (by omega) (by omega) (by decide) ?_
      refine K_nm (fun v31 e31 => ?_)
      have r31 := rd_mkites hI ((5 * x1) + x2).toNat
      rw [← e31] at r31
      refine K_goto 51 (pc := 32) (i := 20) rfl rfl ?_
      exact K_retI (pc := 51) (i := 30) rfl rfl ⟨fx, (by first | exact ⟨hI, ktF_o (by omega) (by omega) rfl⟩ | exact ⟨hI, ktF_e (by omega) (by omega) (by rw [r43.2, show kap h (0 : Int).toNat = h 187 from kap_0 h])⟩ | exact ⟨hI, ktF_at (by omega) (by omega) (by rw [e31]; congr 1; omega)⟩)⟩
  · skip
    refine K_iconst (pc := 8) (i := 4) rfl ?_
    exact K_retI (pc := 9) (i := 5) rfl rfl ⟨fx, ⟨hI, ktF_no (by omega) rfl⟩⟩
set_option maxHeartbeats 4000000 in
set_option maxRecDepth 100000 in
theorem c_Model_wind (G : kG) {g : kGh} {h : kH} {x1 : Int} {x2 : Int} (s1 : kR x1) (s2 : kR x2) (hI : Gd g h) : Ctr G y_Model_wind X_Model_wind 13 [.ref (G.2.2.2 184), kI x1, kI x2] h (kQi (fun z h' => Fx (fun c i => c = 188) h h' ∧ (Gd g h' ∧ CMwind h h' x1 x2 z))) := by
  refine Ctr.ofK (by decide) rfl T_Model_wind (Nat.le_of_ble_eq_true rfl) (lo := [(0, .ref (G.2.2.2 184)), (1, kI x1), (2, kI x2)]) rfl ?_
  have fx : Fx (fun c i => c = 188) h h := Fx.rf
  refine K_iload_n (pc := 0) (i := 0) rfl rfl ?_
  refine K_i2l (pc := 1) (i := 1) rfl ?_
  refine K_eqJ (kI2l_eq (a := x1) (by omega)) ?_
  refine K_lconst 1 (pc := 2) (i := 2) rfl rfl ?_
  refine K_ldc2 (9) (pc := 3) (i := 3) rfl cl_Model_80 (by decide) ?_
  refine K_cSI (pc := 6) (i := 4) rfl (c_Model_in G (l0 := x1) (l2 := 1) (l4 := 9) (s0 := by omega) (s2 := by omega) (s4 := by omega)) (ls_Model_65 rfl) rfl rfl rfl rfl (fun v6 h6 q6 => ?_)
  obtain ⟨eh, r6⟩ := q6
  rw [eh]; clear eh
  first | refine K_if_eq 26 (pc := 9) (i := 5) rfl rfl (by omega) (fun b9 => ?_) (fun b9 => ?_) | refine K_if_eq_an 26 (pc := 9) (i := 5) rfl rfl (fun b9 => ?_) (fun b9 => ?_)
  · skip
    refine K_bipush (pc := 26) (i := 12) rfl rfl ?_
    exact K_retI (pc := 28) (i := 13) rfl rfl ⟨fx, ⟨hI, Or.inr ⟨by omega, rfl, rfl⟩⟩⟩
  · skip
    refine K_iload_n (pc := 12) (i := 6) rfl rfl ?_
    refine K_i2l (pc := 13) (i := 7) rfl ?_
    refine K_eqJ (kI2l_eq (a := x2) (by omega)) ?_
    refine K_ldc2 (-3) (pc := 14) (i := 8) rfl cl_Model_112 (by decide) ?_
    refine K_ldc2 (3) (pc := 17) (i := 9) rfl cl_Model_114 (by decide) ?_
    refine K_cSI (pc := 20) (i := 10) rfl (c_Model_in G (l0 := x2) (l2 := -3) (l4 := 3) (s0 := by omega) (s2 := by omega) (s4 := by omega)) (ls_Model_65 rfl) rfl rfl rfl rfl (fun v20 h20 q20 => ?_)
    obtain ⟨eh, r20⟩ := q20
    rw [eh]; clear eh
    first | refine K_if_ne 29 (pc := 23) (i := 11) rfl rfl (by omega) (fun b23 => ?_) (fun b23 => ?_) | refine K_if_ne_an 29 (pc := 23) (i := 11) rfl rfl (fun b23 => ?_) (fun b23 => ?_)
    · skip
      refine K_aload_n (pc := 29) (i := 14) rfl rfl ?_
      refine K_getR (pc := 30) (i := 15) (j := 5) (d := 188) rfl S_184 rfl (by decide) rfl fw_Model_19 ?_
      refine K_iload_n (pc := 33) (i := 16) rfl rfl ?_
      refine K_iald (pc := 34) (i := 17) rfl S_188 (by omega) (by omega) (by decide) ?_
      refine K_nm (fun v34 e34 => ?_)
      have r34 := rd_mwinds hI (x1).toNat
      rw [← e34] at r34
      refine K_ist_n (pc := 35) (i := 18) (lo' := [(0, _), (1, _), (2, _), (3, _)]) rfl rfl rfl rfl ?_
      refine K_aload_n (pc := 36) (i := 19) rfl rfl ?_
      refine K_getR (pc := 37) (i := 20) (j := 5) (d := 188) rfl S_184 rfl (by decide) rfl fw_Model_19 ?_
      refine K_iload_n (pc := 40) (i := 21) rfl rfl ?_
      refine K_iload_n (pc := 41) (i := 22) rfl rfl ?_
      refine K_iast (pc := 42) (i := 23) rfl S_188 (by omega) (by omega) (by decide) ?_
      have hI := st_mwinds hI (i := (x1).toNat) (v := x2) (by omega)
      have fx := Fx.st (c := 188) (i := (x1).toNat) (v := x2) fx (by first | (dsimp only; omega) | omega | exact not_false)
      refine K_iload_n (pc := 43) (i := 24) rfl rfl ?_
      refine K_iconst (pc := 44) (i := 25) rfl ?_
      refine K_iadd (pc := 45) (i := 26) rfl ?_
      exact K_retI (pc := 46) (i := 27) rfl rfl ⟨fx, ⟨hI, Or.inl ⟨by omega, by rw [e34], fun j => kU_s _ _ _ _ j⟩⟩⟩
    · skip
      refine K_bipush (pc := 26) (i := 12) rfl rfl ?_
      exact K_retI (pc := 28) (i := 13) rfl rfl ⟨fx, ⟨hI, Or.inr ⟨by omega, rfl, rfl⟩⟩⟩
set_option maxHeartbeats 4000000 in
set_option maxRecDepth 100000 in
theorem c_Model_cross (G : kG) {g : kGh} {h : kH}  (hT : g.2.2.2.2){x1 : Int} {x2 : Int} (s1 : kR x1) (s2 : kR x2) (hI : Gd g h) : Ctr G y_Model_cross X_Model_cross 13 [.ref (G.2.2.2 184), kI x1, kI x2] h (kQi (fun z h' => Fx (fun c i => False) h h' ∧ (Gd g h' ∧ CMcross h x1 x2 z))) := by
  refine Ctr.ofK (by decide) rfl T_Model_cross (Nat.le_of_ble_eq_true rfl) (lo := [(0, .ref (G.2.2.2 184)), (1, kI x1), (2, kI x2)]) rfl ?_
  have fx : Fx (fun c i => False) h h := Fx.rf
  have hm8 := rd_many hI
  refine K_aload_n (pc := 0) (i := 0) rfl rfl ?_
  refine K_iload_n (pc := 1) (i := 1) rfl rfl ?_
  refine K_cVI (pc := 2) (i := 2) rfl (c_Model_isKite G (x1 := x1) (hI := hI) (s1 := by omega)) S_184 rfl (lv_Model_102 rfl) rfl rfl rfl rfl rfl (fun v2 h2 q2 => ?_)
  obtain ⟨eh, r2⟩ := q2
  rw [eh]; clear eh
  first | refine K_if_eq 16 (pc := 5) (i := 3) rfl rfl (by omega) (fun b5 => ?_) (fun b5 => ?_) | refine K_if_eq_an 16 (pc := 5) (i := 3) rfl rfl (fun b5 => ?_) (fun b5 => ?_)
  · skip
    refine K_iconst (pc := 16) (i := 8) rfl ?_
    exact K_retI (pc := 17) (i := 9) rfl rfl ⟨fx, ⟨hI, Or.inl ⟨by omega, rfl⟩⟩⟩
  · skip
    refine K_aload_n (pc := 8) (i := 4) rfl rfl ?_
    refine K_iload_n (pc := 9) (i := 5) rfl rfl ?_
    refine K_cVI (pc := 10) (i := 6) rfl (c_Model_isKite G (x1 := x2) (hI := hI) (s1 := by omega)) S_184 rfl (lv_Model_102 rfl) rfl rfl rfl rfl rfl (fun v10 h10 q10 => ?_)
    obtain ⟨eh, r10⟩ := q10
    rw [eh]; clear eh
    first | refine K_if_ne 18 (pc := 13) (i := 7) rfl rfl (by omega) (fun b13 => ?_) (fun b13 => ?_) | refine K_if_ne_an 18 (pc := 13) (i := 7) rfl rfl (fun b13 => ?_) (fun b13 => ?_)
    · skip
      refine K_iload_n (pc := 18) (i := 10) rfl rfl ?_
      refine K_iload_n (pc := 19) (i := 11) rfl rfl ?_
      first | refine K_icmp_ne 28 (pc := 20) (i := 12) rfl rfl (by omega) (by omega) (fun b20 => ?_) (fun b20 => ?_) | refine K_icmp_ne_an 28 (pc := 20) (i := 12) rfl rfl (fun b20 => ?_) (fun b20 => ?_)
      · skip
        refine K_aload_n (pc := 28) (i := 15) rfl rfl ?_
        refine K_iconst (pc := 29) (i := 16) rfl ?_
        refine K_iload_n (pc := 30) (i := 17) rfl rfl ?_
        refine K_iload_n (pc := 31) (i := 18) rfl rfl ?_
        refine K_cVI (pc := 32) (i := 19) rfl (c_Model_doCross G (x1 := 0) (x2 := x1) (x3 := x2) (hk := FK0 (hI.2.2.2.2.2 hT).1) (hI := hI) (hn := by omega) (s1 := by omega) (s2 := by omega) (s3 := by omega)) S_184 rfl (lv_Model_137 rfl) rfl rfl rfl rfl rfl (fun v32 h32 q32 => ?_)
        obtain ⟨eh, r32⟩ := q32
        rw [eh]; clear eh
        rw [show kap h (0 : Int).toNat = h 187 from kap_0 h] at r32
        first | refine K_if_eq 42 (pc := 35) (i := 20) rfl rfl (by omega) (fun b35 => ?_) (fun b35 => ?_) | refine K_if_eq_an 42 (pc := 35) (i := 20) rfl rfl (fun b35 => ?_) (fun b35 => ?_)
        · skip
          refine K_iconst (pc := 42) (i := 23) rfl ?_
          exact K_retI (pc := 43) (i := 24) rfl rfl ⟨fx, (by first | exact ⟨hI, Or.inr (Or.inl ⟨by omega, by omega, rfl⟩)⟩ | exact ⟨hI, Or.inr (Or.inr ⟨by omega, by omega, Or.inl ⟨rfl, r32.elim (fun q => q.2) (fun q => absurd q.1 (by omega))⟩⟩)⟩ | exact ⟨hI, Or.inr (Or.inr ⟨by omega, by omega, Or.inr ⟨rfl, r32.elim (fun q => absurd q.1 (by omega)) (fun q => q.2)⟩⟩)⟩)⟩
        · skip
          refine K_iconst (pc := 38) (i := 21) rfl ?_
          refine K_goto 43 (pc := 39) (i := 22) rfl rfl ?_
          exact K_retI (pc := 43) (i := 24) rfl rfl ⟨fx, (by first | exact ⟨hI, Or.inr (Or.inl ⟨by omega, by omega, rfl⟩)⟩ | exact ⟨hI, Or.inr (Or.inr ⟨by omega, by omega, Or.inl ⟨rfl, r32.elim (fun q => q.2) (fun q => absurd q.1 (by omega))⟩⟩)⟩ | exact ⟨hI, Or.inr (Or.inr ⟨by omega, by omega, Or.inr ⟨rfl, r32.elim (fun q => absurd q.1 (by omega)) (fun q => q.2)⟩⟩)⟩)⟩
      · skip
        refine K_bipush (pc := 23) (i := 13) rfl rfl ?_
        refine K_goto 43 (pc := 25) (i := 14) rfl rfl ?_
        exact K_retI (pc := 43) (i := 24) rfl rfl ⟨fx, (by first | exact ⟨hI, Or.inr (Or.inl ⟨by omega, by omega, rfl⟩)⟩ | exact ⟨hI, Or.inr (Or.inr ⟨by omega, by omega, Or.inl ⟨rfl, r32.elim (fun q => q.2) (fun q => absurd q.1 (by omega))⟩⟩)⟩ | exact ⟨hI, Or.inr (Or.inr ⟨by omega, by omega, Or.inr ⟨rfl, r32.elim (fun q => absurd q.1 (by omega)) (fun q => q.2)⟩⟩)⟩)⟩
    · skip
      refine K_iconst (pc := 16) (i := 8) rfl ?_
      exact K_retI (pc := 17) (i := 9) rfl rfl ⟨fx, ⟨hI, Or.inl ⟨by omega, rfl⟩⟩⟩
/-- what a town wins in n gusts -/
def CMafter (h : kH) (x n z : Int) : Prop := (¬ ((0 ≤ x ∧ x ≤ 1) ∧ 0 ≤ n ∧ n ≤ 20) ∧ z = -2) ∨ (((0 ≤ x ∧ x ≤ 1) ∧ 0 ≤ n ∧ n ≤ 20) ∧ ∃ (k0 k' : Nat → Int) (n' : Int) (d : Nat → Int), (∀ j, j < 40 → k0 j = h 187 j) ∧ MTK (h 188) n.toNat k0 (h 184 4) k' n' d ∧ z = d x.toNat)
set_option maxHeartbeats 4000000 in
set_option maxRecDepth 100000 in
theorem c_Model_after (G : kG) {g : kGh} {h : kH}  (hT : g.2.2.2.2){x1 : Int} {x2 : Int} (s1 : kR x1) (s2 : kR x2) (hI : Gd g h) : Ctr G y_Model_after X_Model_after 13 [.ref (G.2.2.2 184), kI x1, kI x2] h (kQi (fun z h' => Fx (fun c i => (c = 187 ∧ 40 ≤ i) ∨ c = 192) h h' ∧ (Gd g h' ∧ CMafter h x1 x2 z))) := by
  refine Ctr.ofK (by decide) rfl T_Model_after (Nat.le_of_ble_eq_true rfl) (lo := [(0, .ref (G.2.2.2 184)), (1, kI x1), (2, kI x2)]) rfl ?_
  have fx : Fx (fun c i => (c = 187 ∧ 40 ≤ i) ∨ c = 192) h h := Fx.rf
  refine K_iload_n (pc := 0) (i := 0) rfl rfl ?_
  refine K_i2l (pc := 1) (i := 1) rfl ?_
  refine K_eqJ (kI2l_eq (a := x1) (by omega)) ?_
  refine K_lconst 0 (pc := 2) (i := 2) rfl rfl ?_
  refine K_lconst 1 (pc := 3) (i := 3) rfl rfl ?_
  refine K_cSI (pc := 4) (i := 4) rfl (c_Model_in G (l0 := x1) (l2 := 0) (l4 := 1) (s0 := by omega) (s2 := by omega) (s4 := by omega)) (ls_Model_65 rfl) rfl rfl rfl rfl (fun v4 h4 q4 => ?_)
  obtain ⟨eh, r4⟩ := q4
  rw [eh]; clear eh
  first | refine K_if_eq 22 (pc := 7) (i := 5) rfl rfl (by omega) (fun b7 => ?_) (fun b7 => ?_) | refine K_if_eq_an 22 (pc := 7) (i := 5) rfl rfl (fun b7 => ?_) (fun b7 => ?_)
  · skip
    refine K_bipush (pc := 22) (i := 12) rfl rfl ?_
    exact K_retI (pc := 24) (i := 13) rfl rfl ⟨fx, ⟨hI, Or.inl ⟨by omega, rfl⟩⟩⟩
  · skip
    refine K_iload_n (pc := 10) (i := 6) rfl rfl ?_
    refine K_i2l (pc := 11) (i := 7) rfl ?_
    refine K_eqJ (kI2l_eq (a := x2) (by omega)) ?_
    refine K_lconst 0 (pc := 12) (i := 8) rfl rfl ?_
    refine K_ldc2 (20) (pc := 13) (i := 9) rfl cl_Model_163 (by decide) ?_
    refine K_cSI (pc := 16) (i := 10) rfl (c_Model_in G (l0 := x2) (l2 := 0) (l4 := 20) (s0 := by omega) (s2 := by omega) (s4 := by omega)) (ls_Model_65 rfl) rfl rfl rfl rfl (fun v16 h16 q16 => ?_)
    obtain ⟨eh, r16⟩ := q16
    rw [eh]; clear eh
    first | refine K_if_ne 25 (pc := 19) (i := 11) rfl rfl (by omega) (fun b19 => ?_) (fun b19 => ?_) | refine K_if_ne_an 25 (pc := 19) (i := 11) rfl rfl (fun b19 => ?_) (fun b19 => ?_)
    · skip
      have hJ := hI
      refine K_aload_n (pc := 25) (i := 14) rfl rfl ?_
      refine K_cVV (pc := 26) (i := 15) rfl (c_Model_copy G (hI := hI)) S_184 rfl (lv_Model_165 rfl) rfl rfl rfl rfl rfl (fun h26 q26 => ?_)
      obtain ⟨fx26, q26⟩ := q26
      obtain ⟨hI, cp26⟩ := q26
      have fx := fx.tr fx26 (fun c i q => (by first | (dsimp only at q ⊢; omega) | omega))
      have fk26 : FK (kap h26 40) (h26 184 4) := by rw [fx26 184 4 (by first | (dsimp only; omega) | omega | exact not_false)]; exact FK.copy (hJ.2.2.2.2.2 hT).1 (rd_many hJ).2 cp26
      refine K_aload_n (pc := 29) (i := 16) rfl rfl ?_
      refine K_aload_n (pc := 30) (i := 17) rfl rfl ?_
      refine K_getI (pc := 31) (i := 18) (j := 4) rfl S_184 rfl (by decide) rfl fw_Model_59 ?_
      refine K_nm (fun v31 e31 => ?_)
      have r31 := rd_many hI
      rw [← e31] at r31
      have t31 : v31 = h 184 4 := by rw [e31]; exact fx26 184 4 (by first | (dsimp only; omega) | omega | exact not_false)
      refine K_iload_n (pc := 34) (i := 19) rfl rfl ?_
      refine K_cVV (pc := 35) (i := 20) rfl (c_Model_blowAll G (x1 := v31) (x2 := x2) (hk := by rw [e31]; exact fk26) (hI := hI) (s1 := by omega) (s2 := by omega)) S_184 rfl (lv_Model_168 rfl) rfl rfl rfl rfl rfl (fun h35 q35 => ?_)
      obtain ⟨fx35, q35⟩ := q35
      obtain ⟨hI, ga35, mt35⟩ := q35
      have fx := fx.tr fx35 (fun c i q => (by first | (dsimp only at q ⊢; omega) | omega))
      refine K_aload_n (pc := 38) (i := 21) rfl rfl ?_
      refine K_getR (pc := 39) (i := 22) (j := 14) (d := 192) rfl S_184 rfl (by decide) rfl fw_Model_31 ?_
      refine K_iload_n (pc := 42) (i := 23) rfl rfl ?_
      refine K_iald (pc := 43) (i := 24) rfl S_192 (by omega) (by omega) (by decide) ?_
      refine K_nm (fun v43 e43 => ?_)
      exact K_retI (pc := 44) (i := 25) rfl rfl ⟨fx, ⟨hI, Or.inr ⟨by omega, by obtain ⟨k', n', q⟩ := mt35; rw [fx26.cell 188 (fun i => (by first | (dsimp only; omega) | omega | exact not_false)), t31] at q; exact ⟨_, k', n', _, fun j hj => cp26 j hj, q, e43⟩⟩⟩⟩
    · skip
      refine K_bipush (pc := 22) (i := 12) rfl rfl ?_
      exact K_retI (pc := 24) (i := 13) rfl rfl ⟨fx, ⟨hI, Or.inl ⟨by omega, rfl⟩⟩⟩
set_option maxHeartbeats 4000000 in
set_option maxRecDepth 100000 in
theorem c_Model_count (G : kG) {g : kGh} {h : kH} {x1 : Int} (s1 : kR x1) (hI : Gd g h) : Ctr G y_Model_count X_Model_count 13 [.ref (G.2.2.2 184), kI x1] h (kQi (fun z h' => Fx (fun c i => False) h h' ∧ (Gd g h' ∧ z = ctF (h 184 8) (h 184 4) (cnt (fun i => h 187 (5 * i)) 0 (h 184 4).toNat) (h 189 0) (h 189 1) (h 184 11) (h 184 16) x1))) := by
  refine Ctr.ofK (by decide) rfl T_Model_count (Nat.le_of_ble_eq_true rfl) (lo := [(0, .ref (G.2.2.2 184)), (1, kI x1)]) rfl ?_
  have fx : Fx (fun c i => False) h h := Fx.rf
  refine K_iload_n (pc := 0) (i := 0) rfl rfl ?_
  by_cases sw1 : (0 : Int) ≤ x1 ∧ x1 ≤ 6
  · skip
    rcases (show x1 = 0 ∨ x1 = 1 ∨ x1 = 2 ∨ x1 = 3 ∨ x1 = 4 ∨ x1 = 5 ∨ x1 = 6 by omega) with sx1 | sx1 | sx1 | sx1 | sx1 | sx1 | sx1
    · refine K_tableIn 44 (by omega) (pc := 1) (i := 1) rfl (by omega) (by omega) (by rw [sx1]; rfl) rfl ?_
      refine K_aload_n (pc := 44) (i := 2) rfl rfl ?_
      refine K_getI (pc := 45) (i := 3) (j := 8) rfl S_184 rfl (by decide) rfl fw_Model_69 ?_
      refine K_nm (fun v45 e45 => ?_)
      have r45 := rd_mlength hI
      rw [← e45] at r45
      exact K_retI (pc := 48) (i := 4) rfl rfl ⟨fx, ⟨hI, by rw [sx1, e45]; rfl⟩⟩
    · refine K_tableIn 49 (by omega) (pc := 1) (i := 1) rfl (by omega) (by omega) (by rw [sx1]; rfl) rfl ?_
      refine K_aload_n (pc := 49) (i := 5) rfl rfl ?_
      refine K_getI (pc := 50) (i := 6) (j := 4) rfl S_184 rfl (by decide) rfl fw_Model_59 ?_
      refine K_nm (fun v50 e50 => ?_)
      have r50 := rd_many hI
      rw [← e50] at r50
      exact K_retI (pc := 53) (i := 7) rfl rfl ⟨fx, ⟨hI, by rw [sx1, e50]; rfl⟩⟩
    · refine K_tableIn 54 (by omega) (pc := 1) (i := 1) rfl (by omega) (by omega) (by rw [sx1]; rfl) rfl ?_
      refine K_aload_n (pc := 54) (i := 8) rfl rfl ?_
      refine K_iconst (pc := 55) (i := 9) rfl ?_
      refine K_cVI (pc := 56) (i := 10) rfl (c_Model_kitesOf G (x1 := 0) (hI := hI) (s1 := by omega)) S_184 rfl (lv_Model_175 rfl) rfl rfl rfl rfl rfl (fun v56 h56 q56 => ?_)
      obtain ⟨eh, r56⟩ := q56
      rw [eh]; clear eh
      exact K_retI (pc := 59) (i := 11) rfl rfl ⟨fx, ⟨hI, by rw [sx1, r56.2]; rfl⟩⟩
    · refine K_tableIn 60 (by omega) (pc := 1) (i := 1) rfl (by omega) (by omega) (by rw [sx1]; rfl) rfl ?_
      refine K_aload_n (pc := 60) (i := 12) rfl rfl ?_
      refine K_getR (pc := 61) (i := 13) (j := 6) (d := 189) rfl S_184 rfl (by decide) rfl fw_Model_22 ?_
      refine K_iconst (pc := 64) (i := 14) rfl ?_
      refine K_iald (pc := 65) (i := 15) rfl S_189 (by omega) (by omega) (by decide) ?_
      refine K_nm (fun v65 e65 => ?_)
      exact K_retI (pc := 66) (i := 16) rfl rfl ⟨fx, ⟨hI, by rw [sx1, e65]; rfl⟩⟩
    · refine K_tableIn 67 (by omega) (pc := 1) (i := 1) rfl (by omega) (by omega) (by rw [sx1]; rfl) rfl ?_
      refine K_aload_n (pc := 67) (i := 17) rfl rfl ?_
      refine K_getR (pc := 68) (i := 18) (j := 6) (d := 189) rfl S_184 rfl (by decide) rfl fw_Model_22 ?_
      refine K_iconst (pc := 71) (i := 19) rfl ?_
      refine K_iald (pc := 72) (i := 20) rfl S_189 (by omega) (by omega) (by decide) ?_
      refine K_nm (fun v72 e72 => ?_)
      exact K_retI (pc := 73) (i := 21) rfl rfl ⟨fx, ⟨hI, by rw [sx1, e72]; rfl⟩⟩
    · refine K_tableIn 74 (by omega) (pc := 1) (i := 1) rfl (by omega) (by omega) (by rw [sx1]; rfl) rfl ?_
      refine K_aload_n (pc := 74) (i := 22) rfl rfl ?_
      refine K_getI (pc := 75) (i := 23) (j := 11) rfl S_184 rfl (by decide) rfl fw_Model_99 ?_
      refine K_nm (fun v75 e75 => ?_)
      have r75 := rd_macts hI
      rw [← e75] at r75
      exact K_retI (pc := 78) (i := 24) rfl rfl ⟨fx, ⟨hI, by rw [sx1, e75]; rfl⟩⟩
    · refine K_tableIn 79 (by omega) (pc := 1) (i := 1) rfl (by omega) (by omega) (by rw [sx1]; rfl) rfl ?_
      refine K_aload_n (pc := 79) (i := 25) rfl rfl ?_
      refine K_getI (pc := 80) (i := 26) (j := 16) rfl S_184 rfl (by decide) rfl fw_Model_192 ?_
      refine K_nm (fun v80 e80 => ?_)
      have r80 := rd_mseen hI
      rw [← e80] at r80
      exact K_retI (pc := 83) (i := 27) rfl rfl ⟨fx, ⟨hI, by rw [sx1, e80]; rfl⟩⟩
  · refine K_tableOut 84 (by omega) (pc := 1) (i := 1) rfl (by omega) rfl ?_
    refine K_bipush (pc := 84) (i := 28) rfl rfl ?_
    exact K_retI (pc := 86) (i := 29) rfl rfl ⟨fx, ⟨hI, by unfold ctF; rw [if_neg (by omega), if_neg (by omega), if_neg (by omega), if_neg (by omega), if_neg (by omega), if_neg (by omega), if_neg (by omega)]⟩⟩
set_option maxHeartbeats 4000000 in
set_option maxRecDepth 100000 in
theorem c_Model_unsee (G : kG) {g : kGh} {h : kH}  (hI : Gd g h) : Ctr G y_Model_unsee X_Model_unsee 13 [.ref (G.2.2.2 184)] h (kQi (fun z h' => Fx (fun c i => c = 184 ∧ i = 16) h h' ∧ (Gd g h' ∧ z = h 184 16 ∧ h' 184 16 = 0))) := by
  refine Ctr.ofK (by decide) rfl T_Model_unsee (Nat.le_of_ble_eq_true rfl) (lo := [(0, .ref (G.2.2.2 184))]) rfl ?_
  have fx : Fx (fun c i => c = 184 ∧ i = 16) h h := Fx.rf
  refine K_aload_n (pc := 0) (i := 0) rfl rfl ?_
  refine K_getI (pc := 1) (i := 1) (j := 16) rfl S_184 rfl (by decide) rfl fw_Model_192 ?_
  refine K_nm (fun v1 e1 => ?_)
  have r1 := rd_mseen hI
  rw [← e1] at r1
  refine K_ist_n (pc := 4) (i := 2) (lo' := [(0, _), (1, _)]) rfl rfl rfl rfl ?_
  refine K_aload_n (pc := 5) (i := 3) rfl rfl ?_
  refine K_iconst (pc := 6) (i := 4) rfl ?_
  refine K_putI (pc := 7) (i := 5) (j := 16) rfl S_184 rfl (by decide) rfl rfl rfl fw_Model_192 ?_
  have hI := st_mseen hI (v := 0) (by omega)
  have fx := Fx.st (c := 184) (i := 16) (v := 0) fx (by first | (dsimp only; omega) | omega | exact not_false)
  refine K_iload_n (pc := 10) (i := 6) rfl rfl ?_
  exact K_retI (pc := 11) (i := 7) rfl rfl ⟨fx, ⟨hI, e1, by rw [kU_at, if_pos ⟨rfl, rfl⟩]⟩⟩
theorem kU5 {h : kH} {n : Nat} {a b c w : Int} : (∀ j, kU (kU (kU (kU h 193 n a) 194 n b) 195 n c) 184 16 w 193 j = if j = n then a else h 193 j) ∧ (∀ j, kU (kU (kU (kU h 193 n a) 194 n b) 195 n c) 184 16 w 194 j = if j = n then b else h 194 j) ∧ (∀ j, kU (kU (kU (kU h 193 n a) 194 n b) 195 n c) 184 16 w 195 j = if j = n then c else h 195 j) ∧ kU (kU (kU (kU h 193 n a) 194 n b) 195 n c) 184 16 w 184 16 = w := by
  refine ⟨fun j => ?_, fun j => ?_, fun j => ?_, ?_⟩ <;> simp [kU]
set_option maxHeartbeats 4000000 in
set_option maxRecDepth 100000 in
theorem c_Model_see (G : kG) {g : kGh} {h : kH} {x1 : Int} {x2 : Int} {x3 : Int} (s1 : kR x1) (s2 : kR x2) (s3 : x3 = 0 ∨ x3 = 1) (hI : Gd g h) : Ctr G y_Model_see X_Model_see 13 [.ref (G.2.2.2 184), kI x1, kI x2, kI x3] h (kQi (fun z h' => Fx (fun c i => c = 193 ∨ c = 194 ∨ c = 195 ∨ (c = 184 ∧ i = 16)) h h' ∧ (Gd g h' ∧ CMsee h h' x1 x2 x3 z))) := by
  refine Ctr.ofK (by decide) rfl T_Model_see (Nat.le_of_ble_eq_true rfl) (lo := [(0, .ref (G.2.2.2 184)), (1, kI x1), (2, kI x2), (3, kI x3)]) rfl ?_
  have fx : Fx (fun c i => c = 193 ∨ c = 194 ∨ c = 195 ∨ (c = 184 ∧ i = 16)) h h := Fx.rf
  refine K_aload_n (pc := 0) (i := 0) rfl rfl ?_
  refine K_iload_n (pc := 1) (i := 1) rfl rfl ?_
  refine K_cVI (pc := 2) (i := 2) rfl (c_Model_isKite G (x1 := x1) (hI := hI) (s1 := by omega)) S_184 rfl (lv_Model_102 rfl) rfl rfl rfl rfl rfl (fun v2 h2 q2 => ?_)
  obtain ⟨eh, r2⟩ := q2
  rw [eh]; clear eh
  first | refine K_if_eq 26 (pc := 5) (i := 3) rfl rfl (by omega) (fun b5 => ?_) (fun b5 => ?_) | refine K_if_eq_an 26 (pc := 5) (i := 3) rfl rfl (fun b5 => ?_) (fun b5 => ?_)
  · skip
    refine K_iconst (pc := 26) (i := 14) rfl ?_
    exact K_retI (pc := 27) (i := 15) rfl rfl ⟨fx, ⟨hI, Or.inl ⟨by omega, rfl, rfl⟩⟩⟩
  · skip
    refine K_aload_n (pc := 8) (i := 4) rfl rfl ?_
    refine K_iload_n (pc := 9) (i := 5) rfl rfl ?_
    refine K_cVI (pc := 10) (i := 6) rfl (c_Model_isKite G (x1 := x2) (hI := hI) (s1 := by omega)) S_184 rfl (lv_Model_102 rfl) rfl rfl rfl rfl rfl (fun v10 h10 q10 => ?_)
    obtain ⟨eh, r10⟩ := q10
    rw [eh]; clear eh
    first | refine K_if_eq 26 (pc := 13) (i := 7) rfl rfl (by omega) (fun b13 => ?_) (fun b13 => ?_) | refine K_if_eq_an 26 (pc := 13) (i := 7) rfl rfl (fun b13 => ?_) (fun b13 => ?_)
    · skip
      refine K_iconst (pc := 26) (i := 14) rfl ?_
      exact K_retI (pc := 27) (i := 15) rfl rfl ⟨fx, ⟨hI, Or.inl ⟨by omega, rfl, rfl⟩⟩⟩
    · skip
      refine K_iload_n (pc := 16) (i := 8) rfl rfl ?_
      refine K_iconst (pc := 17) (i := 9) rfl ?_
      first | refine K_icmp_gt 26 (pc := 18) (i := 10) rfl rfl (by omega) (by omega) (fun b18 => ?_) (fun b18 => ?_) | refine K_icmp_gt_an 26 (pc := 18) (i := 10) rfl rfl (fun b18 => ?_) (fun b18 => ?_)
      · skip
        refine K_iconst (pc := 26) (i := 14) rfl ?_
        exact K_retI (pc := 27) (i := 15) rfl rfl ⟨fx, ⟨hI, Or.inl ⟨by omega, rfl, rfl⟩⟩⟩
      · skip
        refine K_iload_n (pc := 21) (i := 11) rfl rfl ?_
        refine K_iconst (pc := 22) (i := 12) rfl ?_
        first | refine K_icmp_le 28 (pc := 23) (i := 13) rfl rfl (by omega) (by omega) (fun b23 => ?_) (fun b23 => ?_) | refine K_icmp_le_an 28 (pc := 23) (i := 13) rfl rfl (fun b23 => ?_) (fun b23 => ?_)
        · skip
          refine K_iload_n (pc := 28) (i := 16) rfl rfl ?_
          refine K_iload_n (pc := 29) (i := 17) rfl rfl ?_
          first | refine K_icmp_ne 36 (pc := 30) (i := 18) rfl rfl (by omega) (by omega) (fun b30 => ?_) (fun b30 => ?_) | refine K_icmp_ne_an 36 (pc := 30) (i := 18) rfl rfl (fun b30 => ?_) (fun b30 => ?_)
          · skip
            refine K_aload_n (pc := 36) (i := 21) rfl rfl ?_
            refine K_getI (pc := 37) (i := 22) (j := 16) rfl S_184 rfl (by decide) rfl fw_Model_192 ?_
            refine K_nm (fun v37 e37 => ?_)
            have r37 := rd_mseen hI
            rw [← e37] at r37
            refine K_bipush (pc := 40) (i := 23) rfl rfl ?_
            first | refine K_icmp_ne 48 (pc := 42) (i := 24) rfl rfl (by omega) (by omega) (fun b42 => ?_) (fun b42 => ?_) | refine K_icmp_ne_an 48 (pc := 42) (i := 24) rfl rfl (fun b42 => ?_) (fun b42 => ?_)
            · skip
              refine K_aload_n (pc := 48) (i := 27) rfl rfl ?_
              refine K_getR (pc := 49) (i := 28) (j := 17) (d := 193) rfl S_184 rfl (by decide) rfl fw_Model_34 ?_
              refine K_aload_n (pc := 52) (i := 29) rfl rfl ?_
              refine K_getI (pc := 53) (i := 30) (j := 16) rfl S_184 rfl (by decide) rfl fw_Model_192 ?_
              refine K_nm (fun v53 e53 => ?_)
              have r53 := rd_mseen hI
              rw [← e53] at r53
              have t53 : v53 = v37 := by rw [e53, e37]; try simp [kU]
              refine K_iload_n (pc := 56) (i := 31) rfl rfl ?_
              refine K_iast (pc := 57) (i := 32) rfl S_193 (by omega) (by omega) (by decide) ?_
              have hI := st_mseenone hI (i := (v53).toNat) (v := x1) (by omega)
              have fx := Fx.st (c := 193) (i := (v53).toNat) (v := x1) fx (by first | (dsimp only; omega) | omega | exact not_false)
              refine K_aload_n (pc := 58) (i := 33) rfl rfl ?_
              refine K_getR (pc := 59) (i := 34) (j := 18) (d := 194) rfl S_184 rfl (by decide) rfl fw_Model_37 ?_
              refine K_aload_n (pc := 62) (i := 35) rfl rfl ?_
              refine K_getI (pc := 63) (i := 36) (j := 16) rfl S_184 rfl (by decide) rfl fw_Model_192 ?_
              refine K_nm (fun v63 e63 => ?_)
              have r63 := rd_mseen hI
              rw [← e63] at r63
              have t63 : v63 = v37 := by rw [e63, e37]; try simp [kU]
              refine K_iload_n (pc := 66) (i := 37) rfl rfl ?_
              refine K_iast (pc := 67) (i := 38) rfl S_194 (by omega) (by omega) (by decide) ?_
              have hI := st_mseenother hI (i := (v63).toNat) (v := x2) (by omega)
              have fx := Fx.st (c := 194) (i := (v63).toNat) (v := x2) fx (by first | (dsimp only; omega) | omega | exact not_false)
              refine K_aload_n (pc := 68) (i := 39) rfl rfl ?_
              refine K_getR (pc := 69) (i := 40) (j := 19) (d := 195) rfl S_184 rfl (by decide) rfl fw_Model_40 ?_
              refine K_aload_n (pc := 72) (i := 41) rfl rfl ?_
              refine K_getI (pc := 73) (i := 42) (j := 16) rfl S_184 rfl (by decide) rfl fw_Model_192 ?_
              refine K_nm (fun v73 e73 => ?_)
              have r73 := rd_mseen hI
              rw [← e73] at r73
              have t73 : v73 = v37 := by rw [e73, e37]; try simp [kU]
              refine K_iload_n (pc := 76) (i := 43) rfl rfl ?_
              refine K_bast (pc := 77) (i := 44) rfl S_195 (by omega) (by omega) (by decide) (by omega) ?_
              have hI := st_seenCross hI (i := (v73).toNat) (v := x3) (by omega)
              have fx := Fx.st (c := 195) (i := (v73).toNat) (v := x3) fx (by first | (dsimp only; omega) | omega | exact not_false)
              refine K_aload_n (pc := 78) (i := 45) rfl rfl ?_
              refine K_dup (pc := 79) (i := 46) rfl rfl ?_
              refine K_getI (pc := 80) (i := 47) (j := 16) rfl S_184 rfl (by decide) rfl fw_Model_192 ?_
              refine K_nm (fun v80 e80 => ?_)
              have r80 := rd_mseen hI
              rw [← e80] at r80
              have t80 : v80 = v37 := by rw [e80, e37]; try simp [kU]
              refine K_iconst (pc := 83) (i := 48) rfl ?_
              refine K_iadd (pc := 84) (i := 49) rfl ?_
              refine K_putI (pc := 85) (i := 50) (j := 16) rfl S_184 rfl (by decide) rfl rfl rfl fw_Model_192 ?_
              have hI := st_mseen hI (v := v80 + 1) (by omega)
              have fx := Fx.st (c := 184) (i := 16) (v := v80 + 1) fx (by first | (dsimp only; omega) | omega | exact not_false)
              refine K_aload_n (pc := 88) (i := 51) rfl rfl ?_
              refine K_getI (pc := 89) (i := 52) (j := 16) rfl S_184 rfl (by decide) rfl fw_Model_192 ?_
              refine K_nm (fun v89 e89 => ?_)
              have r89 := rd_mseen hI
              rw [← e89] at r89
              have t89 : v89 = v37 + 1 := by rw [e89, kU_at, if_pos ⟨rfl, rfl⟩, t80]
              exact K_retI (pc := 92) (i := 53) rfl rfl ⟨fx, ⟨hI, Or.inr (Or.inr (Or.inr ⟨by omega, by omega, by omega, by rw [t89, e37], by rw [t53, t63, t73, t80, ← e37]; exact kU5.2.2.2, by rw [t53, t63, t73, t80, ← e37]; exact kU5.1, by rw [t53, t63, t73, t80, ← e37]; exact kU5.2.1, by rw [t53, t63, t73, t80, ← e37]; exact kU5.2.2.1⟩))⟩⟩
            · skip
              refine K_bipush (pc := 45) (i := 25) rfl rfl ?_
              exact K_retI (pc := 47) (i := 26) rfl rfl ⟨fx, ⟨hI, Or.inr (Or.inr (Or.inl ⟨by omega, by omega, by omega, rfl, rfl⟩))⟩⟩
          · skip
            refine K_bipush (pc := 33) (i := 19) rfl rfl ?_
            exact K_retI (pc := 35) (i := 20) rfl rfl ⟨fx, ⟨hI, Or.inr (Or.inl ⟨by omega, by omega, rfl, rfl⟩)⟩⟩
        · skip
          refine K_iconst (pc := 26) (i := 14) rfl ?_
          exact K_retI (pc := 27) (i := 15) rfl rfl ⟨fx, ⟨hI, Or.inl ⟨by omega, rfl, rfl⟩⟩⟩
