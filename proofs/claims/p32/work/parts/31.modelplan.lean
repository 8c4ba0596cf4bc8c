section
set_option maxHeartbeats 4000000 in
set_option maxRecDepth 100000 in
theorem c_Model_kite (G : kG) {g : kGh} {h : kH} {x1 : Int} {x2 : Int} (s1 : kR x1) (s2 : kR x2) (hI : Gd g h) : Ctr G y_Model_kite X_Model_kite 13 [.ref (G.2.2.2 184), kI x1, kI x2] h (kQi (fun z h' => Fx (fun c i => False) h h' ∧ (Gd g h' ∧ z = ktF (h 184 4) (fun i a => h 187 (5 * i + a)) (fun i => egK (h 187) (h 188) i) x1 x2))) := by
  refine Ctr.ofK (by decide) rfl T_Model_kite (Nat.le_of_ble_eq_true rfl) (lo := [(0, .ref (G.2.2.2 184)), (1, kI x1), (2, kI x2)]) rfl ?_
  have fx : Fx (fun c i => False) h h := Fx.rf
  refine K_aload_n (pc := 0) (i := 0) rfl rfl ?_
  refine K_iload_n (pc := 1) (i := 1) rfl rfl ?_
  refine K_cVI (pc := 2) (i := 2) rfl (c_Model_isKite G (x1 := x1) (hI := hI) (s1 := by omega)) S_184 rfl (lv_Model_102 rfl) rfl rfl rfl rfl rfl (fun v2 h2 q2 => ?_)
  obtain ⟨eh, r2⟩ := q2
  rw [eh]; clear eh
  first | refine K_if_ne 10 (pc := 5) (i := 3) rfl rfl (by omega) (fun b5 => ?_) (fun b5 => ?_) | refine K_if_ne_an 10 (pc := 5) (i := 3) rfl rfl (fun b5 => ?_) (fun b5 => ?_)
  · skip
    refine K_iload_n (pc := 10) (i := 6) rfl rfl ?_
    refine K_i2l (pc := 11) (i := 7) rfl ?_
    refine K_eqJ (kI2l_eq (a := x2) (by omega)) ?_
    refine K_lconst 0 (pc := 12) (i := 8) rfl rfl ?_
    refine K_ldc2 (4) (pc := 13) (i := 9) rfl cl_Model_106 (by decide) ?_
    refine K_cSI (pc := 16) (i := 10) rfl (c_Model_in G (l0 := x2) (l2 := 0) (l4 := 4) (s0 := by omega) (s2 := by omega) (s4 := by omega)) (ls_Model_65 rfl) rfl rfl rfl rfl (fun v16 h16 q16 => ?_)
    obtain ⟨eh, r16⟩ := q16
    rw [eh]; clear eh
    first | refine K_if_eq 35 (pc := 19) (i := 11) rfl rfl (by omega) (fun b19 => ?_) (fun b19 => ?_) | refine K_if_eq_an 35 (pc := 19) (i := 11) rfl rfl (fun b19 => ?_) (fun b19 => ?_)
    · skip
      refine K_iload_n (pc := 35) (i := 21) rfl rfl ?_
      refine K_iconst (pc := 36) (i := 22) rfl ?_
      first | refine K_icmp_ne 49 (pc := 37) (i := 23) rfl rfl (by omega) (by omega) (fun b37 => ?_) (fun b37 => ?_) | refine K_icmp_ne_an 49 (pc := 37) (i := 23) rfl rfl (fun b37 => ?_) (fun b37 => ?_)
      · skip
        refine K_bipush (pc := 49) (i := 29) rfl rfl ?_
        exact K_retI (pc := 51) (i := 30) rfl rfl ⟨fx, (by first | exact ⟨hI, ktF_o (by omega) (by omega) rfl⟩ | exact ⟨hI, ktF_e (by omega) (by omega) (by rw [r43.2, show kap h (0 : Int).toNat = h 187 from kap_0 h])⟩ | exact ⟨hI, ktF_at (by omega) (by omega) (by rw [e31]; congr 1; omega)⟩)⟩
      · skip
        refine K_aload_n (pc := 40) (i := 24) rfl rfl ?_
        refine K_iconst (pc := 41) (i := 25) rfl ?_
        refine K_iload_n (pc := 42) (i := 26) rfl rfl ?_
        refine K_cVI (pc := 43) (i := 27) rfl (c_Model_edgeOf G (x1 := 0) (x2 := x1) (hI := hI) (s1 := by omega) (s2 := by omega)) S_184 rfl (lv_Model_108 rfl) rfl rfl rfl rfl rfl (fun v43 h43 q43 => ?_)
        obtain ⟨eh, r43⟩ := q43
        rw [eh]; clear eh
        refine K_goto 51 (pc := 46) (i := 28) rfl rfl ?_
        exact K_retI (pc := 51) (i := 30) rfl rfl ⟨fx, (by first | exact ⟨hI, ktF_o (by omega) (by omega) rfl⟩ | exact ⟨hI, ktF_e (by omega) (by omega) (by rw [r43.2, show kap h (0 : Int).toNat = h 187 from kap_0 h])⟩ | exact ⟨hI, ktF_at (by omega) (by omega) (by rw [e31]; congr 1; omega)⟩)⟩
    · skip
      refine K_aload_n (pc := 22) (i := 12) rfl rfl ?_
      refine K_getR (pc := 23) (i := 13) (j := 3) (d := 187) rfl S_184 rfl (by decide) rfl fw_Model_16 ?_
      refine K_iconst (pc := 26) (i := 14) rfl ?_
      refine K_iload_n (pc := 27) (i := 15) rfl rfl ?_
      refine K_imul (pc := 28) (i := 16) rfl ?_
      refine K_iload_n (pc := 29) (i := 17) rfl rfl ?_
      refine K_iadd (pc := 30) (i := 18) rfl ?_
      refine K_iald (pc := 31) (i := 19) rfl S_187 (by omega) (by omega) (by decide) ?_
      refine K_nm (fun v31 e31 => ?_)
      have r31 := rd_mkites hI ((5 * x1) + x2).toNat
      rw [← e31] at r31
      refine K_goto 51 (pc := 32) (i := 20) rfl rfl ?_
      exact K_retI (pc := 51) (i := 30) rfl rfl ⟨fx, (by first | exact ⟨hI, ktF_o (by omega) (by omega) rfl⟩ | exact ⟨hI, ktF_e (by omega) (by omega) (by rw [r43.2, show kap h (0 : Int).toNat = h 187 from kap_0 h])⟩ | exact ⟨hI, ktF_at (by omega) (by omega) (by rw [e31]; congr 1; omega)⟩)⟩
  · skip
    refine K_iconst (pc := 8) (i := 4) rfl ?_
    exact K_retI (pc := 9) (i := 5) rfl rfl ⟨fx, ⟨hI, ktF_no (by omega) rfl⟩⟩
set_option maxHeartbeats 4000000 in
set_option maxRecDepth 100000 in
theorem c_Model_wind (G : kG) {g : kGh} {h : kH} {x1 : Int} {x2 : Int} (s1 : kR x1) (s2 : kR x2) (hI : Gd g h) : Ctr G y_Model_wind X_Model_wind 13 [.ref (G.2.2.2 184), kI x1, kI x2] h (kQi (fun z h' => Fx (fun c i => c = 188) h h' ∧ (Gd g h' ∧ CMwind h h' x1 x2 z))) := by
  refine Ctr.ofK (by decide) rfl T_Model_wind (Nat.le_of_ble_eq_true rfl) (lo := [(0, .ref (G.2.2.2 184)), (1, kI x1), (2, kI x2)]) rfl ?_
  have fx : Fx (fun c i => c = 188) h h := Fx.rf
  refine K_iload_n (pc := 0) (i := 0) rfl rfl ?_
  refine K_i2l (pc := 1) (i := 1) rfl ?_
  refine K_eqJ (kI2l_eq (a := x1) (by omega)) ?_
  refine K_lconst 1 (pc := 2) (i := 2) rfl rfl ?_
  refine K_ldc2 (9) (pc := 3) (i := 3) rfl cl_Model_80 (by decide) ?_
  refine K_cSI (pc := 6) (i := 4) rfl (c_Model_in G (l0 := x1) (l2 := 1) (l4 := 9) (s0 := by omega) (s2 := by omega) (s4 := by omega)) (ls_Model_65 rfl) rfl rfl rfl rfl (fun v6 h6 q6 => ?_)
  obtain ⟨eh, r6⟩ := q6
  rw [eh]; clear eh
  first | refine K_if_eq 26 (pc := 9) (i := 5) rfl rfl (by omega) (fun b9 => ?_) (fun b9 => ?_) | refine K_if_eq_an 26 (pc := 9) (i := 5) rfl rfl (fun b9 => ?_) (fun b9 => ?_)
  · skip
    refine K_bipush (pc := 26) (i := 12) rfl rfl ?_
    exact K_retI (pc := 28) (i := 13) rfl rfl ⟨fx, ⟨hI, Or.inr ⟨by omega, rfl, rfl⟩⟩⟩
  · skip
    refine K_iload_n (pc := 12) (i := 6) rfl rfl ?_
    refine K_i2l (pc := 13) (i := 7) rfl ?_
    refine K_eqJ (kI2l_eq (a := x2) (by omega)) ?_
    refine K_ldc2 (-3) (pc := 14) (i := 8) rfl cl_Model_112 (by decide) ?_
    refine K_ldc2 (3) (pc := 17) (i := 9) rfl cl_Model_114 (by decide) ?_
    refine K_cSI (pc := 20) (i := 10) rfl (c_Model_in G (l0 := x2) (l2 := -3) (l4 := 3) (s0 := by omega) (s2 := by omega) (s4 := by omega)) (ls_Model_65 rfl) rfl rfl rfl rfl (fun v20 h20 q20 => ?_)
    obtain ⟨eh, r20⟩ := q20
    rw [eh]; clear eh
    first | refine K_if_ne 29 (pc := 23) (i := 11) rfl rfl (by omega) (fun b23 => ?_) (fun b23 => ?_) | refine K_if_ne_an 29 (pc := 23) (i := 11) rfl rfl (fun b23 => ?_) (fun b23 => ?_)
    · skip
      refine K_aload_n (pc := 29) (i := 14) rfl rfl ?_
      refine K_getR (pc := 30) (i := 15) (j := 5) (d := 188) rfl S_184 rfl (by decide) rfl fw_Model_19 ?_
      refine K_iload_n (pc := 33) (i := 16) rfl rfl ?_
      refine K_iald (pc := 34) (i := 17) rfl S_188 (by omega) (by omega) (by decide) ?_
      refine K_nm (fun v34 e34 => ?_)
      have r34 := rd_mwinds hI (x1).toNat
      rw [← e34] at r34
      refine K_ist_n (pc := 35) (i := 18) (lo' := [(0, _), (1, _), (2, _), (3, _)]) rfl rfl rfl rfl ?_
      refine K_aload_n (pc := 36) (i := 19) rfl rfl ?_
      refine K_getR (pc := 37) (i := 20) (j := 5) (d := 188) rfl S_184 rfl (by decide) rfl fw_Model_19 ?_
      refine K_iload_n (pc := 40) (i := 21) rfl rfl ?_
      refine K_iload_n (pc := 41) (i := 22) rfl rfl ?_
      refine K_iast (pc := 42) (i := 23) rfl S_188 (by omega) (by omega) (by decide) ?_
      have hI := st_mwinds hI (i := (x1).toNat) (v := x2) (by omega)
      have fx := Fx.st (c := 188) (i := (x1).toNat) (v := x2) fx (by first | (dsimp only; omega) | omega | exact not_false)
      refine K_iload_n (pc := 43) (i := 24) rfl rfl ?_
      refine K_iconst (pc := 44) (i := 25) rfl ?_
      refine K_iadd (pc := 45) (i := 26) rfl ?_
      exact K_retI (pc := 46) (i := 27) rfl rfl ⟨fx, ⟨hI, Or.inl ⟨by omega, by rw [e34], fun j => kU_s _ _ _ _ j⟩⟩⟩
    · skip
      refine K_bipush (pc := 26) (i := 12) rfl rfl ?_
      exact K_retI (pc := 28) (i := 13) rfl rfl ⟨fx, ⟨hI, Or.inr ⟨by omega, rfl, rfl⟩⟩⟩
set_option maxHeartbeats 4000000 in
set_option maxRecDepth 100000 in
theorem c_Model_cross (G : kG) {g : kGh} {h : kH}  (hT : g.2.2.2.2){x1 : Int} {x2 : Int} (s1 : kR x1) (s2 : kR x2) (hI : Gd g h) : Ctr G y_Model_cross X_Model_cross 13 [.ref (G.2.2.2 184), kI x1, kI x2] h (kQi (fun z h' => Fx (fun c i => False) h h' ∧ (Gd g h' ∧ CMcross h x1 x2 z))) := by
  refine Ctr.ofK (by decide) rfl T_Model_cross (Nat.le_of_ble_eq_true rfl) (lo := [(0, .ref (G.2.2.2 184)), (1, kI x1), (2, kI x2)]) rfl ?_
  have fx : Fx (fun c i => False) h h := Fx.rf
  have hm8 := rd_many hI
  refine K_aload_n (pc := 0) (i := 0) rfl rfl ?_
  refine K_iload_n (pc := 1) (i := 1) rfl rfl ?_
  refine K_cVI (pc := 2) (i := 2) rfl (c_Model_isKite G (x1 := x1) (hI := hI) (s1 := by omega)) S_184 rfl (lv_Model_102 rfl) rfl rfl rfl rfl rfl (fun v2 h2 q2 => ?_)
  obtain ⟨eh, r2⟩ := q2
  rw [eh]; clear eh
  first | refine K_if_eq 16 (pc := 5) (i := 3) rfl rfl (by omega) (fun b5 => ?_) (fun b5 => ?_) | refine K_if_eq_an 16 (pc := 5) (i := 3) rfl rfl (fun b5 => ?_) (fun b5 => ?_)
  · skip
    refine K_iconst (pc := 16) (i := 8) rfl ?_
    exact K_retI (pc := 17) (i := 9) rfl rfl ⟨fx, ⟨hI, Or.inl ⟨by omega, rfl⟩⟩⟩
  · skip
    refine K_aload_n (pc := 8) (i := 4) rfl rfl ?_
    refine K_iload_n (pc := 9) (i := 5) rfl rfl ?_
    refine K_cVI (pc := 10) (i := 6) rfl (c_Model_isKite G (x1 := x2) (hI := hI) (s1 := by omega)) S_184 rfl (lv_Model_102 rfl) rfl rfl rfl rfl rfl (fun v10 h10 q10 => ?_)
    obtain ⟨eh, r10⟩ := q10
    rw [eh]; clear eh
    first | refine K_if_ne 18 (pc := 13) (i := 7) rfl rfl (by omega) (fun b13 => ?_) (fun b13 => ?_) | refine K_if_ne_an 18 (pc := 13) (i := 7) rfl rfl (fun b13 => ?_) (fun b13 => ?_)
    · skip
      refine K_iload_n (pc := 18) (i := 10) rfl rfl ?_
      refine K_iload_n (pc := 19) (i := 11) rfl rfl ?_
      first | refine K_icmp_ne 28 (pc := 20) (i := 12) rfl rfl (by omega) (by omega) (fun b20 => ?_) (fun b20 => ?_) | refine K_icmp_ne_an 28 (pc := 20) (i := 12) rfl rfl (fun b20 => ?_) (fun b20 => ?_)
      · skip
        refine K_aload_n (pc := 28) (i := 15) rfl rfl ?_
        refine K_iconst (pc := 29) (i := 16) rfl ?_
        refine K_iload_n (pc := 30) (i := 17) rfl rfl ?_
        refine K_iload_n (pc := 31) (i := 18) rfl rfl ?_
        refine K_cVI (pc := 32) (i := 19) rfl (c_Model_doCross G (x1 := 0) (x2 := x1) (x3 := x2) (hk := FK0 (hI.2.2.2.2.2 hT).1) (hI := hI) (hn := by omega) (s1 := by omega) (s2 := by omega) (s3 := by omega)) S_184 rfl (lv_Model_137 rfl) rfl rfl rfl rfl rfl (fun v32 h32 q32 => ?_)
        obtain ⟨eh, r32⟩ := q32
        rw [eh]; clear eh
        rw [show kap h (0 : Int).toNat = h 187 from kap_0 h] at r32
        first | refine K_if_eq 42 (pc := 35) (i := 20) rfl rfl (by omega) (fun b35 => ?_) (fun b35 => ?_) | refine K_if_eq_an 42 (pc := 35) (i := 20) rfl rfl (fun b35 => ?_) (fun b35 => ?_)
        · skip
          refine K_iconst (pc := 42) (i := 23) rfl ?_
          exact K_retI (pc := 43) (i := 24) rfl rfl ⟨fx, (by first | exact ⟨hI, Or.inr (Or.inl ⟨by omega, by omega, rfl⟩)⟩ | exact ⟨hI, Or.inr (Or.inr ⟨by omega, by omega, Or.inl ⟨rfl, r32.elim (fun q => q.2) (fun q => absurd q.1 (by omega))⟩⟩)⟩ | exact ⟨hI, Or.inr (Or.inr ⟨by omega, by omega, Or.inr ⟨rfl, r32.elim (fun q => absurd q.1 (by omega)) (fun q => q.2)⟩⟩)⟩)⟩
        · skip
          refine K_iconst (pc := 38) (i := 21) rfl ?_
          refine K_goto 43 (pc := 39) (i := 22) rfl rfl ?_
          exact K_retI (pc := 43) (i := 24) rfl rfl ⟨fx, (by first | exact ⟨hI, Or.inr (Or.inl ⟨by omega, by omega, rfl⟩)⟩ | exact ⟨hI, Or.inr (Or.inr ⟨by omega, by omega, Or.inl ⟨rfl, r32.elim (fun q => q.2) (fun q => absurd q.1 (by omega))⟩⟩)⟩ | exact ⟨hI, Or.inr (Or.inr ⟨by omega, by omega, Or.inr ⟨rfl, r32.elim (fun q => absurd q.1 (by omega)) (fun q => q.2)⟩⟩)⟩)⟩
      · skip
        refine K_bipush (pc := 23) (i := 13) rfl rfl ?_
        refine K_goto 43 (pc := 25) (i := 14) rfl rfl ?_
        exact K_retI (pc := 43) (i := 24) rfl rfl ⟨fx, (by first | exact ⟨hI, Or.inr (Or.inl ⟨by omega, by omega, rfl⟩)⟩ | exact ⟨hI, Or.inr (Or.inr ⟨by omega, by omega, Or.inl ⟨rfl, r32.elim (fun q => q.2) (fun q => absurd q.1 (by omega))⟩⟩)⟩ | exact ⟨hI, Or.inr (Or.inr ⟨by omega, by omega, Or.inr ⟨rfl, r32.elim (fun q => absurd q.1 (by omega)) (fun q => q.2)⟩⟩)⟩)⟩
    · skip
      refine K_iconst (pc := 16) (i := 8) rfl ?_
      exact K_retI (pc := 17) (i := 9) rfl rfl ⟨fx, ⟨hI, Or.inl ⟨by omega, rfl⟩⟩⟩
/-- what a town wins in n gusts -/
def CMafter (h : kH) (x n z : Int) : Prop := (¬ ((0 ≤ x ∧ x ≤ 1) ∧ 0 ≤ n ∧ n ≤ 20) ∧ z = -2) ∨ (((0 ≤ x ∧ x ≤ 1) ∧ 0 ≤ n ∧ n ≤ 20) ∧ ∃ (k0 k' : Nat → Int) (n' : Int) (d : Nat → Int), (∀ j, j < 40 → k0 j = h 187 j) ∧ MTK (h 188) n.toNat k0 (h 184 4) k' n' d ∧ z = d x.toNat)
set_option maxHeartbeats 4000000 in
set_option maxRecDepth 100000 in
theorem c_Model_after (G : kG) {g : kGh} {h : kH}  (hT : g.2.2.2.2){x1 : Int} {x2 : Int} (s1 : kR x1) (s2 : kR x2) (hI : Gd g h) : Ctr G y_Model_after X_Model_after 13 [.ref (G.2.2.2 184), kI x1, kI x2] h (kQi (fun z h' => Fx (fun c i => (c = 187 ∧ 40 ≤ i) ∨ c = 192) h h' ∧ (Gd g h' ∧ CMafter h x1 x2 z))) := by
  refine Ctr.ofK (by decide) rfl T_Model_after (Nat.le_of_ble_eq_true rfl) (lo := [(0, .ref (G.2.2.2 184)), (1, kI x1), (2, kI x2)]) rfl ?_
  have fx : Fx (fun c i => (c = 187 ∧ 40 ≤ i) ∨ c = 192) h h := Fx.rf
  refine K_iload_n (pc := 0) (i := 0) rfl rfl ?_
  refine K_i2l (pc := 1) (i := 1) rfl ?_
  refine K_eqJ (kI2l_eq (a := x1) (by omega)) ?_
  refine K_lconst 0 (pc := 2) (i := 2) rfl rfl ?_
  refine K_lconst 1 (pc := 3) (i := 3) rfl rfl ?_
  refine K_cSI (pc := 4) (i := 4) rfl (c_Model_in G (l0 := x1) (l2 := 0) (l4 := 1) (s0 := by omega) (s2 := by omega) (s4 := by omega)) (ls_Model_65 rfl) rfl rfl rfl rfl (fun v4 h4 q4 => ?_)
  obtain ⟨eh, r4⟩ := q4
  rw [eh]; clear eh
  first | refine K_if_eq 22 (pc := 7) (i := 5) rfl rfl (by omega) (fun b7 => ?_) (fun b7 => ?_) | refine K_if_eq_an 22 (pc := 7) (i := 5) rfl rfl (fun b7 => ?_) (fun b7 => ?_)
  · skip
    refine K_bipush (pc := 22) (i := 12) rfl rfl ?_
    exact K_retI (pc := 24) (i := 13) rfl rfl ⟨fx, ⟨hI, Or.inl ⟨by omega, rfl⟩⟩⟩
  · skip
    refine K_iload_n (pc := 10) (i := 6) rfl rfl ?_
    refine K_i2l (pc := 11) (i := 7) rfl ?_
    refine K_eqJ (kI2l_eq (a := x2) (by omega)) ?_
    refine K_lconst 0 (pc := 12) (i := 8) rfl rfl ?_
    refine K_ldc2 (20) (pc := 13) (i := 9) rfl cl_Model_163 (by decide) ?_
    refine K_cSI (pc := 16) (i := 10) rfl (c_Model_in G (l0 := x2) (l2 := 0) (l4 := 20) (s0 := by omega) (s2 := by omega) (s4 := by omega)) (ls_Model_65 rfl) rfl rfl rfl rfl (fun v16 h16 q16 => ?_)
    obtain ⟨eh, r16⟩ := q16
    rw [eh]; clear eh
    first | refine K_if_ne 25 (pc := 19) (i := 11) rfl rfl (by omega) (fun b19 => ?_) (fun b19 => ?_) | refine K_if_ne_an 25 (pc := 19) (i := 11) rfl rfl (fun b19 => ?_) (fun b19 => ?_)
    · skip
      have hJ := hI
      refine K_aload_n (pc := 25) (i := 14) rfl rfl ?_
      refine K_cVV (pc := 26) (i := 15) rfl (c_Model_copy G (hI := hI)) S_184 rfl (lv_Model_165 rfl) rfl rfl rfl rfl rfl (fun h26 q26 => ?_)
      obtain ⟨fx26, q26⟩ := q26
      obtain ⟨hI, cp26⟩ := q26
      have fx := fx.tr fx26 (fun c i q => (by first | (dsimp only at q ⊢; omega) | omega))
      have fk26 : FK (kap h26 40) (h26 184 4) := by rw [fx26 184 4 (by first | (dsimp only; omega) | omega | exact not_false)]; exact FK.copy (hJ.2.2.2.2.2 hT).1 (rd_many hJ).2 cp26
      refine K_aload_n (pc := 29) (i := 16) rfl rfl ?_
      refine K_aload_n (pc := 30) (i := 17) rfl rfl ?_
      refine K_getI (pc := 31) (i := 18) (j := 4) rfl S_184 rfl (by decide) rfl fw_Model_59 ?_
      refine K_nm (fun v31 e31 => ?_)
      have r31 := rd_many hI
      rw [← e31] at r31
      have t31 : v31 = h 184 4 := by rw [e31]; exact fx26 184 4 (by first | (dsimp only; omega) | omega | exact not_false)
      refine K_iload_n (pc := 34) (i := 19) rfl rfl ?_
      refine K_cVV (pc := 35) (i := 20) rfl (c_Model_blowAll G (x1 := v31) (x2 := x2) (hk := by rw [e31]; exact fk26) (hI := hI) (s1 := by omega) (s2 := by omega)) S_184 rfl (lv_Model_168 rfl) rfl rfl rfl rfl rfl (fun h35 q35 => ?_)
      obtain ⟨fx35, q35⟩ := q35
      obtain ⟨hI, ga35, mt35⟩ := q35
      have fx := fx.tr fx35 (fun c i q => (by first | (dsimp only at q ⊢; omega) | omega))
      refine K_aload_n (pc := 38) (i := 21) rfl rfl ?_
      refine K_getR (pc := 39) (i := 22) (j := 14) (d := 192) rfl S_184 rfl (by decide) rfl fw_Model_31 ?_
      refine K_iload_n (pc := 42) (i := 23) rfl rfl ?_
      refine K_iald (pc := 43) (i := 24) rfl S_192 (by omega) (by omega) (by decide) ?_
      refine K_nm (fun v43 e43 => ?_)
      exact K_retI (pc := 44) (i := 25) rfl rfl ⟨fx, ⟨hI, Or.inr ⟨by omega, by obtain ⟨k', n', q⟩ := mt35; rw [fx26.cell 188 (fun i => (by first | (dsimp only; omega) | omega | exact not_false)), t31] at q; exact ⟨_, k', n', _, fun j hj => cp26 j hj, q, e43⟩⟩⟩⟩
    · skip
      refine K_bipush (pc := 22) (i := 12) rfl rfl ?_
      exact K_retI (pc := 24) (i := 13) rfl rfl ⟨fx, ⟨hI, Or.inl ⟨by omega, rfl⟩⟩⟩
set_option maxHeartbeats 4000000 in
set_option maxRecDepth 100000 in
theorem c_Model_count (G : kG) {g : kGh} {h : kH} {x1 : Int} (s1 : kR x1) (hI : Gd g h) : Ctr G y_Model_count X_Model_count 13 [.ref (G.2.2.2 184), kI x1] h (kQi (fun z h' => Fx (fun c i => False) h h' ∧ (Gd g h' ∧ z = ctF (h 184 8) (h 184 4) (cnt (fun i => h 187 (5 * i)) 0 (h 184 4).toNat) (h 189 0) (h 189 1) (h 184 11) (h 184 16) x1))) := by
  refine Ctr.ofK (by decide) rfl T_Model_count (Nat.le_of_ble_eq_true rfl) (lo := [(0, .ref (G.2.2.2 184)), (1, kI x1)]) rfl ?_
  have fx : Fx (fun c i => False) h h := Fx.rf
  refine K_iload_n (pc := 0) (i := 0) rfl rfl ?_
  by_cases sw1 : (0 : Int) ≤ x1 ∧ x1 ≤ 6
  · skip
    rcases (show x1 = 0 ∨ x1 = 1 ∨ x1 = 2 ∨ x1 = 3 ∨ x1 = 4 ∨ x1 = 5 ∨ x1 = 6 by omega) with sx1 | sx1 | sx1 | sx1 | sx1 | sx1 | sx1
    · refine K_tableIn 44 (by omega) (pc := 1) (i := 1) rfl (by omega) (by omega) (by rw [sx1]; rfl) rfl ?_
      refine K_aload_n (pc := 44) (i := 2) rfl rfl ?_
      refine K_getI (pc := 45) (i := 3) (j := 8) rfl S_184 rfl (by decide) rfl fw_Model_69 ?_
      refine K_nm (fun v45 e45 => ?_)
      have r45 := rd_mlength hI
      rw [← e45] at r45
      exact K_retI (pc := 48) (i := 4) rfl rfl ⟨fx, ⟨hI, by rw [sx1, e45]; rfl⟩⟩
    · refine K_tableIn 49 (by omega) (pc := 1) (i := 1) rfl (by omega) (by omega) (by rw [sx1]; rfl) rfl ?_
      refine K_aload_n (pc := 49) (i := 5) rfl rfl ?_
      refine K_getI (pc := 50) (i := 6) (j := 4) rfl S_184 rfl (by decide) rfl fw_Model_59 ?_
      refine K_nm (fun v50 e50 => ?_)
      have r50 := rd_many hI
      rw [← e50] at r50
      exact K_retI (pc := 53) (i := 7) rfl rfl ⟨fx, ⟨hI, by rw [sx1, e50]; rfl⟩⟩
    · refine K_tableIn 54 (by omega) (pc := 1) (i := 1) rfl (by omega) (by omega) (by rw [sx1]; rfl) rfl ?_
      refine K_aload_n (pc := 54) (i := 8) rfl rfl ?_
      refine K_iconst (pc := 55) (i := 9) rfl ?_
      refine K_cVI (pc := 56) (i := 10) rfl (c_Model_kitesOf G (x1 := 0) (hI := hI) (s1 := by omega)) S_184 rfl (lv_Model_175 rfl) rfl rfl rfl rfl rfl (fun v56 h56 q56 => ?_)
      obtain ⟨eh, r56⟩ := q56
      rw [eh]; clear eh
      exact K_retI (pc := 59) (i := 11) rfl rfl ⟨fx, ⟨hI, by rw [sx1, r56.2]; rfl⟩⟩
    · refine K_tableIn 60 (by omega) (pc := 1) (i := 1) rfl (by omega) (by omega) (by rw [sx1]; rfl) rfl ?_
      refine K_aload_n (pc := 60) (i := 12) rfl rfl ?_
      refine K_getR (pc := 61) (i := 13) (j := 6) (d := 189) rfl S_184 rfl (by decide) rfl fw_Model_22 ?_
      refine K_iconst (pc := 64) (i := 14) rfl ?_
      refine K_iald (pc := 65) (i := 15) rfl S_189 (by omega) (by omega) (by decide) ?_
      refine K_nm (fun v65 e65 => ?_)
      exact K_retI (pc := 66) (i := 16) rfl rfl ⟨fx, ⟨hI, by rw [sx1, e65]; rfl⟩⟩
    · refine K_tableIn 67 (by omega) (pc := 1) (i := 1) rfl (by omega) (by omega) (by rw [sx1]; rfl) rfl ?_
      refine K_aload_n (pc := 67) (i := 17) rfl rfl ?_
      refine K_getR (pc := 68) (i := 18) (j := 6) (d := 189) rfl S_184 rfl (by decide) rfl fw_Model_22 ?_
      refine K_iconst (pc := 71) (i := 19) rfl ?_
      refine K_iald (pc := 72) (i := 20) rfl S_189 (by omega) (by omega) (by decide) ?_
      refine K_nm (fun v72 e72 => ?_)
      exact K_retI (pc := 73) (i := 21) rfl rfl ⟨fx, ⟨hI, by rw [sx1, e72]; rfl⟩⟩
    · refine K_tableIn 74 (by omega) (pc := 1) (i := 1) rfl (by omega) (by omega) (by rw [sx1]; rfl) rfl ?_
      refine K_aload_n (pc := 74) (i := 22) rfl rfl ?_
      refine K_getI (pc := 75) (i := 23) (j := 11) rfl S_184 rfl (by decide) rfl fw_Model_99 ?_
      refine K_nm (fun v75 e75 => ?_)
      have r75 := rd_macts hI
      rw [← e75] at r75
      exact K_retI (pc := 78) (i := 24) rfl rfl ⟨fx, ⟨hI, by rw [sx1, e75]; rfl⟩⟩
    · refine K_tableIn 79 (by omega) (pc := 1) (i := 1) rfl (by omega) (by omega) (by rw [sx1]; rfl) rfl ?_
      refine K_aload_n (pc := 79) (i := 25) rfl rfl ?_
      refine K_getI (pc := 80) (i := 26) (j := 16) rfl S_184 rfl (by decide) rfl fw_Model_192 ?_
      refine K_nm (fun v80 e80 => ?_)
      have r80 := rd_mseen hI
      rw [← e80] at r80
      exact K_retI (pc := 83) (i := 27) rfl rfl ⟨fx, ⟨hI, by rw [sx1, e80]; rfl⟩⟩
  · refine K_tableOut 84 (by omega) (pc := 1) (i := 1) rfl (by omega) rfl ?_
    refine K_bipush (pc := 84) (i := 28) rfl rfl ?_
    exact K_retI (pc := 86) (i := 29) rfl rfl ⟨fx, ⟨hI, by unfold ctF; rw [if_neg (by omega), if_neg (by omega), if_neg (by omega), if_neg (by omega), if_neg (by omega), if_neg (by omega), if_neg (by omega)]⟩⟩
set_option maxHeartbeats 4000000 in
set_option maxRecDepth 100000 in
theorem c_Model_unsee (G : kG) {g : kGh} {h : kH}  (hI : Gd g h) : Ctr G y_Model_unsee X_Model_unsee 13 [.ref (G.2.2.2 184)] h (kQi (fun z h' => Fx (fun c i => c = 184 ∧ i = 16) h h' ∧ (Gd g h' ∧ z = h 184 16 ∧ h' 184 16 = 0))) := by
  refine Ctr.ofK (by decide) rfl T_Model_unsee (Nat.le_of_ble_eq_true rfl) (lo := [(0, .ref (G.2.2.2 184))]) rfl ?_
  have fx : Fx (fun c i => c = 184 ∧ i = 16) h h := Fx.rf
  refine K_aload_n (pc := 0) (i := 0) rfl rfl ?_
  refine K_getI (pc := 1) (i := 1) (j := 16) rfl S_184 rfl (by decide) rfl fw_Model_192 ?_
  refine K_nm (fun v1 e1 => ?_)
  have r1 := rd_mseen hI
  rw [← e1] at r1
  refine K_ist_n (pc := 4) (i := 2) (lo' := [(0, _), (1, _)]) rfl rfl rfl rfl ?_
  refine K_aload_n (pc := 5) (i := 3) rfl rfl ?_
  refine K_iconst (pc := 6) (i := 4) rfl ?_
  refine K_putI (pc := 7) (i := 5) (j := 16) rfl S_184 rfl (by decide) rfl rfl rfl fw_Model_192 ?_
  have hI := st_mseen hI (v := 0) (by omega)
  have fx := Fx.st (c := 184) (i := 16) (v := 0) fx (by first | (dsimp only; omega) | omega | exact not_false)
  refine K_iload_n (pc := 10) (i := 6) rfl rfl ?_
  exact K_retI (pc := 11) (i := 7) rfl rfl ⟨fx, ⟨hI, e1, by rw [kU_at, if_pos ⟨rfl, rfl⟩]⟩⟩
theorem kU5 {h : kH} {n : Nat} {a b c w : Int} : (∀ j, kU (kU (kU (kU h 193 n a) 194 n b) 195 n c) 184 16 w 193 j = if j = n then a else h 193 j) ∧ (∀ j, kU (kU (kU (kU h 193 n a) 194 n b) 195 n c) 184 16 w 194 j = if j = n then b else h 194 j) ∧ (∀ j, kU (kU (kU (kU h 193 n a) 194 n b) 195 n c) 184 16 w 195 j = if j = n then c else h 195 j) ∧ kU (kU (kU (kU h 193 n a) 194 n b) 195 n c) 184 16 w 184 16 = w := by
  refine ⟨fun j => ?_, fun j => ?_, fun j => ?_, ?_⟩ <;> simp [kU]
set_option maxHeartbeats 4000000 in
set_option maxRecDepth 100000 in
theorem c_Model_see (G : kG) {g : kGh} {h : kH} {x1 : Int} {x2 : Int} {x3 : Int} (s1 : kR x1) (s2 : kR x2) (s3 : x3 = 0 ∨ x3 = 1) (hI : Gd g h) : Ctr G y_Model_see X_Model_see 13 [.ref (G.2.2.2 184), kI x1, kI x2, kI x3] h (kQi (fun z h' => Fx (fun c i => c = 193 ∨ c = 194 ∨ c = 195 ∨ (c = 184 ∧ i = 16)) h h' ∧ (Gd g h' ∧ CMsee h h' x1 x2 x3 z))) := by
  refine Ctr.ofK (by decide) rfl T_Model_see (Nat.le_of_ble_eq_true rfl) (lo := [(0, .ref (G.2.2.2 184)), (1, kI x1), (2, kI x2), (3, kI x3)]) rfl ?_
  have fx : Fx (fun c i => c = 193 ∨ c = 194 ∨ c = 195 ∨ (c = 184 ∧ i = 16)) h h := Fx.rf
  refine K_aload_n (pc := 0) (i := 0) rfl rfl ?_
  refine K_iload_n (pc := 1) (i := 1) rfl rfl ?_
  refine K_cVI (pc := 2) (i := 2) rfl (c_Model_isKite G (x1 := x1) (hI := hI) (s1 := by omega)) S_184 rfl (lv_Model_102 rfl) rfl rfl rfl rfl rfl (fun v2 h2 q2 => ?_)
  obtain ⟨eh, r2⟩ := q2
  rw [eh]; clear eh
  first | refine K_if_eq 26 (pc := 5) (i := 3) rfl rfl (by omega) (fun b5 => ?_) (fun b5 => ?_) | refine K_if_eq_an 26 (pc := 5) (i := 3) rfl rfl (fun b5 => ?_) (fun b5 => ?_)
  · skip
    refine K_iconst (pc := 26) (i := 14) rfl ?_
    exact K_retI (pc := 27) (i := 15) rfl rfl ⟨fx, ⟨hI, Or.inl ⟨by omega, rfl, rfl⟩⟩⟩
  · skip
    refine K_aload_n (pc := 8) (i := 4) rfl rfl ?_
    refine K_iload_n (pc := 9) (i := 5) rfl rfl ?_
    refine K_cVI (pc := 10) (i := 6) rfl (c_Model_isKite G (x1 := x2) (hI := hI) (s1 := by omega)) S_184 rfl (lv_Model_102 rfl) rfl rfl rfl rfl rfl (fun v10 h10 q10 => ?_)
    obtain ⟨eh, r10⟩ := q10
    rw [eh]; clear eh
    first | refine K_if_eq 26 (pc := 13) (i := 7) rfl rfl (by omega) (fun b13 => ?_) (fun b13 => ?_) | refine K_if_eq_an 26 (pc := 13) (i := 7) rfl rfl (fun b13 => ?_) (fun b13 => ?_)
    · skip
      refine K_iconst (pc := 26) (i := 14) rfl ?_
      exact K_retI (pc := 27) (i := 15) rfl rfl ⟨fx, ⟨hI, Or.inl ⟨by omega, rfl, rfl⟩⟩⟩
    · skip
      refine K_iload_n (pc := 16) (i := 8) rfl rfl ?_
      refine K_iconst (pc := 17) (i := 9) rfl ?_
      first | refine K_icmp_gt 26 (pc := 18) (i := 10) rfl rfl (by omega) (by omega) (fun b18 => ?_) (fun b18 => ?_) | refine K_icmp_gt_an 26 (pc := 18) (i := 10) rfl rfl (fun b18 => ?_) (fun b18 => ?_)
      · skip
        refine K_iconst (pc := 26) (i := 14) rfl ?_
        exact K_retI (pc := 27) (i := 15) rfl rfl ⟨fx, ⟨hI, Or.inl ⟨by omega, rfl, rfl⟩⟩⟩
      · skip
        refine K_iload_n (pc := 21) (i := 11) rfl rfl ?_
        refine K_iconst (pc := 22) (i := 12) rfl ?_
        first | refine K_icmp_le 28 (pc := 23) (i := 13) rfl rfl (by omega) (by omega) (fun b23 => ?_) (fun b23 => ?_) | refine K_icmp_le_an 28 (pc := 23) (i := 13) rfl rfl (fun b23 => ?_) (fun b23 => ?_)
        · skip
          refine K_iload_n (pc := 28) (i := 16) rfl rfl ?_
          refine K_iload_n (pc := 29) (i := 17) rfl rfl ?_
          first | refine K_icmp_ne 36 (pc := 30) (i := 18) rfl rfl (by omega) (by omega) (fun b30 => ?_) (fun b30 => ?_) | refine K_icmp_ne_an 36 (pc := 30) (i := 18) rfl rfl (fun b30 => ?_) (fun b30 => ?_)
          · skip
            refine K_aload_n (pc := 36) (i := 21) rfl rfl ?_
            refine K_getI (pc := 37) (i := 22) (j := 16) rfl S_184 rfl (by decide) rfl fw_Model_192 ?_
            refine K_nm (fun v37 e37 => ?_)
            have r37 := rd_mseen hI
            rw [← e37] at r37
            refine K_bipush (pc := 40) (i := 23) rfl rfl ?_
            first | refine K_icmp_ne 48 (pc := 42) (i := 24) rfl rfl (by omega) (by omega) (fun b42 => ?_) (fun b42 => ?_) | refine K_icmp_ne_an 48 (pc := 42) (i := 24) rfl rfl (fun b42 => ?_) (fun b42 => ?_)
            · skip
              refine K_aload_n (pc := 48) (i := 27) rfl rfl ?_
              refine K_getR (pc := 49) (i := 28) (j := 17) (d := 193) rfl S_184 rfl (by decide) rfl fw_Model_34 ?_
              refine K_aload_n (pc := 52) (i := 29) rfl rfl ?_
              refine K_getI (pc := 53) (i := 30) (j := 16) rfl S_184 rfl (by decide) rfl fw_Model_192 ?_
              refine K_nm (fun v53 e53 => ?_)
              have r53 := rd_mseen hI
              rw [← e53] at r53
              have t53 : v53 = v37 := by rw [e53, e37]; try simp [kU]
              refine K_iload_n (pc := 56) (i := 31) rfl rfl ?_
              refine K_iast (pc := 57) (i := 32) rfl S_193 (by omega) (by omega) (by decide) ?_
              have hI := st_mseenone hI (i := (v53).toNat) (v := x1) (by omega)
              have fx := Fx.st (c := 193) (i := (v53).toNat) (v := x1) fx (by first | (dsimp only; omega) | omega | exact not_false)
              refine K_aload_n (pc := 58) (i := 33) rfl rfl ?_
              refine K_getR (pc := 59) (i := 34) (j := 18) (d := 194) rfl S_184 rfl (by decide) rfl fw_Model_37 ?_
              refine K_aload_n (pc := 62) (i := 35) rfl rfl ?_
              refine K_getI (pc := 63) (i := 36) (j := 16) rfl S_184 rfl (by decide) rfl fw_Model_192 ?_
              refine K_nm (fun v63 e63 => ?_)
              have r63 := rd_mseen hI
              rw [← e63] at r63
              have t63 : v63 = v37 := by rw [e63, e37]; try simp [kU]
              refine K_iload_n (pc := 66) (i := 37) rfl rfl ?_
              refine K_iast (pc := 67) (i := 38) rfl S_194 (by omega) (by omega) (by decide) ?_
              have hI := st_mseenother hI (i := (v63).toNat) (v := x2) (by omega)
              have fx := Fx.st (c := 194) (i := (v63).toNat) (v := x2) fx (by first | (dsimp only; omega) | omega | exact not_false)
              refine K_aload_n (pc := 68) (i := 39) rfl rfl ?_
              refine K_getR (pc := 69) (i := 40) (j := 19) (d := 195) rfl S_184 rfl (by decide) rfl fw_Model_40 ?_
              refine K_aload_n (pc := 72) (i := 41) rfl rfl ?_
              refine K_getI (pc := 73) (i := 42) (j := 16) rfl S_184 rfl (by decide) rfl fw_Model_192 ?_
              refine K_nm (fun v73 e73 => ?_)
              have r73 := rd_mseen hI
              rw [← e73] at r73
              have t73 : v73 = v37 := by rw [e73, e37]; try simp [kU]
              refine K_iload_n (pc := 76) (i := 43) rfl rfl ?_
              refine K_bast (pc := 77) (i := 44) rfl S_195 (by omega) (by omega) (by decide) (by omega) ?_
              have hI := st_seenCross hI (i := (v73).toNat) (v := x3) (by omega)
              have fx := Fx.st (c := 195) (i := (v73).toNat) (v := x3) fx (by first | (dsimp only; omega) | omega | exact not_false)
              refine K_aload_n (pc := 78) (i := 45) rfl rfl ?_
              refine K_dup (pc := 79) (i := 46) rfl rfl ?_
              refine K_getI (pc := 80) (i := 47) (j := 16) rfl S_184 rfl (by decide) rfl fw_Model_192 ?_
              refine K_nm (fun v80 e80 => ?_)
              have r80 := rd_mseen hI
              rw [← e80] at r80
              have t80 : v80 = v37 := by rw [e80, e37]; try simp [kU]
              refine K_iconst (pc := 83) (i := 48) rfl ?_
              refine K_iadd (pc := 84) (i := 49) rfl ?_
              refine K_putI (pc := 85) (i := 50) (j := 16) rfl S_184 rfl (by decide) rfl rfl rfl fw_Model_192 ?_
              have hI := st_mseen hI (v := v80 + 1) (by omega)
              have fx := Fx.st (c := 184) (i := 16) (v := v80 + 1) fx (by first | (dsimp only; omega) | omega | exact not_false)
              refine K_aload_n (pc := 88) (i := 51) rfl rfl ?_
              refine K_getI (pc := 89) (i := 52) (j := 16) rfl S_184 rfl (by decide) rfl fw_Model_192 ?_
              refine K_nm (fun v89 e89 => ?_)
              have r89 := rd_mseen hI
              rw [← e89] at r89
              have t89 : v89 = v37 + 1 := by rw [e89, kU_at, if_pos ⟨rfl, rfl⟩, t80]
              exact K_retI (pc := 92) (i := 53) rfl rfl ⟨fx, ⟨hI, Or.inr (Or.inr (Or.inr ⟨by omega, by omega, by omega, by rw [t89, e37], by rw [t53, t63, t73, t80, ← e37]; exact kU5.2.2.2, by rw [t53, t63, t73, t80, ← e37]; exact kU5.1, by rw [t53, t63, t73, t80, ← e37]; exact kU5.2.1, by rw [t53, t63, t73, t80, ← e37]; exact kU5.2.2.1⟩))⟩⟩
            · skip
              refine K_bipush (pc := 45) (i := 25) rfl rfl ?_
              exact K_retI (pc := 47) (i := 26) rfl rfl ⟨fx, ⟨hI, Or.inr (Or.inr (Or.inl ⟨by omega, by omega, by omega, rfl, rfl⟩))⟩⟩
          · skip
            refine K_bipush (pc := 33) (i := 19) rfl rfl ?_
            exact K_retI (pc := 35) (i := 20) rfl rfl ⟨fx, ⟨hI, Or.inr (Or.inl ⟨by omega, by omega, rfl, rfl⟩)⟩⟩
        · skip
          refine K_iconst (pc := 26) (i := 14) rfl ?_
          exact K_retI (pc := 27) (i := 15) rfl rfl ⟨fx, ⟨hI, Or.inl ⟨by omega, rfl, rfl⟩⟩⟩
end
section
/-! the reference's tangles -/
theorem pcI_8 {x : Int} (h0 : 0 ≤ x) (h1 : x ≤ 255) : pcI x = pcB x 8 := by
  rw [pcB_ok h0 (by omega), pcB_sm, pcB_sm, show (24 : Nat) = 8 + 16 by rfl]
  refine sm_cut (fun j p q => ind_f ?_)
  obtain ⟨n, rfl⟩ := Int.eq_ofNat_of_zero_le h0
  rw [tb_n n (by omega) j (by omega)]
  have : n / 2 ^ j = 0 := Nat.div_eq_of_lt (Nat.lt_of_lt_of_le (show n < 2 ^ 8 by omega) (Nat.pow_le_pow_right (by omega) p))
  rw [this]
  omega
def LSi (M : Nat → Nat → Prop) (s a b : Int) : Prop := ∀ i j : Nat, j < i → ((i : Int) < a ∨ ((i : Int) = a ∧ (j : Int) < b)) → ¬ (tb s i = false ∧ tb s j = false ∧ M i j)
section Lsi
variable {M : Nat → Nat → Prop} {s a b : Int}
theorem LSi.z : LSi M s 0 0 := fun i j h q => by omega
theorem LSi.next (c : LSi M s a b) (hb : a ≤ b) : LSi M s (a + 1) 0 := fun i j h q => c i j h (by omega)
theorem LSi.back (c : LSi M s (a + 1) 0) (hb : a ≤ b) : LSi M s a b := fun i j h q => c i j h (by omega)
theorem LSi.st (c : LSi M s a b) (hn : ¬ (tb s a = false ∧ tb s b = false ∧ M a.toNat b.toNat)) : LSi M s a (b + 1) := fun i j h q => by
  by_cases e : (i : Int) = a ∧ (j : Int) = b
  · have e1 : a.toNat = i := by omega
    have e2 : b.toNat = j := by omega
    rw [← e.1, ← e.2, Int.toNat_natCast, Int.toNat_natCast] at hn
    exact hn
  · exact c i j h (by omega)
theorem LSi.less (c : LSi M s a (b + 1)) : LSi M s a b := fun i j h q => c i j h (by omega)
theorem LSi.bad (h0 : 0 ≤ b ∧ b < a) (hn : tb s a = false ∧ tb s b = false ∧ M a.toNat b.toNat) : ¬ LSi M s a (b + 1) := fun c => by
  refine c a.toNat b.toNat (by omega) (by omega) ?_
  rw [show ((a.toNat : Nat) : Int) = a by omega, show ((b.toNat : Nat) : Int) = b by omega]
  exact hn
theorem LSi.end {n : Int} (sy : ∀ i j : Nat, (i : Int) < n → (j : Int) < n → i ≠ j → M i j → M j i) : LSi M s n 0 ↔ LSt M n s := by
  constructor
  · intro c i j hi hj hne p q r
    rcases Nat.lt_or_gt_of_ne hne with e | e
    · exact c j i e (by omega) ⟨q, p, sy i j hi hj hne r⟩
    · exact c i j e (by omega) ⟨p, q, r⟩
  · intro c i j h q r
    exact c i j (by omega) (by omega) (by omega) r.1 r.2.1 r.2.2
end Lsi
/-- the fewest, as the reference finds it -/
def MWc (L : Int → Prop) (z c : Int) : Prop := (z = -9 ∧ ∀ s : Int, 0 ≤ s → s < c → ¬ L s) ∨ ((0 ≤ z ∧ z < c) ∧ L z ∧ (∀ s : Int, 0 ≤ s → s < c → L s → pcI z ≤ pcI s) ∧ ∀ s : Int, 0 ≤ s → s < z → L s → pcI z < pcI s)
theorem MWc.z {L : Int → Prop} : MWc L (-9) 0 := Or.inl ⟨rfl, fun s p q => absurd q (by omega)⟩
theorem MWc.no {L : Int → Prop} {z c : Int} (a : MWc L z c) (hn : L c → z ≠ -9 ∧ pcI z ≤ pcI c) : MWc L z (c + 1) := by
  rcases a with ⟨a1, a2⟩ | ⟨a1, a2, a3, a4⟩
  · refine Or.inl ⟨a1, fun s p q r => ?_⟩
    by_cases e : s = c
    · subst e; exact (hn r).1 a1
    · exact a2 s p (by omega) r
  · refine Or.inr ⟨by omega, a2, fun s p q r => ?_, a4⟩
    by_cases e : s = c
    · subst e; exact (hn r).2
    · exact a3 s p (by omega) r
theorem MWc.yes {L : Int → Prop} {z c : Int} (a : MWc L z c) (h0 : 0 ≤ c) (hl : L c) (hp : z = -9 ∨ pcI c < pcI z) : MWc L c (c + 1) := by
  rcases a with ⟨a1, a2⟩ | ⟨a1, a2, a3, a4⟩
  · refine Or.inr ⟨by omega, hl, fun s p q r => ?_, fun s p q r => absurd r (a2 s p q)⟩
    by_cases e : s = c
    · subst e; exact Int.le_refl _
    · exact absurd r (a2 s p (by omega))
  · have hp2 : pcI c < pcI z := by rcases hp with e | e; omega; exact e
    refine Or.inr ⟨by omega, hl, fun s p q r => ?_, fun s p q r => ?_⟩
    · by_cases e : s = c
      · subst e; exact Int.le_refl _
      · have := a3 s p (by omega) r; omega
    · have := a3 s p q r; omega
theorem FW_rel {L L' : Int → Prop} {k : Nat} (hk : k < 9) {z z' : Int} (e : ∀ s : Int, 0 ≤ s → s < ((2 ^ k : Nat) : Int) → (L s ↔ L' s)) (a : FWc L ((2 ^ k : Nat) - 1 : Int) z ((2 ^ k : Nat) : Int)) (b : MWc L' z' ((2 ^ k : Nat) : Int)) : z = z' := by
  obtain ⟨a1, a2, a3, a4⟩ := a
  rcases b with ⟨b1, b2⟩ | ⟨b1, b2, b3, b4⟩
  · exact absurd ((e z (by omega) (by omega)).1 a2) (b2 z (by omega) (by omega))
  · have l1 : L z' := (e z' (by omega) (by omega)).2 b2
    have l2 : L' z := (e z (by omega) (by omega)).1 a2
    have p1 := a3 z' (by omega) (by omega) l1
    have p2 := b3 z (by omega) (by omega) l2
    rcases a4 with ⟨c1, c2⟩ | ⟨c1, c2⟩
    · have q := all_pc k hk
      by_cases d : z' = z
      · exact d.symm
      · have hz : z'.toNat < 2 ^ k - 1 := by omega
        have q2 := q.2 z'.toNat hz
        have e1 : pcI z = k := by
          unfold pcI
          rw [show z.toNat = 2 ^ k - 1 by omega, q.1]
        have e2 : pcI z' = ((pcN z'.toNat : Nat) : Int) := rfl
        omega
    · rcases Int.lt_trichotomy z z' with d | d | d
      · have := b4 z (by omega) d l2; omega
      · exact d
      · have := c2 z' (by omega) d l1; omega
end
section
def haK (k : Nat → Int) (i j : Nat) : Int := (k (5 * j + 1) - k (5 * i + 1)) * k (5 * i + 3) * k (5 * j + 3)
set_option maxHeartbeats 4000000 in
set_option maxRecDepth 100000 in
theorem c_Model_highAbove (G : kG) {g : kGh} {h : kH} {x1 : Int} {x2 : Int} (hk : FK (h 187) (h 184 4)) (s1 : 0 ≤ x1 ∧ x1 < h 184 4) (s2 : 0 ≤ x2 ∧ x2 < h 184 4) (hI : Gd g h) : Ctr G y_Model_highAbove X_Model_highAbove 1 [.ref (G.2.2.2 184), kI x1, kI x2] h (kQi (fun z h' => h' = h ∧ z = haK (h 187) x1.toNat x2.toNat ∧ -3240 ≤ z ∧ z ≤ 3240)) := by
  refine Ctr.ofK (by decide) rfl T_Model_highAbove (Nat.le_of_ble_eq_true rfl) (lo := [(0, .ref (G.2.2.2 184)), (1, kI x1), (2, kI x2)]) rfl ?_
  have hm8 := rd_many hI
  refine K_aload_n (pc := 0) (i := 0) rfl rfl ?_
  refine K_getR (pc := 1) (i := 1) (j := 3) (d := 187) rfl S_184 rfl (by decide) rfl fw_Model_16 ?_
  refine K_iconst (pc := 4) (i := 2) rfl ?_
  refine K_iload_n (pc := 5) (i := 3) rfl rfl ?_
  refine K_imul (pc := 6) (i := 4) rfl ?_
  refine K_iconst (pc := 7) (i := 5) rfl ?_
  refine K_iadd (pc := 8) (i := 6) rfl ?_
  refine K_iald (pc := 9) (i := 7) rfl S_187 (by omega) (by omega) (by decide) ?_
  refine K_nm (fun v9 e9 => ?_)
  have w9 : h 187 (5 * x2.toNat + 1) = v9 := by rw [e9]; congr 1; omega
  have u9 := (hk x2.toNat (by omega)).1
  rw [w9] at u9
  refine K_aload_n (pc := 10) (i := 8) rfl rfl ?_
  refine K_getR (pc := 11) (i := 9) (j := 3) (d := 187) rfl S_184 rfl (by decide) rfl fw_Model_16 ?_
  refine K_iconst (pc := 14) (i := 10) rfl ?_
  refine K_iload_n (pc := 15) (i := 11) rfl rfl ?_
  refine K_imul (pc := 16) (i := 12) rfl ?_
  refine K_iconst (pc := 17) (i := 13) rfl ?_
  refine K_iadd (pc := 18) (i := 14) rfl ?_
  refine K_iald (pc := 19) (i := 15) rfl S_187 (by omega) (by omega) (by decide) ?_
  refine K_nm (fun v19 e19 => ?_)
  have w19 : h 187 (5 * x1.toNat + 1) = v19 := by rw [e19]; congr 1; omega
  have u19 := (hk x1.toNat (by omega)).1
  rw [w19] at u19
  refine K_isub (pc := 20) (i := 16) rfl ?_
  refine K_aload_n (pc := 21) (i := 17) rfl rfl ?_
  refine K_getR (pc := 22) (i := 18) (j := 3) (d := 187) rfl S_184 rfl (by decide) rfl fw_Model_16 ?_
  refine K_iconst (pc := 25) (i := 19) rfl ?_
  refine K_iload_n (pc := 26) (i := 20) rfl rfl ?_
  refine K_imul (pc := 27) (i := 21) rfl ?_
  refine K_iconst (pc := 28) (i := 22) rfl ?_
  refine K_iadd (pc := 29) (i := 23) rfl ?_
  refine K_iald (pc := 30) (i := 24) rfl S_187 (by omega) (by omega) (by decide) ?_
  refine K_nm (fun v30 e30 => ?_)
  have r30 := (rd_mkites hI ((5 * x1) + 3).toNat).2.1 (by omega)
  rw [← e30] at r30
  have w30 : h 187 (5 * x1.toNat + 3) = v30 := by rw [e30]; congr 1; omega
  have u30 := (hk x1.toNat (by omega)).2.2.1
  rw [w30] at u30
  refine K_imul (pc := 31) (i := 25) rfl ?_
  refine K_nm (fun v31 e31 => ?_)
  have u31 := mul_bd (A := 40) (B := 9) (a := v9 - v19) (b := v30) (by omega) (by omega)
  rw [← e31] at u31
  refine K_aload_n (pc := 32) (i := 26) rfl rfl ?_
  refine K_getR (pc := 33) (i := 27) (j := 3) (d := 187) rfl S_184 rfl (by decide) rfl fw_Model_16 ?_
  refine K_iconst (pc := 36) (i := 28) rfl ?_
  refine K_iload_n (pc := 37) (i := 29) rfl rfl ?_
  refine K_imul (pc := 38) (i := 30) rfl ?_
  refine K_iconst (pc := 39) (i := 31) rfl ?_
  refine K_iadd (pc := 40) (i := 32) rfl ?_
  refine K_iald (pc := 41) (i := 33) rfl S_187 (by omega) (by omega) (by decide) ?_
  refine K_nm (fun v41 e41 => ?_)
  have r41 := (rd_mkites hI ((5 * x2) + 3).toNat).2.1 (by omega)
  rw [← e41] at r41
  have w41 : h 187 (5 * x2.toNat + 3) = v41 := by rw [e41]; congr 1; omega
  have u41 := (hk x2.toNat (by omega)).2.2.1
  rw [w41] at u41
  refine K_imul (pc := 42) (i := 34) rfl ?_
  refine K_nm (fun v42 e42 => ?_)
  have u42 := mul_bd (A := 360) (B := 9) (a := v31) (b := v41) (by omega) (by omega)
  rw [← e42] at u42
  exact K_retI (pc := 43) (i := 35) rfl rfl ⟨rfl, by unfold haK; rw [w9, w19, w30, w41, e42, e31], by omega⟩
/-- how high, of what: with the sign of the drift taken away -/
def haS (k : Nat → Int) (i j : Nat) : Int := if drK k i j < 0 then - haK k i j else haK k i j
def loK (k : Nat → Int) (q i j : Nat) : Prop := haS k q i * kAbs (drK k q j) < haS k q j * kAbs (drK k q i) ∨ (haS k q i * kAbs (drK k q j) = haS k q j * kAbs (drK k q i) ∧ i < j)
theorem haS_n {k : Nat → Int} {i j : Nat} (h : drK k i j < 0) : haS k i j = - haK k i j := by unfold haS; rw [if_pos h]
theorem haS_p {k : Nat → Int} {i j : Nat} (h : ¬ drK k i j < 0) : haS k i j = haK k i j := by unfold haS; rw [if_neg h]
theorem kAbs_n {a : Int} (h : a < 0) : kAbs a = -a := by unfold kAbs; rw [if_neg (by omega)]; omega
theorem kAbs_p {a : Int} (h : ¬ a < 0) : kAbs a = a := by unfold kAbs; rw [if_pos (by omega)]
set_option maxHeartbeats 4000000 in
set_option maxRecDepth 100000 in
theorem c_Model_isLower (G : kG) {g : kGh} {h : kH} {x1 : Int} {x2 : Int} {x3 : Int} (hk : FK (h 187) (h 184 4)) (s1 : 0 ≤ x1 ∧ x1 < h 184 4) (s2 : 0 ≤ x2 ∧ x2 < h 184 4) (s3 : 0 ≤ x3 ∧ x3 < h 184 4) (hI : Gd g h) : Ctr G y_Model_isLower X_Model_isLower 2 [.ref (G.2.2.2 184), kI x1, kI x2, kI x3] h (kQi (fun z h' => h' = h ∧ ((z = 1 ∧ loK (h 187) x1.toNat x2.toNat x3.toNat) ∨ (z = 0 ∧ ¬ loK (h 187) x1.toNat x2.toNat x3.toNat)))) := by
  refine Ctr.ofK (by decide) rfl T_Model_isLower (Nat.le_of_ble_eq_true rfl) (lo := [(0, .ref (G.2.2.2 184)), (1, kI x1), (2, kI x2), (3, kI x3)]) rfl ?_
  have hm8 := rd_many hI
  refine K_aload_n (pc := 0) (i := 0) rfl rfl ?_
  refine K_iload_n (pc := 1) (i := 1) rfl rfl ?_
  refine K_iload_n (pc := 2) (i := 2) rfl rfl ?_
  refine K_cVI (pc := 3) (i := 3) rfl (c_Model_highAbove G (x1 := x1) (x2 := x2) (hk := hk) (hI := hI) (s1 := by omega) (s2 := by omega)) S_184 rfl (lv_Model_150 rfl) rfl rfl rfl rfl rfl (fun v3 h3 q3 => ?_)
  obtain ⟨eh, r3⟩ := q3
  rw [eh]; clear eh
  refine K_ist (pc := 6) (i := 4) (lo' := [(0, _), (1, _), (2, _), (3, _), (4, _)]) rfl rfl rfl rfl ?_
  refine K_aload_n (pc := 8) (i := 5) rfl rfl ?_
  refine K_iconst (pc := 9) (i := 6) rfl ?_
  refine K_iload_n (pc := 10) (i := 7) rfl rfl ?_
  refine K_iload_n (pc := 11) (i := 8) rfl rfl ?_
  refine K_cVI (pc := 12) (i := 9) rfl (c_Model_drift G (x1 := 0) (x2 := x1) (x3 := x2) (hk := FK0 hk) (hI := hI) (hn := by omega) (s1 := by omega) (s2 := by omega) (s3 := by omega)) S_184 rfl (lv_Model_133 rfl) rfl rfl rfl rfl rfl (fun v12 h12 q12 => ?_)
  obtain ⟨eh, r12⟩ := q12
  rw [eh]; clear eh
  rw [show kap h (0 : Int).toNat = h 187 from kap_0 h] at r12
  refine K_ist (pc := 15) (i := 10) (lo' := [(0, _), (1, _), (2, _), (3, _), (4, _), (5, _)]) rfl rfl rfl rfl ?_
  refine K_aload_n (pc := 17) (i := 11) rfl rfl ?_
  refine K_iload_n (pc := 18) (i := 12) rfl rfl ?_
  refine K_iload_n (pc := 19) (i := 13) rfl rfl ?_
  refine K_cVI (pc := 20) (i := 14) rfl (c_Model_highAbove G (x1 := x1) (x2 := x3) (hk := hk) (hI := hI) (s1 := by omega) (s2 := by omega)) S_184 rfl (lv_Model_150 rfl) rfl rfl rfl rfl rfl (fun v20 h20 q20 => ?_)
  obtain ⟨eh, r20⟩ := q20
  rw [eh]; clear eh
  refine K_ist (pc := 23) (i := 15) (lo' := [(0, _), (1, _), (2, _), (3, _), (4, _), (5, _), (6, _)]) rfl rfl rfl rfl ?_
  refine K_aload_n (pc := 25) (i := 16) rfl rfl ?_
  refine K_iconst (pc := 26) (i := 17) rfl ?_
  refine K_iload_n (pc := 27) (i := 18) rfl rfl ?_
  refine K_iload_n (pc := 28) (i := 19) rfl rfl ?_
  refine K_cVI (pc := 29) (i := 20) rfl (c_Model_drift G (x1 := 0) (x2 := x1) (x3 := x3) (hk := FK0 hk) (hI := hI) (hn := by omega) (s1 := by omega) (s2 := by omega) (s3 := by omega)) S_184 rfl (lv_Model_133 rfl) rfl rfl rfl rfl rfl (fun v29 h29 q29 => ?_)
  obtain ⟨eh, r29⟩ := q29
  rw [eh]; clear eh
  rw [show kap h (0 : Int).toNat = h 187 from kap_0 h] at r29
  refine K_ist (pc := 32) (i := 21) (lo' := [(0, _), (1, _), (2, _), (3, _), (4, _), (5, _), (6, _), (7, _)]) rfl rfl rfl rfl ?_
  refine K_iload (pc := 34) (i := 22) rfl rfl ?_
  first | refine K_if_ge 45 (pc := 36) (i := 23) rfl rfl (by omega) (fun b36 => ?_) (fun b36 => ?_) | refine K_if_ge_an 45 (pc := 36) (i := 23) rfl rfl (fun b36 => ?_) (fun b36 => ?_)
  · skip
    refine K_iload (pc := 45) (i := 27) rfl rfl ?_
    refine K_ist (pc := 47) (i := 28) (lo' := [(0, _), (1, _), (2, _), (3, _), (4, _), (5, _), (6, _), (7, _)]) rfl rfl rfl rfl ?_
    have A4 : v3 = haS (h 187) x1.toNat x2.toNat := by first | (rw [haS_n (by rw [← r12.1]; omega), ← r3.1]; done) | (rw [haS_p (by rw [← r12.1]; omega), ← r3.1]; done) | exact False.elim (by omega)
    refine K_iload (pc := 49) (i := 29) rfl rfl ?_
    first | refine K_if_ge 60 (pc := 51) (i := 30) rfl rfl (by omega) (fun b51 => ?_) (fun b51 => ?_) | refine K_if_ge_an 60 (pc := 51) (i := 30) rfl rfl (fun b51 => ?_) (fun b51 => ?_)
    · skip
      refine K_iload (pc := 60) (i := 34) rfl rfl ?_
      refine K_ist (pc := 62) (i := 35) (lo' := [(0, _), (1, _), (2, _), (3, _), (4, _), (5, _), (6, _), (7, _)]) rfl rfl rfl rfl ?_
      have A5 : v12 = kAbs (drK (h 187) x1.toNat x2.toNat) := by first | (rw [← r12.1, kAbs_n (by omega)]; done) | (rw [← r12.1, kAbs_p (by omega)]; done) | exact False.elim (by omega)
      refine K_iload (pc := 64) (i := 36) rfl rfl ?_
      first | refine K_if_ge 75 (pc := 66) (i := 37) rfl rfl (by omega) (fun b66 => ?_) (fun b66 => ?_) | refine K_if_ge_an 75 (pc := 66) (i := 37) rfl rfl (fun b66 => ?_) (fun b66 => ?_)
      · skip
        refine K_iload (pc := 75) (i := 41) rfl rfl ?_
        refine K_ist (pc := 77) (i := 42) (lo' := [(0, _), (1, _), (2, _), (3, _), (4, _), (5, _), (6, _), (7, _)]) rfl rfl rfl rfl ?_
        have A6 : v20 = haS (h 187) x1.toNat x3.toNat := by first | (rw [haS_n (by rw [← r29.1]; omega), ← r20.1]; done) | (rw [haS_p (by rw [← r29.1]; omega), ← r20.1]; done) | exact False.elim (by omega)
        refine K_iload (pc := 79) (i := 43) rfl rfl ?_
        first | refine K_if_ge 90 (pc := 81) (i := 44) rfl rfl (by omega) (fun b81 => ?_) (fun b81 => ?_) | refine K_if_ge_an 90 (pc := 81) (i := 44) rfl rfl (fun b81 => ?_) (fun b81 => ?_)
        · skip
          refine K_iload (pc := 90) (i := 48) rfl rfl ?_
          refine K_ist (pc := 92) (i := 49) (lo' := [(0, _), (1, _), (2, _), (3, _), (4, _), (5, _), (6, _), (7, _)]) rfl rfl rfl rfl ?_
          have A7 : v29 = kAbs (drK (h 187) x1.toNat x3.toNat) := by first | (rw [← r29.1, kAbs_n (by omega)]; done) | (rw [← r29.1, kAbs_p (by omega)]; done) | exact False.elim (by omega)
          have u1 := mul_bd (A := 3240) (B := 720) (a := v3) (b := v29) (by omega) (by omega)
          have u2 := mul_bd (A := 3240) (B := 720) (a := v20) (b := v12) (by omega) (by omega)
          have P1 : v3 * v29 = haS (h 187) x1.toNat x2.toNat * kAbs (drK (h 187) x1.toNat x3.toNat) := by rw [A4, A7]
          have P2 : v20 * v12 = haS (h 187) x1.toNat x3.toNat * kAbs (drK (h 187) x1.toNat x2.toNat) := by rw [A6, A5]
          refine K_iload (pc := 94) (i := 50) rfl rfl ?_
          refine K_i2l (pc := 96) (i := 51) rfl ?_
          refine K_eqJ (kI2l_eq (a := v3) (by omega)) ?_
          refine K_iload (pc := 97) (i := 52) rfl rfl ?_
          refine K_i2l (pc := 99) (i := 53) rfl ?_
          refine K_eqJ (kI2l_eq (a := v29) (by omega)) ?_
          refine K_lmul (pc := 100) (i := 54) rfl ?_
          refine K_iload (pc := 101) (i := 55) rfl rfl ?_
          refine K_i2l (pc := 103) (i := 56) rfl ?_
          refine K_eqJ (kI2l_eq (a := v20) (by omega)) ?_
          refine K_iload (pc := 104) (i := 57) rfl rfl ?_
          refine K_i2l (pc := 106) (i := 58) rfl ?_
          refine K_eqJ (kI2l_eq (a := v12) (by omega)) ?_
          refine K_lmul (pc := 107) (i := 59) rfl ?_
          refine K_lcmp (pc := 108) (i := 60) rfl ?_
          refine K_nm (fun v108 e108 => ?_)
          have r108 := kLcmp_R (v3 * v29) (v20 * v12)
          rw [← e108] at r108
          have t108 := kLcmp_s (a := v3 * v29) (b := v20 * v12) (by omega) (by omega)
          rw [← e108, P1, P2] at t108
          first | refine K_if_lt 135 (pc := 109) (i := 61) rfl rfl (by omega) (fun b109 => ?_) (fun b109 => ?_) | refine K_if_lt_an 135 (pc := 109) (i := 61) rfl rfl (fun b109 => ?_) (fun b109 => ?_)
          · skip
            refine K_iconst (pc := 135) (i := 77) rfl ?_
            refine K_goto 140 (pc := 136) (i := 78) rfl rfl ?_
            exact K_retZ (pc := 140) (i := 80) rfl rfl (by omega) ⟨rfl, by unfold loK; omega⟩
          · skip
            refine K_iload (pc := 112) (i := 62) rfl rfl ?_
            refine K_i2l (pc := 114) (i := 63) rfl ?_
            refine K_eqJ (kI2l_eq (a := v3) (by omega)) ?_
            refine K_iload (pc := 115) (i := 64) rfl rfl ?_
            refine K_i2l (pc := 117) (i := 65) rfl ?_
            refine K_eqJ (kI2l_eq (a := v29) (by omega)) ?_
            refine K_lmul (pc := 118) (i := 66) rfl ?_
            refine K_iload (pc := 119) (i := 67) rfl rfl ?_
            refine K_i2l (pc := 121) (i := 68) rfl ?_
            refine K_eqJ (kI2l_eq (a := v20) (by omega)) ?_
            refine K_iload (pc := 122) (i := 69) rfl rfl ?_
            refine K_i2l (pc := 124) (i := 70) rfl ?_
            refine K_eqJ (kI2l_eq (a := v12) (by omega)) ?_
            refine K_lmul (pc := 125) (i := 71) rfl ?_
            refine K_lcmp (pc := 126) (i := 72) rfl ?_
            refine K_nm (fun v126 e126 => ?_)
            have r126 := kLcmp_R (v3 * v29) (v20 * v12)
            rw [← e126] at r126
            have t126 := kLcmp_s (a := v3 * v29) (b := v20 * v12) (by omega) (by omega)
            rw [← e126, P1, P2] at t126
            first | refine K_if_ne 139 (pc := 127) (i := 73) rfl rfl (by omega) (fun b127 => ?_) (fun b127 => ?_) | refine K_if_ne_an 139 (pc := 127) (i := 73) rfl rfl (fun b127 => ?_) (fun b127 => ?_)
            · skip
              refine K_iconst (pc := 139) (i := 79) rfl ?_
              exact K_retZ (pc := 140) (i := 80) rfl rfl (by omega) ⟨rfl, by unfold loK; omega⟩
            · skip
              refine K_iload_n (pc := 130) (i := 74) rfl rfl ?_
              refine K_iload_n (pc := 131) (i := 75) rfl rfl ?_
              first | refine K_icmp_ge 139 (pc := 132) (i := 76) rfl rfl (by omega) (by omega) (fun b132 => ?_) (fun b132 => ?_) | refine K_icmp_ge_an 139 (pc := 132) (i := 76) rfl rfl (fun b132 => ?_) (fun b132 => ?_)
              · skip
                refine K_iconst (pc := 139) (i := 79) rfl ?_
                exact K_retZ (pc := 140) (i := 80) rfl rfl (by omega) ⟨rfl, by unfold loK; omega⟩
              · skip
                refine K_iconst (pc := 135) (i := 77) rfl ?_
                refine K_goto 140 (pc := 136) (i := 78) rfl rfl ?_
                exact K_retZ (pc := 140) (i := 80) rfl rfl (by omega) ⟨rfl, by unfold loK; omega⟩
        · skip
          refine K_iload (pc := 84) (i := 45) rfl rfl ?_
          refine K_ineg (pc := 86) (i := 46) rfl ?_
          refine K_goto 92 (pc := 87) (i := 47) rfl rfl ?_
          refine K_ist (pc := 92) (i := 49) (lo' := [(0, _), (1, _), (2, _), (3, _), (4, _), (5, _), (6, _), (7, _)]) rfl rfl rfl rfl ?_
          have A7 : -v29 = kAbs (drK (h 187) x1.toNat x3.toNat) := by first | (rw [← r29.1, kAbs_n (by omega)]; done) | (rw [← r29.1, kAbs_p (by omega)]; done) | exact False.elim (by omega)
          have u1 := mul_bd (A := 3240) (B := 720) (a := v3) (b := -v29) (by omega) (by omega)
          have u2 := mul_bd (A := 3240) (B := 720) (a := v20) (b := v12) (by omega) (by omega)
          have P1 : v3 * -v29 = haS (h 187) x1.toNat x2.toNat * kAbs (drK (h 187) x1.toNat x3.toNat) := by rw [A4, A7]
          have P2 : v20 * v12 = haS (h 187) x1.toNat x3.toNat * kAbs (drK (h 187) x1.toNat x2.toNat) := by rw [A6, A5]
          refine K_iload (pc := 94) (i := 50) rfl rfl ?_
          refine K_i2l (pc := 96) (i := 51) rfl ?_
          refine K_eqJ (kI2l_eq (a := v3) (by omega)) ?_
          refine K_iload (pc := 97) (i := 52) rfl rfl ?_
          refine K_i2l (pc := 99) (i := 53) rfl ?_
          refine K_eqJ (kI2l_eq (a := -v29) (by omega)) ?_
          refine K_lmul (pc := 100) (i := 54) rfl ?_
          refine K_iload (pc := 101) (i := 55) rfl rfl ?_
          refine K_i2l (pc := 103) (i := 56) rfl ?_
          refine K_eqJ (kI2l_eq (a := v20) (by omega)) ?_
          refine K_iload (pc := 104) (i := 57) rfl rfl ?_
          refine K_i2l (pc := 106) (i := 58) rfl ?_
          refine K_eqJ (kI2l_eq (a := v12) (by omega)) ?_
          refine K_lmul (pc := 107) (i := 59) rfl ?_
          refine K_lcmp (pc := 108) (i := 60) rfl ?_
          refine K_nm (fun v108 e108 => ?_)
          have r108 := kLcmp_R (v3 * (-v29)) (v20 * v12)
          rw [← e108] at r108
          have t108 := kLcmp_s (a := v3 * -v29) (b := v20 * v12) (by omega) (by omega)
          rw [← e108, P1, P2] at t108
          first | refine K_if_lt 135 (pc := 109) (i := 61) rfl rfl (by omega) (fun b109 => ?_) (fun b109 => ?_) | refine K_if_lt_an 135 (pc := 109) (i := 61) rfl rfl (fun b109 => ?_) (fun b109 => ?_)
          · skip
            refine K_iconst (pc := 135) (i := 77) rfl ?_
            refine K_goto 140 (pc := 136) (i := 78) rfl rfl ?_
            exact K_retZ (pc := 140) (i := 80) rfl rfl (by omega) ⟨rfl, by unfold loK; omega⟩
          · skip
            refine K_iload (pc := 112) (i := 62) rfl rfl ?_
            refine K_i2l (pc := 114) (i := 63) rfl ?_
            refine K_eqJ (kI2l_eq (a := v3) (by omega)) ?_
            refine K_iload (pc := 115) (i := 64) rfl rfl ?_
            refine K_i2l (pc := 117) (i := 65) rfl ?_
            refine K_eqJ (kI2l_eq (a := -v29) (by omega)) ?_
            refine K_lmul (pc := 118) (i := 66) rfl ?_
            refine K_iload (pc := 119) (i := 67) rfl rfl ?_
            refine K_i2l (pc := 121) (i := 68) rfl ?_
            refine K_eqJ (kI2l_eq (a := v20) (by omega)) ?_
            refine K_iload (pc := 122) (i := 69) rfl rfl ?_
            refine K_i2l (pc := 124) (i := 70) rfl ?_
            refine K_eqJ (kI2l_eq (a := v12) (by omega)) ?_
            refine K_lmul (pc := 125) (i := 71) rfl ?_
            refine K_lcmp (pc := 126) (i := 72) rfl ?_
            refine K_nm (fun v126 e126 => ?_)
            have r126 := kLcmp_R (v3 * (-v29)) (v20 * v12)
            rw [← e126] at r126
            have t126 := kLcmp_s (a := v3 * -v29) (b := v20 * v12) (by omega) (by omega)
            rw [← e126, P1, P2] at t126
            first | refine K_if_ne 139 (pc := 127) (i := 73) rfl rfl (by omega) (fun b127 => ?_) (fun b127 => ?_) | refine K_if_ne_an 139 (pc := 127) (i := 73) rfl rfl (fun b127 => ?_) (fun b127 => ?_)
            · skip
              refine K_iconst (pc := 139) (i := 79) rfl ?_
              exact K_retZ (pc := 140) (i := 80) rfl rfl (by omega) ⟨rfl, by unfold loK; omega⟩
            · skip
              refine K_iload_n (pc := 130) (i := 74) rfl rfl ?_
              refine K_iload_n (pc := 131) (i := 75) rfl rfl ?_
              first | refine K_icmp_ge 139 (pc := 132) (i := 76) rfl rfl (by omega) (by omega) (fun b132 => ?_) (fun b132 => ?_) | refine K_icmp_ge_an 139 (pc := 132) (i := 76) rfl rfl (fun b132 => ?_) (fun b132 => ?_)
              · skip
                refine K_iconst (pc := 139) (i := 79) rfl ?_
                exact K_retZ (pc := 140) (i := 80) rfl rfl (by omega) ⟨rfl, by unfold loK; omega⟩
              · skip
                refine K_iconst (pc := 135) (i := 77) rfl ?_
                refine K_goto 140 (pc := 136) (i := 78) rfl rfl ?_
                exact K_retZ (pc := 140) (i := 80) rfl rfl (by omega) ⟨rfl, by unfold loK; omega⟩
      · skip
        refine K_iload (pc := 69) (i := 38) rfl rfl ?_
        refine K_ineg (pc := 71) (i := 39) rfl ?_
        refine K_goto 77 (pc := 72) (i := 40) rfl rfl ?_
        refine K_ist (pc := 77) (i := 42) (lo' := [(0, _), (1, _), (2, _), (3, _), (4, _), (5, _), (6, _), (7, _)]) rfl rfl rfl rfl ?_
        have A6 : -v20 = haS (h 187) x1.toNat x3.toNat := by first | (rw [haS_n (by rw [← r29.1]; omega), ← r20.1]; done) | (rw [haS_p (by rw [← r29.1]; omega), ← r20.1]; done) | exact False.elim (by omega)
        refine K_iload (pc := 79) (i := 43) rfl rfl ?_
        first | refine K_if_ge 90 (pc := 81) (i := 44) rfl rfl (by omega) (fun b81 => ?_) (fun b81 => ?_) | refine K_if_ge_an 90 (pc := 81) (i := 44) rfl rfl (fun b81 => ?_) (fun b81 => ?_)
        · skip
          refine K_iload (pc := 90) (i := 48) rfl rfl ?_
          refine K_ist (pc := 92) (i := 49) (lo' := [(0, _), (1, _), (2, _), (3, _), (4, _), (5, _), (6, _), (7, _)]) rfl rfl rfl rfl ?_
          have A7 : v29 = kAbs (drK (h 187) x1.toNat x3.toNat) := by first | (rw [← r29.1, kAbs_n (by omega)]; done) | (rw [← r29.1, kAbs_p (by omega)]; done) | exact False.elim (by omega)
          have u1 := mul_bd (A := 3240) (B := 720) (a := v3) (b := v29) (by omega) (by omega)
          have u2 := mul_bd (A := 3240) (B := 720) (a := -v20) (b := v12) (by omega) (by omega)
          have P1 : v3 * v29 = haS (h 187) x1.toNat x2.toNat * kAbs (drK (h 187) x1.toNat x3.toNat) := by rw [A4, A7]
          have P2 : -v20 * v12 = haS (h 187) x1.toNat x3.toNat * kAbs (drK (h 187) x1.toNat x2.toNat) := by rw [A6, A5]
          refine K_iload (pc := 94) (i := 50) rfl rfl ?_
          refine K_i2l (pc := 96) (i := 51) rfl ?_
          refine K_eqJ (kI2l_eq (a := v3) (by omega)) ?_
          refine K_iload (pc := 97) (i := 52) rfl rfl ?_
          refine K_i2l (pc := 99) (i := 53) rfl ?_
          refine K_eqJ (kI2l_eq (a := v29) (by omega)) ?_
          refine K_lmul (pc := 100) (i := 54) rfl ?_
          refine K_iload (pc := 101) (i := 55) rfl rfl ?_
          refine K_i2l (pc := 103) (i := 56) rfl ?_
          refine K_eqJ (kI2l_eq (a := -v20) (by omega)) ?_
          refine K_iload (pc := 104) (i := 57) rfl rfl ?_
          refine K_i2l (pc := 106) (i := 58) rfl ?_
          refine K_eqJ (kI2l_eq (a := v12) (by omega)) ?_
          refine K_lmul (pc := 107) (i := 59) rfl ?_
          refine K_lcmp (pc := 108) (i := 60) rfl ?_
          refine K_nm (fun v108 e108 => ?_)
          have r108 := kLcmp_R (v3 * v29) ((-v20) * v12)
          rw [← e108] at r108
          have t108 := kLcmp_s (a := v3 * v29) (b := -v20 * v12) (by omega) (by omega)
          rw [← e108, P1, P2] at t108
          first | refine K_if_lt 135 (pc := 109) (i := 61) rfl rfl (by omega) (fun b109 => ?_) (fun b109 => ?_) | refine K_if_lt_an 135 (pc := 109) (i := 61) rfl rfl (fun b109 => ?_) (fun b109 => ?_)
          · skip
            refine K_iconst (pc := 135) (i := 77) rfl ?_
            refine K_goto 140 (pc := 136) (i := 78) rfl rfl ?_
            exact K_retZ (pc := 140) (i := 80) rfl rfl (by omega) ⟨rfl, by unfold loK; omega⟩
          · skip
            refine K_iload (pc := 112) (i := 62) rfl rfl ?_
            refine K_i2l (pc := 114) (i := 63) rfl ?_
            refine K_eqJ (kI2l_eq (a := v3) (by omega)) ?_
            refine K_iload (pc := 115) (i := 64) rfl rfl ?_
            refine K_i2l (pc := 117) (i := 65) rfl ?_
            refine K_eqJ (kI2l_eq (a := v29) (by omega)) ?_
            refine K_lmul (pc := 118) (i := 66) rfl ?_
            refine K_iload (pc := 119) (i := 67) rfl rfl ?_
            refine K_i2l (pc := 121) (i := 68) rfl ?_
            refine K_eqJ (kI2l_eq (a := -v20) (by omega)) ?_
            refine K_iload (pc := 122) (i := 69) rfl rfl ?_
            refine K_i2l (pc := 124) (i := 70) rfl ?_
            refine K_eqJ (kI2l_eq (a := v12) (by omega)) ?_
            refine K_lmul (pc := 125) (i := 71) rfl ?_
            refine K_lcmp (pc := 126) (i := 72) rfl ?_
            refine K_nm (fun v126 e126 => ?_)
            have r126 := kLcmp_R (v3 * v29) ((-v20) * v12)
            rw [← e126] at r126
            have t126 := kLcmp_s (a := v3 * v29) (b := -v20 * v12) (by omega) (by omega)
            rw [← e126, P1, P2] at t126
            first | refine K_if_ne 139 (pc := 127) (i := 73) rfl rfl (by omega) (fun b127 => ?_) (fun b127 => ?_) | refine K_if_ne_an 139 (pc := 127) (i := 73) rfl rfl (fun b127 => ?_) (fun b127 => ?_)
            · skip
              refine K_iconst (pc := 139) (i := 79) rfl ?_
              exact K_retZ (pc := 140) (i := 80) rfl rfl (by omega) ⟨rfl, by unfold loK; omega⟩
            · skip
              refine K_iload_n (pc := 130) (i := 74) rfl rfl ?_
              refine K_iload_n (pc := 131) (i := 75) rfl rfl ?_
              first | refine K_icmp_ge 139 (pc := 132) (i := 76) rfl rfl (by omega) (by omega) (fun b132 => ?_) (fun b132 => ?_) | refine K_icmp_ge_an 139 (pc := 132) (i := 76) rfl rfl (fun b132 => ?_) (fun b132 => ?_)
              · skip
                refine K_iconst (pc := 139) (i := 79) rfl ?_
                exact K_retZ (pc := 140) (i := 80) rfl rfl (by omega) ⟨rfl, by unfold loK; omega⟩
              · skip
                refine K_iconst (pc := 135) (i := 77) rfl ?_
                refine K_goto 140 (pc := 136) (i := 78) rfl rfl ?_
                exact K_retZ (pc := 140) (i := 80) rfl rfl (by omega) ⟨rfl, by unfold loK; omega⟩
        · skip
          refine K_iload (pc := 84) (i := 45) rfl rfl ?_
          refine K_ineg (pc := 86) (i := 46) rfl ?_
          refine K_goto 92 (pc := 87) (i := 47) rfl rfl ?_
          refine K_ist (pc := 92) (i := 49) (lo' := [(0, _), (1, _), (2, _), (3, _), (4, _), (5, _), (6, _), (7, _)]) rfl rfl rfl rfl ?_
          have A7 : -v29 = kAbs (drK (h 187) x1.toNat x3.toNat) := by first | (rw [← r29.1, kAbs_n (by omega)]; done) | (rw [← r29.1, kAbs_p (by omega)]; done) | exact False.elim (by omega)
          have u1 := mul_bd (A := 3240) (B := 720) (a := v3) (b := -v29) (by omega) (by omega)
          have u2 := mul_bd (A := 3240) (B := 720) (a := -v20) (b := v12) (by omega) (by omega)
          have P1 : v3 * -v29 = haS (h 187) x1.toNat x2.toNat * kAbs (drK (h 187) x1.toNat x3.toNat) := by rw [A4, A7]
          have P2 : -v20 * v12 = haS (h 187) x1.toNat x3.toNat * kAbs (drK (h 187) x1.toNat x2.toNat) := by rw [A6, A5]
          refine K_iload (pc := 94) (i := 50) rfl rfl ?_
          refine K_i2l (pc := 96) (i := 51) rfl ?_
          refine K_eqJ (kI2l_eq (a := v3) (by omega)) ?_
          refine K_iload (pc := 97) (i := 52) rfl rfl ?_
          refine K_i2l (pc := 99) (i := 53) rfl ?_
          refine K_eqJ (kI2l_eq (a := -v29) (by omega)) ?_
          refine K_lmul (pc := 100) (i := 54) rfl ?_
          refine K_iload (pc := 101) (i := 55) rfl rfl ?_
          refine K_i2l (pc := 103) (i := 56) rfl ?_
          refine K_eqJ (kI2l_eq (a := -v20) (by omega)) ?_
          refine K_iload (pc := 104) (i := 57) rfl rfl ?_
          refine K_i2l (pc := 106) (i := 58) rfl ?_
          refine K_eqJ (kI2l_eq (a := v12) (by omega)) ?_
          refine K_lmul (pc := 107) (i := 59) rfl ?_
          refine K_lcmp (pc := 108) (i := 60) rfl ?_
          refine K_nm (fun v108 e108 => ?_)
          have r108 := kLcmp_R (v3 * (-v29)) ((-v20) * v12)
          rw [← e108] at r108
          have t108 := kLcmp_s (a := v3 * -v29) (b := -v20 * v12) (by omega) (by omega)
          rw [← e108, P1, P2] at t108
          first | refine K_if_lt 135 (pc := 109) (i := 61) rfl rfl (by omega) (fun b109 => ?_) (fun b109 => ?_) | refine K_if_lt_an 135 (pc := 109) (i := 61) rfl rfl (fun b109 => ?_) (fun b109 => ?_)
          · skip
            refine K_iconst (pc := 135) (i := 77) rfl ?_
            refine K_goto 140 (pc := 136) (i := 78) rfl rfl ?_
            exact K_retZ (pc := 140) (i := 80) rfl rfl (by omega) ⟨rfl, by unfold loK; omega⟩
          · skip
            refine K_iload (pc := 112) (i := 62) rfl rfl ?_
            refine K_i2l (pc := 114) (i := 63) rfl ?_
            refine K_eqJ (kI2l_eq (a := v3) (by omega)) ?_
            refine K_iload (pc := 115) (i := 64) rfl rfl ?_
            refine K_i2l (pc := 117) (i := 65) rfl ?_
            refine K_eqJ (kI2l_eq (a := -v29) (by omega)) ?_
            refine K_lmul (pc := 118) (i := 66) rfl ?_
            refine K_iload (pc := 119) (i := 67) rfl rfl ?_
            refine K_i2l (pc := 121) (i := 68) rfl ?_
            refine K_eqJ (kI2l_eq (a := -v20) (by omega)) ?_
            refine K_iload (pc := 122) (i := 69) rfl rfl ?_
            refine K_i2l (pc := 124) (i := 70) rfl ?_
            refine K_eqJ (kI2l_eq (a := v12) (by omega)) ?_
            refine K_lmul (pc := 125) (i := 71) rfl ?_
            refine K_lcmp (pc := 126) (i := 72) rfl ?_
            refine K_nm (fun v126 e126 => ?_)
            have r126 := kLcmp_R (v3 * (-v29)) ((-v20) * v12)
            rw [← e126] at r126
            have t126 := kLcmp_s (a := v3 * -v29) (b := -v20 * v12) (by omega) (by omega)
            rw [← e126, P1, P2] at t126
            first | refine K_if_ne 139 (pc := 127) (i := 73) rfl rfl (by omega) (fun b127 => ?_) (fun b127 => ?_) | refine K_if_ne_an 139 (pc := 127) (i := 73) rfl rfl (fun b127 => ?_) (fun b127 => ?_)
            · skip
              refine K_iconst (pc := 139) (i := 79) rfl ?_
              exact K_retZ (pc := 140) (i := 80) rfl rfl (by omega) ⟨rfl, by unfold loK; omega⟩
            · skip
              refine K_iload_n (pc := 130) (i := 74) rfl rfl ?_
              refine K_iload_n (pc := 131) (i := 75) rfl rfl ?_
              first | refine K_icmp_ge 139 (pc := 132) (i := 76) rfl rfl (by omega) (by omega) (fun b132 => ?_) (fun b132 => ?_) | refine K_icmp_ge_an 139 (pc := 132) (i := 76) rfl rfl (fun b132 => ?_) (fun b132 => ?_)
              · skip
                refine K_iconst (pc := 139) (i := 79) rfl ?_
                exact K_retZ (pc := 140) (i := 80) rfl rfl (by omega) ⟨rfl, by unfold loK; omega⟩
              · skip
                refine K_iconst (pc := 135) (i := 77) rfl ?_
                refine K_goto 140 (pc := 136) (i := 78) rfl rfl ?_
                exact K_retZ (pc := 140) (i := 80) rfl rfl (by omega) ⟨rfl, by unfold loK; omega⟩
    · skip
      refine K_iload (pc := 54) (i := 31) rfl rfl ?_
      refine K_ineg (pc := 56) (i := 32) rfl ?_
      refine K_goto 62 (pc := 57) (i := 33) rfl rfl ?_
      refine K_ist (pc := 62) (i := 35) (lo' := [(0, _), (1, _), (2, _), (3, _), (4, _), (5, _), (6, _), (7, _)]) rfl rfl rfl rfl ?_
      have A5 : -v12 = kAbs (drK (h 187) x1.toNat x2.toNat) := by first | (rw [← r12.1, kAbs_n (by omega)]; done) | (rw [← r12.1, kAbs_p (by omega)]; done) | exact False.elim (by omega)
      refine K_iload (pc := 64) (i := 36) rfl rfl ?_
      first | refine K_if_ge 75 (pc := 66) (i := 37) rfl rfl (by omega) (fun b66 => ?_) (fun b66 => ?_) | refine K_if_ge_an 75 (pc := 66) (i := 37) rfl rfl (fun b66 => ?_) (fun b66 => ?_)
      · skip
        refine K_iload (pc := 75) (i := 41) rfl rfl ?_
        refine K_ist (pc := 77) (i := 42) (lo' := [(0, _), (1, _), (2, _), (3, _), (4, _), (5, _), (6, _), (7, _)]) rfl rfl rfl rfl ?_
        have A6 : v20 = haS (h 187) x1.toNat x3.toNat := by first | (rw [haS_n (by rw [← r29.1]; omega), ← r20.1]; done) | (rw [haS_p (by rw [← r29.1]; omega), ← r20.1]; done) | exact False.elim (by omega)
        refine K_iload (pc := 79) (i := 43) rfl rfl ?_
        first | refine K_if_ge 90 (pc := 81) (i := 44) rfl rfl (by omega) (fun b81 => ?_) (fun b81 => ?_) | refine K_if_ge_an 90 (pc := 81) (i := 44) rfl rfl (fun b81 => ?_) (fun b81 => ?_)
        · skip
          refine K_iload (pc := 90) (i := 48) rfl rfl ?_
          refine K_ist (pc := 92) (i := 49) (lo' := [(0, _), (1, _), (2, _), (3, _), (4, _), (5, _), (6, _), (7, _)]) rfl rfl rfl rfl ?_
          have A7 : v29 = kAbs (drK (h 187) x1.toNat x3.toNat) := by first | (rw [← r29.1, kAbs_n (by omega)]; done) | (rw [← r29.1, kAbs_p (by omega)]; done) | exact False.elim (by omega)
          have u1 := mul_bd (A := 3240) (B := 720) (a := v3) (b := v29) (by omega) (by omega)
          have u2 := mul_bd (A := 3240) (B := 720) (a := v20) (b := -v12) (by omega) (by omega)
          have P1 : v3 * v29 = haS (h 187) x1.toNat x2.toNat * kAbs (drK (h 187) x1.toNat x3.toNat) := by rw [A4, A7]
          have P2 : v20 * -v12 = haS (h 187) x1.toNat x3.toNat * kAbs (drK (h 187) x1.toNat x2.toNat) := by rw [A6, A5]
          refine K_iload (pc := 94) (i := 50) rfl rfl ?_
          refine K_i2l (pc := 96) (i := 51) rfl ?_
          refine K_eqJ (kI2l_eq (a := v3) (by omega)) ?_
          refine K_iload (pc := 97) (i := 52) rfl rfl ?_
          refine K_i2l (pc := 99) (i := 53) rfl ?_
          refine K_eqJ (kI2l_eq (a := v29) (by omega)) ?_
          refine K_lmul (pc := 100) (i := 54) rfl ?_
          refine K_iload (pc := 101) (i := 55) rfl rfl ?_
          refine K_i2l (pc := 103) (i := 56) rfl ?_
          refine K_eqJ (kI2l_eq (a := v20) (by omega)) ?_
          refine K_iload (pc := 104) (i := 57) rfl rfl ?_
          refine K_i2l (pc := 106) (i := 58) rfl ?_
          refine K_eqJ (kI2l_eq (a := -v12) (by omega)) ?_
          refine K_lmul (pc := 107) (i := 59) rfl ?_
          refine K_lcmp (pc := 108) (i := 60) rfl ?_
          refine K_nm (fun v108 e108 => ?_)
          have r108 := kLcmp_R (v3 * v29) (v20 * (-v12))
          rw [← e108] at r108
          have t108 := kLcmp_s (a := v3 * v29) (b := v20 * -v12) (by omega) (by omega)
          rw [← e108, P1, P2] at t108
          first | refine K_if_lt 135 (pc := 109) (i := 61) rfl rfl (by omega) (fun b109 => ?_) (fun b109 => ?_) | refine K_if_lt_an 135 (pc := 109) (i := 61) rfl rfl (fun b109 => ?_) (fun b109 => ?_)
          · skip
            refine K_iconst (pc := 135) (i := 77) rfl ?_
            refine K_goto 140 (pc := 136) (i := 78) rfl rfl ?_
            exact K_retZ (pc := 140) (i := 80) rfl rfl (by omega) ⟨rfl, by unfold loK; omega⟩
          · skip
            refine K_iload (pc := 112) (i := 62) rfl rfl ?_
            refine K_i2l (pc := 114) (i := 63) rfl ?_
            refine K_eqJ (kI2l_eq (a := v3) (by omega)) ?_
            refine K_iload (pc := 115) (i := 64) rfl rfl ?_
            refine K_i2l (pc := 117) (i := 65) rfl ?_
            refine K_eqJ (kI2l_eq (a := v29) (by omega)) ?_
            refine K_lmul (pc := 118) (i := 66) rfl ?_
            refine K_iload (pc := 119) (i := 67) rfl rfl ?_
            refine K_i2l (pc := 121) (i := 68) rfl ?_
            refine K_eqJ (kI2l_eq (a := v20) (by omega)) ?_
            refine K_iload (pc := 122) (i := 69) rfl rfl ?_
            refine K_i2l (pc := 124) (i := 70) rfl ?_
            refine K_eqJ (kI2l_eq (a := -v12) (by omega)) ?_
            refine K_lmul (pc := 125) (i := 71) rfl ?_
            refine K_lcmp (pc := 126) (i := 72) rfl ?_
            refine K_nm (fun v126 e126 => ?_)
            have r126 := kLcmp_R (v3 * v29) (v20 * (-v12))
            rw [← e126] at r126
            have t126 := kLcmp_s (a := v3 * v29) (b := v20 * -v12) (by omega) (by omega)
            rw [← e126, P1, P2] at t126
            first | refine K_if_ne 139 (pc := 127) (i := 73) rfl rfl (by omega) (fun b127 => ?_) (fun b127 => ?_) | refine K_if_ne_an 139 (pc := 127) (i := 73) rfl rfl (fun b127 => ?_) (fun b127 => ?_)
            · skip
              refine K_iconst (pc := 139) (i := 79) rfl ?_
              exact K_retZ (pc := 140) (i := 80) rfl rfl (by omega) ⟨rfl, by unfold loK; omega⟩
            · skip
              refine K_iload_n (pc := 130) (i := 74) rfl rfl ?_
              refine K_iload_n (pc := 131) (i := 75) rfl rfl ?_
              first | refine K_icmp_ge 139 (pc := 132) (i := 76) rfl rfl (by omega) (by omega) (fun b132 => ?_) (fun b132 => ?_) | refine K_icmp_ge_an 139 (pc := 132) (i := 76) rfl rfl (fun b132 => ?_) (fun b132 => ?_)
              · skip
                refine K_iconst (pc := 139) (i := 79) rfl ?_
                exact K_retZ (pc := 140) (i := 80) rfl rfl (by omega) ⟨rfl, by unfold loK; omega⟩
              · skip
                refine K_iconst (pc := 135) (i := 77) rfl ?_
                refine K_goto 140 (pc := 136) (i := 78) rfl rfl ?_
                exact K_retZ (pc := 140) (i := 80) rfl rfl (by omega) ⟨rfl, by unfold loK; omega⟩
        · skip
          refine K_iload (pc := 84) (i := 45) rfl rfl ?_
          refine K_ineg (pc := 86) (i := 46) rfl ?_
          refine K_goto 92 (pc := 87) (i := 47) rfl rfl ?_
          refine K_ist (pc := 92) (i := 49) (lo' := [(0, _), (1, _), (2, _), (3, _), (4, _), (5, _), (6, _), (7, _)]) rfl rfl rfl rfl ?_
          have A7 : -v29 = kAbs (drK (h 187) x1.toNat x3.toNat) := by first | (rw [← r29.1, kAbs_n (by omega)]; done) | (rw [← r29.1, kAbs_p (by omega)]; done) | exact False.elim (by omega)
          have u1 := mul_bd (A := 3240) (B := 720) (a := v3) (b := -v29) (by omega) (by omega)
          have u2 := mul_bd (A := 3240) (B := 720) (a := v20) (b := -v12) (by omega) (by omega)
          have P1 : v3 * -v29 = haS (h 187) x1.toNat x2.toNat * kAbs (drK (h 187) x1.toNat x3.toNat) := by rw [A4, A7]
          have P2 : v20 * -v12 = haS (h 187) x1.toNat x3.toNat * kAbs (drK (h 187) x1.toNat x2.toNat) := by rw [A6, A5]
          refine K_iload (pc := 94) (i := 50) rfl rfl ?_
          refine K_i2l (pc := 96) (i := 51) rfl ?_
          refine K_eqJ (kI2l_eq (a := v3) (by omega)) ?_
          refine K_iload (pc := 97) (i := 52) rfl rfl ?_
          refine K_i2l (pc := 99) (i := 53) rfl ?_
          refine K_eqJ (kI2l_eq (a := -v29) (by omega)) ?_
          refine K_lmul (pc := 100) (i := 54) rfl ?_
          refine K_iload (pc := 101) (i := 55) rfl rfl ?_
          refine K_i2l (pc := 103) (i := 56) rfl ?_
          refine K_eqJ (kI2l_eq (a := v20) (by omega)) ?_
          refine K_iload (pc := 104) (i := 57) rfl rfl ?_
          refine K_i2l (pc := 106) (i := 58) rfl ?_
          refine K_eqJ (kI2l_eq (a := -v12) (by omega)) ?_
          refine K_lmul (pc := 107) (i := 59) rfl ?_
          refine K_lcmp (pc := 108) (i := 60) rfl ?_
          refine K_nm (fun v108 e108 => ?_)
          have r108 := kLcmp_R (v3 * (-v29)) (v20 * (-v12))
          rw [← e108] at r108
          have t108 := kLcmp_s (a := v3 * -v29) (b := v20 * -v12) (by omega) (by omega)
          rw [← e108, P1, P2] at t108
          first | refine K_if_lt 135 (pc := 109) (i := 61) rfl rfl (by omega) (fun b109 => ?_) (fun b109 => ?_) | refine K_if_lt_an 135 (pc := 109) (i := 61) rfl rfl (fun b109 => ?_) (fun b109 => ?_)
          · skip
            refine K_iconst (pc := 135) (i := 77) rfl ?_
            refine K_goto 140 (pc := 136) (i := 78) rfl rfl ?_
            exact K_retZ (pc := 140) (i := 80) rfl rfl (by omega) ⟨rfl, by unfold loK; omega⟩
          · skip
            refine K_iload (pc := 112) (i := 62) rfl rfl ?_
            refine K_i2l (pc := 114) (i := 63) rfl ?_
            refine K_eqJ (kI2l_eq (a := v3) (by omega)) ?_
            refine K_iload (pc := 115) (i := 64) rfl rfl ?_
            refine K_i2l (pc := 117) (i := 65) rfl ?_
            refine K_eqJ (kI2l_eq (a := -v29) (by omega)) ?_
            refine K_lmul (pc := 118) (i := 66) rfl ?_
            refine K_iload (pc := 119) (i := 67) rfl rfl ?_
            refine K_i2l (pc := 121) (i := 68) rfl ?_
            refine K_eqJ (kI2l_eq (a := v20) (by omega)) ?_
            refine K_iload (pc := 122) (i := 69) rfl rfl ?_
            refine K_i2l (pc := 124) (i := 70) rfl ?_
            refine K_eqJ (kI2l_eq (a := -v12) (by omega)) ?_
            refine K_lmul (pc := 125) (i := 71) rfl ?_
            refine K_lcmp (pc := 126) (i := 72) rfl ?_
            refine K_nm (fun v126 e126 => ?_)
            have r126 := kLcmp_R (v3 * (-v29)) (v20 * (-v12))
            rw [← e126] at r126
            have t126 := kLcmp_s (a := v3 * -v29) (b := v20 * -v12) (by omega) (by omega)
            rw [← e126, P1, P2] at t126
            first | refine K_if_ne 139 (pc := 127) (i := 73) rfl rfl (by omega) (fun b127 => ?_) (fun b127 => ?_) | refine K_if_ne_an 139 (pc := 127) (i := 73) rfl rfl (fun b127 => ?_) (fun b127 => ?_)
            · skip
              refine K_iconst (pc := 139) (i := 79) rfl ?_
              exact K_retZ (pc := 140) (i := 80) rfl rfl (by omega) ⟨rfl, by unfold loK; omega⟩
            · skip
              refine K_iload_n (pc := 130) (i := 74) rfl rfl ?_
              refine K_iload_n (pc := 131) (i := 75) rfl rfl ?_
              first | refine K_icmp_ge 139 (pc := 132) (i := 76) rfl rfl (by omega) (by omega) (fun b132 => ?_) (fun b132 => ?_) | refine K_icmp_ge_an 139 (pc := 132) (i := 76) rfl rfl (fun b132 => ?_) (fun b132 => ?_)
              · skip
                refine K_iconst (pc := 139) (i := 79) rfl ?_
                exact K_retZ (pc := 140) (i := 80) rfl rfl (by omega) ⟨rfl, by unfold loK; omega⟩
              · skip
                refine K_iconst (pc := 135) (i := 77) rfl ?_
                refine K_goto 140 (pc := 136) (i := 78) rfl rfl ?_
                exact K_retZ (pc := 140) (i := 80) rfl rfl (by omega) ⟨rfl, by unfold loK; omega⟩
      · skip
        refine K_iload (pc := 69) (i := 38) rfl rfl ?_
        refine K_ineg (pc := 71) (i := 39) rfl ?_
        refine K_goto 77 (pc := 72) (i := 40) rfl rfl ?_
        refine K_ist (pc := 77) (i := 42) (lo' := [(0, _), (1, _), (2, _), (3, _), (4, _), (5, _), (6, _), (7, _)]) rfl rfl rfl rfl ?_
        have A6 : -v20 = haS (h 187) x1.toNat x3.toNat := by first | (rw [haS_n (by rw [← r29.1]; omega), ← r20.1]; done) | (rw [haS_p (by rw [← r29.1]; omega), ← r20.1]; done) | exact False.elim (by omega)
        refine K_iload (pc := 79) (i := 43) rfl rfl ?_
        first | refine K_if_ge 90 (pc := 81) (i := 44) rfl rfl (by omega) (fun b81 => ?_) (fun b81 => ?_) | refine K_if_ge_an 90 (pc := 81) (i := 44) rfl rfl (fun b81 => ?_) (fun b81 => ?_)
        · skip
          refine K_iload (pc := 90) (i := 48) rfl rfl ?_
          refine K_ist (pc := 92) (i := 49) (lo' := [(0, _), (1, _), (2, _), (3, _), (4, _), (5, _), (6, _), (7, _)]) rfl rfl rfl rfl ?_
          have A7 : v29 = kAbs (drK (h 187) x1.toNat x3.toNat) := by first | (rw [← r29.1, kAbs_n (by omega)]; done) | (rw [← r29.1, kAbs_p (by omega)]; done) | exact False.elim (by omega)
          have u1 := mul_bd (A := 3240) (B := 720) (a := v3) (b := v29) (by omega) (by omega)
          have u2 := mul_bd (A := 3240) (B := 720) (a := -v20) (b := -v12) (by omega) (by omega)
          have P1 : v3 * v29 = haS (h 187) x1.toNat x2.toNat * kAbs (drK (h 187) x1.toNat x3.toNat) := by rw [A4, A7]
          have P2 : -v20 * -v12 = haS (h 187) x1.toNat x3.toNat * kAbs (drK (h 187) x1.toNat x2.toNat) := by rw [A6, A5]
          refine K_iload (pc := 94) (i := 50) rfl rfl ?_
          refine K_i2l (pc := 96) (i := 51) rfl ?_
          refine K_eqJ (kI2l_eq (a := v3) (by omega)) ?_
          refine K_iload (pc := 97) (i := 52) rfl rfl ?_
          refine K_i2l (pc := 99) (i := 53) rfl ?_
          refine K_eqJ (kI2l_eq (a := v29) (by omega)) ?_
          refine K_lmul (pc := 100) (i := 54) rfl ?_
          refine K_iload (pc := 101) (i := 55) rfl rfl ?_
          refine K_i2l (pc := 103) (i := 56) rfl ?_
          refine K_eqJ (kI2l_eq (a := -v20) (by omega)) ?_
          refine K_iload (pc := 104) (i := 57) rfl rfl ?_
          refine K_i2l (pc := 106) (i := 58) rfl ?_
          refine K_eqJ (kI2l_eq (a := -v12) (by omega)) ?_
          refine K_lmul (pc := 107) (i := 59) rfl ?_
          refine K_lcmp (pc := 108) (i := 60) rfl ?_
          refine K_nm (fun v108 e108 => ?_)
          have r108 := kLcmp_R (v3 * v29) ((-v20) * (-v12))
          rw [← e108] at r108
          have t108 := kLcmp_s (a := v3 * v29) (b := -v20 * -v12) (by omega) (by omega)
          rw [← e108, P1, P2] at t108
          first | refine K_if_lt 135 (pc := 109) (i := 61) rfl rfl (by omega) (fun b109 => ?_) (fun b109 => ?_) | refine K_if_lt_an 135 (pc := 109) (i := 61) rfl rfl (fun b109 => ?_) (fun b109 => ?_)
          · skip
            refine K_iconst (pc := 135) (i := 77) rfl ?_
            refine K_goto 140 (pc := 136) (i := 78) rfl rfl ?_
            exact K_retZ (pc := 140) (i := 80) rfl rfl (by omega) ⟨rfl, by unfold loK; omega⟩
          · skip
            refine K_iload (pc := 112) (i := 62) rfl rfl ?_
            refine K_i2l (pc := 114) (i := 63) rfl ?_
            refine K_eqJ (kI2l_eq (a := v3) (by omega)) ?_
            refine K_iload (pc := 115) (i := 64) rfl rfl ?_
            refine K_i2l (pc := 117) (i := 65) rfl ?_
            refine K_eqJ (kI2l_eq (a := v29) (by omega)) ?_
            refine K_lmul (pc := 118) (i := 66) rfl ?_
            refine K_iload (pc := 119) (i := 67) rfl rfl ?_
            refine K_i2l (pc := 121) (i := 68) rfl ?_
            refine K_eqJ (kI2l_eq (a := -v20) (by omega)) ?_
            refine K_iload (pc := 122) (i := 69) rfl rfl ?_
            refine K_i2l (pc := 124) (i := 70) rfl ?_
            refine K_eqJ (kI2l_eq (a := -v12) (by omega)) ?_
            refine K_lmul (pc := 125) (i := 71) rfl ?_
            refine K_lcmp (pc := 126) (i := 72) rfl ?_
            refine K_nm (fun v126 e126 => ?_)
            have r126 := kLcmp_R (v3 * v29) ((-v20) * (-v12))
            rw [← e126] at r126
            have t126 := kLcmp_s (a := v3 * v29) (b := -v20 * -v12) (by omega) (by omega)
            rw [← e126, P1, P2] at t126
            first | refine K_if_ne 139 (pc := 127) (i := 73) rfl rfl (by omega) (fun b127 => ?_) (fun b127 => ?_) | refine K_if_ne_an 139 (pc := 127) (i := 73) rfl rfl (fun b127 => ?_) (fun b127 => ?_)
            · skip
              refine K_iconst (pc := 139) (i := 79) rfl ?_
              exact K_retZ (pc := 140) (i := 80) rfl rfl (by omega) ⟨rfl, by unfold loK; omega⟩
            · skip
              refine K_iload_n (pc := 130) (i := 74) rfl rfl ?_
              refine K_iload_n (pc := 131) (i := 75) rfl rfl ?_
              first | refine K_icmp_ge 139 (pc := 132) (i := 76) rfl rfl (by omega) (by omega) (fun b132 => ?_) (fun b132 => ?_) | refine K_icmp_ge_an 139 (pc := 132) (i := 76) rfl rfl (fun b132 => ?_) (fun b132 => ?_)
              · skip
                refine K_iconst (pc := 139) (i := 79) rfl ?_
                exact K_retZ (pc := 140) (i := 80) rfl rfl (by omega) ⟨rfl, by unfold loK; omega⟩
              · skip
                refine K_iconst (pc := 135) (i := 77) rfl ?_
                refine K_goto 140 (pc := 136) (i := 78) rfl rfl ?_
                exact K_retZ (pc := 140) (i := 80) rfl rfl (by omega) ⟨rfl, by unfold loK; omega⟩
        · skip
          refine K_iload (pc := 84) (i := 45) rfl rfl ?_
          refine K_ineg (pc := 86) (i := 46) rfl ?_
          refine K_goto 92 (pc := 87) (i := 47) rfl rfl ?_
          refine K_ist (pc := 92) (i := 49) (lo' := [(0, _), (1, _), (2, _), (3, _), (4, _), (5, _), (6, _), (7, _)]) rfl rfl rfl rfl ?_
          have A7 : -v29 = kAbs (drK (h 187) x1.toNat x3.toNat) := by first | (rw [← r29.1, kAbs_n (by omega)]; done) | (rw [← r29.1, kAbs_p (by omega)]; done) | exact False.elim (by omega)
          have u1 := mul_bd (A := 3240) (B := 720) (a := v3) (b := -v29) (by omega) (by omega)
          have u2 := mul_bd (A := 3240) (B := 720) (a := -v20) (b := -v12) (by omega) (by omega)
          have P1 : v3 * -v29 = haS (h 187) x1.toNat x2.toNat * kAbs (drK (h 187) x1.toNat x3.toNat) := by rw [A4, A7]
          have P2 : -v20 * -v12 = haS (h 187) x1.toNat x3.toNat * kAbs (drK (h 187) x1.toNat x2.toNat) := by rw [A6, A5]
          refine K_iload (pc := 94) (i := 50) rfl rfl ?_
          refine K_i2l (pc := 96) (i := 51) rfl ?_
          refine K_eqJ (kI2l_eq (a := v3) (by omega)) ?_
          refine K_iload (pc := 97) (i := 52) rfl rfl ?_
          refine K_i2l (pc := 99) (i := 53) rfl ?_
          refine K_eqJ (kI2l_eq (a := -v29) (by omega)) ?_
          refine K_lmul (pc := 100) (i := 54) rfl ?_
          refine K_iload (pc := 101) (i := 55) rfl rfl ?_
          refine K_i2l (pc := 103) (i := 56) rfl ?_
          refine K_eqJ (kI2l_eq (a := -v20) (by omega)) ?_
          refine K_iload (pc := 104) (i := 57) rfl rfl ?_
          refine K_i2l (pc := 106) (i := 58) rfl ?_
          refine K_eqJ (kI2l_eq (a := -v12) (by omega)) ?_
          refine K_lmul (pc := 107) (i := 59) rfl ?_
          refine K_lcmp (pc := 108) (i := 60) rfl ?_
          refine K_nm (fun v108 e108 => ?_)
          have r108 := kLcmp_R (v3 * (-v29)) ((-v20) * (-v12))
          rw [← e108] at r108
          have t108 := kLcmp_s (a := v3 * -v29) (b := -v20 * -v12) (by omega) (by omega)
          rw [← e108, P1, P2] at t108
          first | refine K_if_lt 135 (pc := 109) (i := 61) rfl rfl (by omega) (fun b109 => ?_) (fun b109 => ?_) | refine K_if_lt_an 135 (pc := 109) (i := 61) rfl rfl (fun b109 => ?_) (fun b109 => ?_)
          · skip
            refine K_iconst (pc := 135) (i := 77) rfl ?_
            refine K_goto 140 (pc := 136) (i := 78) rfl rfl ?_
            exact K_retZ (pc := 140) (i := 80) rfl rfl (by omega) ⟨rfl, by unfold loK; omega⟩
          · skip
            refine K_iload (pc := 112) (i := 62) rfl rfl ?_
            refine K_i2l (pc := 114) (i := 63) rfl ?_
            refine K_eqJ (kI2l_eq (a := v3) (by omega)) ?_
            refine K_iload (pc := 115) (i := 64) rfl rfl ?_
            refine K_i2l (pc := 117) (i := 65) rfl ?_
            refine K_eqJ (kI2l_eq (a := -v29) (by omega)) ?_
            refine K_lmul (pc := 118) (i := 66) rfl ?_
            refine K_iload (pc := 119) (i := 67) rfl rfl ?_
            refine K_i2l (pc := 121) (i := 68) rfl ?_
            refine K_eqJ (kI2l_eq (a := -v20) (by omega)) ?_
            refine K_iload (pc := 122) (i := 69) rfl rfl ?_
            refine K_i2l (pc := 124) (i := 70) rfl ?_
            refine K_eqJ (kI2l_eq (a := -v12) (by omega)) ?_
            refine K_lmul (pc := 125) (i := 71) rfl ?_
            refine K_lcmp (pc := 126) (i := 72) rfl ?_
            refine K_nm (fun v126 e126 => ?_)
            have r126 := kLcmp_R (v3 * (-v29)) ((-v20) * (-v12))
            rw [← e126] at r126
            have t126 := kLcmp_s (a := v3 * -v29) (b := -v20 * -v12) (by omega) (by omega)
            rw [← e126, P1, P2] at t126
            first | refine K_if_ne 139 (pc := 127) (i := 73) rfl rfl (by omega) (fun b127 => ?_) (fun b127 => ?_) | refine K_if_ne_an 139 (pc := 127) (i := 73) rfl rfl (fun b127 => ?_) (fun b127 => ?_)
            · skip
              refine K_iconst (pc := 139) (i := 79) rfl ?_
              exact K_retZ (pc := 140) (i := 80) rfl rfl (by omega) ⟨rfl, by unfold loK; omega⟩
            · skip
              refine K_iload_n (pc := 130) (i := 74) rfl rfl ?_
              refine K_iload_n (pc := 131) (i := 75) rfl rfl ?_
              first | refine K_icmp_ge 139 (pc := 132) (i := 76) rfl rfl (by omega) (by omega) (fun b132 => ?_) (fun b132 => ?_) | refine K_icmp_ge_an 139 (pc := 132) (i := 76) rfl rfl (fun b132 => ?_) (fun b132 => ?_)
              · skip
                refine K_iconst (pc := 139) (i := 79) rfl ?_
                exact K_retZ (pc := 140) (i := 80) rfl rfl (by omega) ⟨rfl, by unfold loK; omega⟩
              · skip
                refine K_iconst (pc := 135) (i := 77) rfl ?_
                refine K_goto 140 (pc := 136) (i := 78) rfl rfl ?_
                exact K_retZ (pc := 140) (i := 80) rfl rfl (by omega) ⟨rfl, by unfold loK; omega⟩
  · skip
    refine K_iload (pc := 39) (i := 24) rfl rfl ?_
    refine K_ineg (pc := 41) (i := 25) rfl ?_
    refine K_goto 47 (pc := 42) (i := 26) rfl rfl ?_
    refine K_ist (pc := 47) (i := 28) (lo' := [(0, _), (1, _), (2, _), (3, _), (4, _), (5, _), (6, _), (7, _)]) rfl rfl rfl rfl ?_
    have A4 : -v3 = haS (h 187) x1.toNat x2.toNat := by first | (rw [haS_n (by rw [← r12.1]; omega), ← r3.1]; done) | (rw [haS_p (by rw [← r12.1]; omega), ← r3.1]; done) | exact False.elim (by omega)
    refine K_iload (pc := 49) (i := 29) rfl rfl ?_
    first | refine K_if_ge 60 (pc := 51) (i := 30) rfl rfl (by omega) (fun b51 => ?_) (fun b51 => ?_) | refine K_if_ge_an 60 (pc := 51) (i := 30) rfl rfl (fun b51 => ?_) (fun b51 => ?_)
    · skip
      refine K_iload (pc := 60) (i := 34) rfl rfl ?_
      refine K_ist (pc := 62) (i := 35) (lo' := [(0, _), (1, _), (2, _), (3, _), (4, _), (5, _), (6, _), (7, _)]) rfl rfl rfl rfl ?_
      have A5 : v12 = kAbs (drK (h 187) x1.toNat x2.toNat) := by first | (rw [← r12.1, kAbs_n (by omega)]; done) | (rw [← r12.1, kAbs_p (by omega)]; done) | exact False.elim (by omega)
      refine K_iload (pc := 64) (i := 36) rfl rfl ?_
      first | refine K_if_ge 75 (pc := 66) (i := 37) rfl rfl (by omega) (fun b66 => ?_) (fun b66 => ?_) | refine K_if_ge_an 75 (pc := 66) (i := 37) rfl rfl (fun b66 => ?_) (fun b66 => ?_)
      · skip
        refine K_iload (pc := 75) (i := 41) rfl rfl ?_
        refine K_ist (pc := 77) (i := 42) (lo' := [(0, _), (1, _), (2, _), (3, _), (4, _), (5, _), (6, _), (7, _)]) rfl rfl rfl rfl ?_
        have A6 : v20 = haS (h 187) x1.toNat x3.toNat := by first | (rw [haS_n (by rw [← r29.1]; omega), ← r20.1]; done) | (rw [haS_p (by rw [← r29.1]; omega), ← r20.1]; done) | exact False.elim (by omega)
        refine K_iload (pc := 79) (i := 43) rfl rfl ?_
        first | refine K_if_ge 90 (pc := 81) (i := 44) rfl rfl (by omega) (fun b81 => ?_) (fun b81 => ?_) | refine K_if_ge_an 90 (pc := 81) (i := 44) rfl rfl (fun b81 => ?_) (fun b81 => ?_)
        · skip
          refine K_iload (pc := 90) (i := 48) rfl rfl ?_
          refine K_ist (pc := 92) (i := 49) (lo' := [(0, _), (1, _), (2, _), (3, _), (4, _), (5, _), (6, _), (7, _)]) rfl rfl rfl rfl ?_
          have A7 : v29 = kAbs (drK (h 187) x1.toNat x3.toNat) := by first | (rw [← r29.1, kAbs_n (by omega)]; done) | (rw [← r29.1, kAbs_p (by omega)]; done) | exact False.elim (by omega)
          have u1 := mul_bd (A := 3240) (B := 720) (a := -v3) (b := v29) (by omega) (by omega)
          have u2 := mul_bd (A := 3240) (B := 720) (a := v20) (b := v12) (by omega) (by omega)
          have P1 : -v3 * v29 = haS (h 187) x1.toNat x2.toNat * kAbs (drK (h 187) x1.toNat x3.toNat) := by rw [A4, A7]
          have P2 : v20 * v12 = haS (h 187) x1.toNat x3.toNat * kAbs (drK (h 187) x1.toNat x2.toNat) := by rw [A6, A5]
          refine K_iload (pc := 94) (i := 50) rfl rfl ?_
          refine K_i2l (pc := 96) (i := 51) rfl ?_
          refine K_eqJ (kI2l_eq (a := -v3) (by omega)) ?_
          refine K_iload (pc := 97) (i := 52) rfl rfl ?_
          refine K_i2l (pc := 99) (i := 53) rfl ?_
          refine K_eqJ (kI2l_eq (a := v29) (by omega)) ?_
          refine K_lmul (pc := 100) (i := 54) rfl ?_
          refine K_iload (pc := 101) (i := 55) rfl rfl ?_
          refine K_i2l (pc := 103) (i := 56) rfl ?_
          refine K_eqJ (kI2l_eq (a := v20) (by omega)) ?_
          refine K_iload (pc := 104) (i := 57) rfl rfl ?_
          refine K_i2l (pc := 106) (i := 58) rfl ?_
          refine K_eqJ (kI2l_eq (a := v12) (by omega)) ?_
          refine K_lmul (pc := 107) (i := 59) rfl ?_
          refine K_lcmp (pc := 108) (i := 60) rfl ?_
          refine K_nm (fun v108 e108 => ?_)
          have r108 := kLcmp_R ((-v3) * v29) (v20 * v12)
          rw [← e108] at r108
          have t108 := kLcmp_s (a := -v3 * v29) (b := v20 * v12) (by omega) (by omega)
          rw [← e108, P1, P2] at t108
          first | refine K_if_lt 135 (pc := 109) (i := 61) rfl rfl (by omega) (fun b109 => ?_) (fun b109 => ?_) | refine K_if_lt_an 135 (pc := 109) (i := 61) rfl rfl (fun b109 => ?_) (fun b109 => ?_)
          · skip
            refine K_iconst (pc := 135) (i := 77) rfl ?_
            refine K_goto 140 (pc := 136) (i := 78) rfl rfl ?_
            exact K_retZ (pc := 140) (i := 80) rfl rfl (by omega) ⟨rfl, by unfold loK; omega⟩
          · skip
            refine K_iload (pc := 112) (i := 62) rfl rfl ?_
            refine K_i2l (pc := 114) (i := 63) rfl ?_
            refine K_eqJ (kI2l_eq (a := -v3) (by omega)) ?_
            refine K_iload (pc := 115) (i := 64) rfl rfl ?_
            refine K_i2l (pc := 117) (i := 65) rfl ?_
            refine K_eqJ (kI2l_eq (a := v29) (by omega)) ?_
            refine K_lmul (pc := 118) (i := 66) rfl ?_
            refine K_iload (pc := 119) (i := 67) rfl rfl ?_
            refine K_i2l (pc := 121) (i := 68) rfl ?_
            refine K_eqJ (kI2l_eq (a := v20) (by omega)) ?_
            refine K_iload (pc := 122) (i := 69) rfl rfl ?_
            refine K_i2l (pc := 124) (i := 70) rfl ?_
            refine K_eqJ (kI2l_eq (a := v12) (by omega)) ?_
            refine K_lmul (pc := 125) (i := 71) rfl ?_
            refine K_lcmp (pc := 126) (i := 72) rfl ?_
            refine K_nm (fun v126 e126 => ?_)
            have r126 := kLcmp_R ((-v3) * v29) (v20 * v12)
            rw [← e126] at r126
            have t126 := kLcmp_s (a := -v3 * v29) (b := v20 * v12) (by omega) (by omega)
            rw [← e126, P1, P2] at t126
            first | refine K_if_ne 139 (pc := 127) (i := 73) rfl rfl (by omega) (fun b127 => ?_) (fun b127 => ?_) | refine K_if_ne_an 139 (pc := 127) (i := 73) rfl rfl (fun b127 => ?_) (fun b127 => ?_)
            · skip
              refine K_iconst (pc := 139) (i := 79) rfl ?_
              exact K_retZ (pc := 140) (i := 80) rfl rfl (by omega) ⟨rfl, by unfold loK; omega⟩
            · skip
              refine K_iload_n (pc := 130) (i := 74) rfl rfl ?_
              refine K_iload_n (pc := 131) (i := 75) rfl rfl ?_
              first | refine K_icmp_ge 139 (pc := 132) (i := 76) rfl rfl (by omega) (by omega) (fun b132 => ?_) (fun b132 => ?_) | refine K_icmp_ge_an 139 (pc := 132) (i := 76) rfl rfl (fun b132 => ?_) (fun b132 => ?_)
              · skip
                refine K_iconst (pc := 139) (i := 79) rfl ?_
                exact K_retZ (pc := 140) (i := 80) rfl rfl (by omega) ⟨rfl, by unfold loK; omega⟩
              · skip
                refine K_iconst (pc := 135) (i := 77) rfl ?_
                refine K_goto 140 (pc := 136) (i := 78) rfl rfl ?_
                exact K_retZ (pc := 140) (i := 80) rfl rfl (by omega) ⟨rfl, by unfold loK; omega⟩
        · skip
          refine K_iload (pc := 84) (i := 45) rfl rfl ?_
          refine K_ineg (pc := 86) (i := 46) rfl ?_
          refine K_goto 92 (pc := 87) (i := 47) rfl rfl ?_
          refine K_ist (pc := 92) (i := 49) (lo' := [(0, _), (1, _), (2, _), (3, _), (4, _), (5, _), (6, _), (7, _)]) rfl rfl rfl rfl ?_
          have A7 : -v29 = kAbs (drK (h 187) x1.toNat x3.toNat) := by first | (rw [← r29.1, kAbs_n (by omega)]; done) | (rw [← r29.1, kAbs_p (by omega)]; done) | exact False.elim (by omega)
          have u1 := mul_bd (A := 3240) (B := 720) (a := -v3) (b := -v29) (by omega) (by omega)
          have u2 := mul_bd (A := 3240) (B := 720) (a := v20) (b := v12) (by omega) (by omega)
          have P1 : -v3 * -v29 = haS (h 187) x1.toNat x2.toNat * kAbs (drK (h 187) x1.toNat x3.toNat) := by rw [A4, A7]
          have P2 : v20 * v12 = haS (h 187) x1.toNat x3.toNat * kAbs (drK (h 187) x1.toNat x2.toNat) := by rw [A6, A5]
          refine K_iload (pc := 94) (i := 50) rfl rfl ?_
          refine K_i2l (pc := 96) (i := 51) rfl ?_
          refine K_eqJ (kI2l_eq (a := -v3) (by omega)) ?_
          refine K_iload (pc := 97) (i := 52) rfl rfl ?_
          refine K_i2l (pc := 99) (i := 53) rfl ?_
          refine K_eqJ (kI2l_eq (a := -v29) (by omega)) ?_
          refine K_lmul (pc := 100) (i := 54) rfl ?_
          refine K_iload (pc := 101) (i := 55) rfl rfl ?_
          refine K_i2l (pc := 103) (i := 56) rfl ?_
          refine K_eqJ (kI2l_eq (a := v20) (by omega)) ?_
          refine K_iload (pc := 104) (i := 57) rfl rfl ?_
          refine K_i2l (pc := 106) (i := 58) rfl ?_
          refine K_eqJ (kI2l_eq (a := v12) (by omega)) ?_
          refine K_lmul (pc := 107) (i := 59) rfl ?_
          refine K_lcmp (pc := 108) (i := 60) rfl ?_
          refine K_nm (fun v108 e108 => ?_)
          have r108 := kLcmp_R ((-v3) * (-v29)) (v20 * v12)
          rw [← e108] at r108
          have t108 := kLcmp_s (a := -v3 * -v29) (b := v20 * v12) (by omega) (by omega)
          rw [← e108, P1, P2] at t108
          first | refine K_if_lt 135 (pc := 109) (i := 61) rfl rfl (by omega) (fun b109 => ?_) (fun b109 => ?_) | refine K_if_lt_an 135 (pc := 109) (i := 61) rfl rfl (fun b109 => ?_) (fun b109 => ?_)
          · skip
            refine K_iconst (pc := 135) (i := 77) rfl ?_
            refine K_goto 140 (pc := 136) (i := 78) rfl rfl ?_
            exact K_retZ (pc := 140) (i := 80) rfl rfl (by omega) ⟨rfl, by unfold loK; omega⟩
          · skip
            refine K_iload (pc := 112) (i := 62) rfl rfl ?_
            refine K_i2l (pc := 114) (i := 63) rfl ?_
            refine K_eqJ (kI2l_eq (a := -v3) (by omega)) ?_
            refine K_iload (pc := 115) (i := 64) rfl rfl ?_
            refine K_i2l (pc := 117) (i := 65) rfl ?_
            refine K_eqJ (kI2l_eq (a := -v29) (by omega)) ?_
            refine K_lmul (pc := 118) (i := 66) rfl ?_
            refine K_iload (pc := 119) (i := 67) rfl rfl ?_
            refine K_i2l (pc := 121) (i := 68) rfl ?_
            refine K_eqJ (kI2l_eq (a := v20) (by omega)) ?_
            refine K_iload (pc := 122) (i := 69) rfl rfl ?_
            refine K_i2l (pc := 124) (i := 70) rfl ?_
            refine K_eqJ (kI2l_eq (a := v12) (by omega)) ?_
            refine K_lmul (pc := 125) (i := 71) rfl ?_
            refine K_lcmp (pc := 126) (i := 72) rfl ?_
            refine K_nm (fun v126 e126 => ?_)
            have r126 := kLcmp_R ((-v3) * (-v29)) (v20 * v12)
            rw [← e126] at r126
            have t126 := kLcmp_s (a := -v3 * -v29) (b := v20 * v12) (by omega) (by omega)
            rw [← e126, P1, P2] at t126
            first | refine K_if_ne 139 (pc := 127) (i := 73) rfl rfl (by omega) (fun b127 => ?_) (fun b127 => ?_) | refine K_if_ne_an 139 (pc := 127) (i := 73) rfl rfl (fun b127 => ?_) (fun b127 => ?_)
            · skip
              refine K_iconst (pc := 139) (i := 79) rfl ?_
              exact K_retZ (pc := 140) (i := 80) rfl rfl (by omega) ⟨rfl, by unfold loK; omega⟩
            · skip
              refine K_iload_n (pc := 130) (i := 74) rfl rfl ?_
              refine K_iload_n (pc := 131) (i := 75) rfl rfl ?_
              first | refine K_icmp_ge 139 (pc := 132) (i := 76) rfl rfl (by omega) (by omega) (fun b132 => ?_) (fun b132 => ?_) | refine K_icmp_ge_an 139 (pc := 132) (i := 76) rfl rfl (fun b132 => ?_) (fun b132 => ?_)
              · skip
                refine K_iconst (pc := 139) (i := 79) rfl ?_
                exact K_retZ (pc := 140) (i := 80) rfl rfl (by omega) ⟨rfl, by unfold loK; omega⟩
              · skip
                refine K_iconst (pc := 135) (i := 77) rfl ?_
                refine K_goto 140 (pc := 136) (i := 78) rfl rfl ?_
                exact K_retZ (pc := 140) (i := 80) rfl rfl (by omega) ⟨rfl, by unfold loK; omega⟩
      · skip
        refine K_iload (pc := 69) (i := 38) rfl rfl ?_
        refine K_ineg (pc := 71) (i := 39) rfl ?_
        refine K_goto 77 (pc := 72) (i := 40) rfl rfl ?_
        refine K_ist (pc := 77) (i := 42) (lo' := [(0, _), (1, _), (2, _), (3, _), (4, _), (5, _), (6, _), (7, _)]) rfl rfl rfl rfl ?_
        have A6 : -v20 = haS (h 187) x1.toNat x3.toNat := by first | (rw [haS_n (by rw [← r29.1]; omega), ← r20.1]; done) | (rw [haS_p (by rw [← r29.1]; omega), ← r20.1]; done) | exact False.elim (by omega)
        refine K_iload (pc := 79) (i := 43) rfl rfl ?_
        first | refine K_if_ge 90 (pc := 81) (i := 44) rfl rfl (by omega) (fun b81 => ?_) (fun b81 => ?_) | refine K_if_ge_an 90 (pc := 81) (i := 44) rfl rfl (fun b81 => ?_) (fun b81 => ?_)
        · skip
          refine K_iload (pc := 90) (i := 48) rfl rfl ?_
          refine K_ist (pc := 92) (i := 49) (lo' := [(0, _), (1, _), (2, _), (3, _), (4, _), (5, _), (6, _), (7, _)]) rfl rfl rfl rfl ?_
          have A7 : v29 = kAbs (drK (h 187) x1.toNat x3.toNat) := by first | (rw [← r29.1, kAbs_n (by omega)]; done) | (rw [← r29.1, kAbs_p (by omega)]; done) | exact False.elim (by omega)
          have u1 := mul_bd (A := 3240) (B := 720) (a := -v3) (b := v29) (by omega) (by omega)
          have u2 := mul_bd (A := 3240) (B := 720) (a := -v20) (b := v12) (by omega) (by omega)
          have P1 : -v3 * v29 = haS (h 187) x1.toNat x2.toNat * kAbs (drK (h 187) x1.toNat x3.toNat) := by rw [A4, A7]
          have P2 : -v20 * v12 = haS (h 187) x1.toNat x3.toNat * kAbs (drK (h 187) x1.toNat x2.toNat) := by rw [A6, A5]
          refine K_iload (pc := 94) (i := 50) rfl rfl ?_
          refine K_i2l (pc := 96) (i := 51) rfl ?_
          refine K_eqJ (kI2l_eq (a := -v3) (by omega)) ?_
          refine K_iload (pc := 97) (i := 52) rfl rfl ?_
          refine K_i2l (pc := 99) (i := 53) rfl ?_
          refine K_eqJ (kI2l_eq (a := v29) (by omega)) ?_
          refine K_lmul (pc := 100) (i := 54) rfl ?_
          refine K_iload (pc := 101) (i := 55) rfl rfl ?_
          refine K_i2l (pc := 103) (i := 56) rfl ?_
          refine K_eqJ (kI2l_eq (a := -v20) (by omega)) ?_
          refine K_iload (pc := 104) (i := 57) rfl rfl ?_
          refine K_i2l (pc := 106) (i := 58) rfl ?_
          refine K_eqJ (kI2l_eq (a := v12) (by omega)) ?_
          refine K_lmul (pc := 107) (i := 59) rfl ?_
          refine K_lcmp (pc := 108) (i := 60) rfl ?_
          refine K_nm (fun v108 e108 => ?_)
          have r108 := kLcmp_R ((-v3) * v29) ((-v20) * v12)
          rw [← e108] at r108
          have t108 := kLcmp_s (a := -v3 * v29) (b := -v20 * v12) (by omega) (by omega)
          rw [← e108, P1, P2] at t108
          first | refine K_if_lt 135 (pc := 109) (i := 61) rfl rfl (by omega) (fun b109 => ?_) (fun b109 => ?_) | refine K_if_lt_an 135 (pc := 109) (i := 61) rfl rfl (fun b109 => ?_) (fun b109 => ?_)
          · skip
            refine K_iconst (pc := 135) (i := 77) rfl ?_
            refine K_goto 140 (pc := 136) (i := 78) rfl rfl ?_
            exact K_retZ (pc := 140) (i := 80) rfl rfl (by omega) ⟨rfl, by unfold loK; omega⟩
          · skip
            refine K_iload (pc := 112) (i := 62) rfl rfl ?_
            refine K_i2l (pc := 114) (i := 63) rfl ?_
            refine K_eqJ (kI2l_eq (a := -v3) (by omega)) ?_
            refine K_iload (pc := 115) (i := 64) rfl rfl ?_
            refine K_i2l (pc := 117) (i := 65) rfl ?_
            refine K_eqJ (kI2l_eq (a := v29) (by omega)) ?_
            refine K_lmul (pc := 118) (i := 66) rfl ?_
            refine K_iload (pc := 119) (i := 67) rfl rfl ?_
            refine K_i2l (pc := 121) (i := 68) rfl ?_
            refine K_eqJ (kI2l_eq (a := -v20) (by omega)) ?_
            refine K_iload (pc := 122) (i := 69) rfl rfl ?_
            refine K_i2l (pc := 124) (i := 70) rfl ?_
            refine K_eqJ (kI2l_eq (a := v12) (by omega)) ?_
            refine K_lmul (pc := 125) (i := 71) rfl ?_
            refine K_lcmp (pc := 126) (i := 72) rfl ?_
            refine K_nm (fun v126 e126 => ?_)
            have r126 := kLcmp_R ((-v3) * v29) ((-v20) * v12)
            rw [← e126] at r126
            have t126 := kLcmp_s (a := -v3 * v29) (b := -v20 * v12) (by omega) (by omega)
            rw [← e126, P1, P2] at t126
            first | refine K_if_ne 139 (pc := 127) (i := 73) rfl rfl (by omega) (fun b127 => ?_) (fun b127 => ?_) | refine K_if_ne_an 139 (pc := 127) (i := 73) rfl rfl (fun b127 => ?_) (fun b127 => ?_)
            · skip
              refine K_iconst (pc := 139) (i := 79) rfl ?_
              exact K_retZ (pc := 140) (i := 80) rfl rfl (by omega) ⟨rfl, by unfold loK; omega⟩
            · skip
              refine K_iload_n (pc := 130) (i := 74) rfl rfl ?_
              refine K_iload_n (pc := 131) (i := 75) rfl rfl ?_
              first | refine K_icmp_ge 139 (pc := 132) (i := 76) rfl rfl (by omega) (by omega) (fun b132 => ?_) (fun b132 => ?_) | refine K_icmp_ge_an 139 (pc := 132) (i := 76) rfl rfl (fun b132 => ?_) (fun b132 => ?_)
              · skip
                refine K_iconst (pc := 139) (i := 79) rfl ?_
                exact K_retZ (pc := 140) (i := 80) rfl rfl (by omega) ⟨rfl, by unfold loK; omega⟩
              · skip
                refine K_iconst (pc := 135) (i := 77) rfl ?_
                refine K_goto 140 (pc := 136) (i := 78) rfl rfl ?_
                exact K_retZ (pc := 140) (i := 80) rfl rfl (by omega) ⟨rfl, by unfold loK; omega⟩
        · skip
          refine K_iload (pc := 84) (i := 45) rfl rfl ?_
          refine K_ineg (pc := 86) (i := 46) rfl ?_
          refine K_goto 92 (pc := 87) (i := 47) rfl rfl ?_
          refine K_ist (pc := 92) (i := 49) (lo' := [(0, _), (1, _), (2, _), (3, _), (4, _), (5, _), (6, _), (7, _)]) rfl rfl rfl rfl ?_
          have A7 : -v29 = kAbs (drK (h 187) x1.toNat x3.toNat) := by first | (rw [← r29.1, kAbs_n (by omega)]; done) | (rw [← r29.1, kAbs_p (by omega)]; done) | exact False.elim (by omega)
          have u1 := mul_bd (A := 3240) (B := 720) (a := -v3) (b := -v29) (by omega) (by omega)
          have u2 := mul_bd (A := 3240) (B := 720) (a := -v20) (b := v12) (by omega) (by omega)
          have P1 : -v3 * -v29 = haS (h 187) x1.toNat x2.toNat * kAbs (drK (h 187) x1.toNat x3.toNat) := by rw [A4, A7]
          have P2 : -v20 * v12 = haS (h 187) x1.toNat x3.toNat * kAbs (drK (h 187) x1.toNat x2.toNat) := by rw [A6, A5]
          refine K_iload (pc := 94) (i := 50) rfl rfl ?_
          refine K_i2l (pc := 96) (i := 51) rfl ?_
          refine K_eqJ (kI2l_eq (a := -v3) (by omega)) ?_
          refine K_iload (pc := 97) (i := 52) rfl rfl ?_
          refine K_i2l (pc := 99) (i := 53) rfl ?_
          refine K_eqJ (kI2l_eq (a := -v29) (by omega)) ?_
          refine K_lmul (pc := 100) (i := 54) rfl ?_
          refine K_iload (pc := 101) (i := 55) rfl rfl ?_
          refine K_i2l (pc := 103) (i := 56) rfl ?_
          refine K_eqJ (kI2l_eq (a := -v20) (by omega)) ?_
          refine K_iload (pc := 104) (i := 57) rfl rfl ?_
          refine K_i2l (pc := 106) (i := 58) rfl ?_
          refine K_eqJ (kI2l_eq (a := v12) (by omega)) ?_
          refine K_lmul (pc := 107) (i := 59) rfl ?_
          refine K_lcmp (pc := 108) (i := 60) rfl ?_
          refine K_nm (fun v108 e108 => ?_)
          have r108 := kLcmp_R ((-v3) * (-v29)) ((-v20) * v12)
          rw [← e108] at r108
          have t108 := kLcmp_s (a := -v3 * -v29) (b := -v20 * v12) (by omega) (by omega)
          rw [← e108, P1, P2] at t108
          first | refine K_if_lt 135 (pc := 109) (i := 61) rfl rfl (by omega) (fun b109 => ?_) (fun b109 => ?_) | refine K_if_lt_an 135 (pc := 109) (i := 61) rfl rfl (fun b109 => ?_) (fun b109 => ?_)
          · skip
            refine K_iconst (pc := 135) (i := 77) rfl ?_
            refine K_goto 140 (pc := 136) (i := 78) rfl rfl ?_
            exact K_retZ (pc := 140) (i := 80) rfl rfl (by omega) ⟨rfl, by unfold loK; omega⟩
          · skip
            refine K_iload (pc := 112) (i := 62) rfl rfl ?_
            refine K_i2l (pc := 114) (i := 63) rfl ?_
            refine K_eqJ (kI2l_eq (a := -v3) (by omega)) ?_
            refine K_iload (pc := 115) (i := 64) rfl rfl ?_
            refine K_i2l (pc := 117) (i := 65) rfl ?_
            refine K_eqJ (kI2l_eq (a := -v29) (by omega)) ?_
            refine K_lmul (pc := 118) (i := 66) rfl ?_
            refine K_iload (pc := 119) (i := 67) rfl rfl ?_
            refine K_i2l (pc := 121) (i := 68) rfl ?_
            refine K_eqJ (kI2l_eq (a := -v20) (by omega)) ?_
            refine K_iload (pc := 122) (i := 69) rfl rfl ?_
            refine K_i2l (pc := 124) (i := 70) rfl ?_
            refine K_eqJ (kI2l_eq (a := v12) (by omega)) ?_
            refine K_lmul (pc := 125) (i := 71) rfl ?_
            refine K_lcmp (pc := 126) (i := 72) rfl ?_
            refine K_nm (fun v126 e126 => ?_)
            have r126 := kLcmp_R ((-v3) * (-v29)) ((-v20) * v12)
            rw [← e126] at r126
            have t126 := kLcmp_s (a := -v3 * -v29) (b := -v20 * v12) (by omega) (by omega)
            rw [← e126, P1, P2] at t126
            first | refine K_if_ne 139 (pc := 127) (i := 73) rfl rfl (by omega) (fun b127 => ?_) (fun b127 => ?_) | refine K_if_ne_an 139 (pc := 127) (i := 73) rfl rfl (fun b127 => ?_) (fun b127 => ?_)
            · skip
              refine K_iconst (pc := 139) (i := 79) rfl ?_
              exact K_retZ (pc := 140) (i := 80) rfl rfl (by omega) ⟨rfl, by unfold loK; omega⟩
            · skip
              refine K_iload_n (pc := 130) (i := 74) rfl rfl ?_
              refine K_iload_n (pc := 131) (i := 75) rfl rfl ?_
              first | refine K_icmp_ge 139 (pc := 132) (i := 76) rfl rfl (by omega) (by omega) (fun b132 => ?_) (fun b132 => ?_) | refine K_icmp_ge_an 139 (pc := 132) (i := 76) rfl rfl (fun b132 => ?_) (fun b132 => ?_)
              · skip
                refine K_iconst (pc := 139) (i := 79) rfl ?_
                exact K_retZ (pc := 140) (i := 80) rfl rfl (by omega) ⟨rfl, by unfold loK; omega⟩
              · skip
                refine K_iconst (pc := 135) (i := 77) rfl ?_
                refine K_goto 140 (pc := 136) (i := 78) rfl rfl ?_
                exact K_retZ (pc := 140) (i := 80) rfl rfl (by omega) ⟨rfl, by unfold loK; omega⟩
    · skip
      refine K_iload (pc := 54) (i := 31) rfl rfl ?_
      refine K_ineg (pc := 56) (i := 32) rfl ?_
      refine K_goto 62 (pc := 57) (i := 33) rfl rfl ?_
      refine K_ist (pc := 62) (i := 35) (lo' := [(0, _), (1, _), (2, _), (3, _), (4, _), (5, _), (6, _), (7, _)]) rfl rfl rfl rfl ?_
      have A5 : -v12 = kAbs (drK (h 187) x1.toNat x2.toNat) := by first | (rw [← r12.1, kAbs_n (by omega)]; done) | (rw [← r12.1, kAbs_p (by omega)]; done) | exact False.elim (by omega)
      refine K_iload (pc := 64) (i := 36) rfl rfl ?_
      first | refine K_if_ge 75 (pc := 66) (i := 37) rfl rfl (by omega) (fun b66 => ?_) (fun b66 => ?_) | refine K_if_ge_an 75 (pc := 66) (i := 37) rfl rfl (fun b66 => ?_) (fun b66 => ?_)
      · skip
        refine K_iload (pc := 75) (i := 41) rfl rfl ?_
        refine K_ist (pc := 77) (i := 42) (lo' := [(0, _), (1, _), (2, _), (3, _), (4, _), (5, _), (6, _), (7, _)]) rfl rfl rfl rfl ?_
        have A6 : v20 = haS (h 187) x1.toNat x3.toNat := by first | (rw [haS_n (by rw [← r29.1]; omega), ← r20.1]; done) | (rw [haS_p (by rw [← r29.1]; omega), ← r20.1]; done) | exact False.elim (by omega)
        refine K_iload (pc := 79) (i := 43) rfl rfl ?_
        first | refine K_if_ge 90 (pc := 81) (i := 44) rfl rfl (by omega) (fun b81 => ?_) (fun b81 => ?_) | refine K_if_ge_an 90 (pc := 81) (i := 44) rfl rfl (fun b81 => ?_) (fun b81 => ?_)
        · skip
          refine K_iload (pc := 90) (i := 48) rfl rfl ?_
          refine K_ist (pc := 92) (i := 49) (lo' := [(0, _), (1, _), (2, _), (3, _), (4, _), (5, _), (6, _), (7, _)]) rfl rfl rfl rfl ?_
          have A7 : v29 = kAbs (drK (h 187) x1.toNat x3.toNat) := by first | (rw [← r29.1, kAbs_n (by omega)]; done) | (rw [← r29.1, kAbs_p (by omega)]; done) | exact False.elim (by omega)
          have u1 := mul_bd (A := 3240) (B := 720) (a := -v3) (b := v29) (by omega) (by omega)
          have u2 := mul_bd (A := 3240) (B := 720) (a := v20) (b := -v12) (by omega) (by omega)
          have P1 : -v3 * v29 = haS (h 187) x1.toNat x2.toNat * kAbs (drK (h 187) x1.toNat x3.toNat) := by rw [A4, A7]
          have P2 : v20 * -v12 = haS (h 187) x1.toNat x3.toNat * kAbs (drK (h 187) x1.toNat x2.toNat) := by rw [A6, A5]
          refine K_iload (pc := 94) (i := 50) rfl rfl ?_
          refine K_i2l (pc := 96) (i := 51) rfl ?_
          refine K_eqJ (kI2l_eq (a := -v3) (by omega)) ?_
          refine K_iload (pc := 97) (i := 52) rfl rfl ?_
          refine K_i2l (pc := 99) (i := 53) rfl ?_
          refine K_eqJ (kI2l_eq (a := v29) (by omega)) ?_
          refine K_lmul (pc := 100) (i := 54) rfl ?_
          refine K_iload (pc := 101) (i := 55) rfl rfl ?_
          refine K_i2l (pc := 103) (i := 56) rfl ?_
          refine K_eqJ (kI2l_eq (a := v20) (by omega)) ?_
          refine K_iload (pc := 104) (i := 57) rfl rfl ?_
          refine K_i2l (pc := 106) (i := 58) rfl ?_
          refine K_eqJ (kI2l_eq (a := -v12) (by omega)) ?_
          refine K_lmul (pc := 107) (i := 59) rfl ?_
          refine K_lcmp (pc := 108) (i := 60) rfl ?_
          refine K_nm (fun v108 e108 => ?_)
          have r108 := kLcmp_R ((-v3) * v29) (v20 * (-v12))
          rw [← e108] at r108
          have t108 := kLcmp_s (a := -v3 * v29) (b := v20 * -v12) (by omega) (by omega)
          rw [← e108, P1, P2] at t108
          first | refine K_if_lt 135 (pc := 109) (i := 61) rfl rfl (by omega) (fun b109 => ?_) (fun b109 => ?_) | refine K_if_lt_an 135 (pc := 109) (i := 61) rfl rfl (fun b109 => ?_) (fun b109 => ?_)
          · skip
            refine K_iconst (pc := 135) (i := 77) rfl ?_
            refine K_goto 140 (pc := 136) (i := 78) rfl rfl ?_
            exact K_retZ (pc := 140) (i := 80) rfl rfl (by omega) ⟨rfl, by unfold loK; omega⟩
          · skip
            refine K_iload (pc := 112) (i := 62) rfl rfl ?_
            refine K_i2l (pc := 114) (i := 63) rfl ?_
            refine K_eqJ (kI2l_eq (a := -v3) (by omega)) ?_
            refine K_iload (pc := 115) (i := 64) rfl rfl ?_
            refine K_i2l (pc := 117) (i := 65) rfl ?_
            refine K_eqJ (kI2l_eq (a := v29) (by omega)) ?_
            refine K_lmul (pc := 118) (i := 66) rfl ?_
            refine K_iload (pc := 119) (i := 67) rfl rfl ?_
            refine K_i2l (pc := 121) (i := 68) rfl ?_
            refine K_eqJ (kI2l_eq (a := v20) (by omega)) ?_
            refine K_iload (pc := 122) (i := 69) rfl rfl ?_
            refine K_i2l (pc := 124) (i := 70) rfl ?_
            refine K_eqJ (kI2l_eq (a := -v12) (by omega)) ?_
            refine K_lmul (pc := 125) (i := 71) rfl ?_
            refine K_lcmp (pc := 126) (i := 72) rfl ?_
            refine K_nm (fun v126 e126 => ?_)
            have r126 := kLcmp_R ((-v3) * v29) (v20 * (-v12))
            rw [← e126] at r126
            have t126 := kLcmp_s (a := -v3 * v29) (b := v20 * -v12) (by omega) (by omega)
            rw [← e126, P1, P2] at t126
            first | refine K_if_ne 139 (pc := 127) (i := 73) rfl rfl (by omega) (fun b127 => ?_) (fun b127 => ?_) | refine K_if_ne_an 139 (pc := 127) (i := 73) rfl rfl (fun b127 => ?_) (fun b127 => ?_)
            · skip
              refine K_iconst (pc := 139) (i := 79) rfl ?_
              exact K_retZ (pc := 140) (i := 80) rfl rfl (by omega) ⟨rfl, by unfold loK; omega⟩
            · skip
              refine K_iload_n (pc := 130) (i := 74) rfl rfl ?_
              refine K_iload_n (pc := 131) (i := 75) rfl rfl ?_
              first | refine K_icmp_ge 139 (pc := 132) (i := 76) rfl rfl (by omega) (by omega) (fun b132 => ?_) (fun b132 => ?_) | refine K_icmp_ge_an 139 (pc := 132) (i := 76) rfl rfl (fun b132 => ?_) (fun b132 => ?_)
              · skip
                refine K_iconst (pc := 139) (i := 79) rfl ?_
                exact K_retZ (pc := 140) (i := 80) rfl rfl (by omega) ⟨rfl, by unfold loK; omega⟩
              · skip
                refine K_iconst (pc := 135) (i := 77) rfl ?_
                refine K_goto 140 (pc := 136) (i := 78) rfl rfl ?_
                exact K_retZ (pc := 140) (i := 80) rfl rfl (by omega) ⟨rfl, by unfold loK; omega⟩
        · skip
          refine K_iload (pc := 84) (i := 45) rfl rfl ?_
          refine K_ineg (pc := 86) (i := 46) rfl ?_
          refine K_goto 92 (pc := 87) (i := 47) rfl rfl ?_
          refine K_ist (pc := 92) (i := 49) (lo' := [(0, _), (1, _), (2, _), (3, _), (4, _), (5, _), (6, _), (7, _)]) rfl rfl rfl rfl ?_
          have A7 : -v29 = kAbs (drK (h 187) x1.toNat x3.toNat) := by first | (rw [← r29.1, kAbs_n (by omega)]; done) | (rw [← r29.1, kAbs_p (by omega)]; done) | exact False.elim (by omega)
          have u1 := mul_bd (A := 3240) (B := 720) (a := -v3) (b := -v29) (by omega) (by omega)
          have u2 := mul_bd (A := 3240) (B := 720) (a := v20) (b := -v12) (by omega) (by omega)
          have P1 : -v3 * -v29 = haS (h 187) x1.toNat x2.toNat * kAbs (drK (h 187) x1.toNat x3.toNat) := by rw [A4, A7]
          have P2 : v20 * -v12 = haS (h 187) x1.toNat x3.toNat * kAbs (drK (h 187) x1.toNat x2.toNat) := by rw [A6, A5]
          refine K_iload (pc := 94) (i := 50) rfl rfl ?_
          refine K_i2l (pc := 96) (i := 51) rfl ?_
          refine K_eqJ (kI2l_eq (a := -v3) (by omega)) ?_
          refine K_iload (pc := 97) (i := 52) rfl rfl ?_
          refine K_i2l (pc := 99) (i := 53) rfl ?_
          refine K_eqJ (kI2l_eq (a := -v29) (by omega)) ?_
          refine K_lmul (pc := 100) (i := 54) rfl ?_
          refine K_iload (pc := 101) (i := 55) rfl rfl ?_
          refine K_i2l (pc := 103) (i := 56) rfl ?_
          refine K_eqJ (kI2l_eq (a := v20) (by omega)) ?_
          refine K_iload (pc := 104) (i := 57) rfl rfl ?_
          refine K_i2l (pc := 106) (i := 58) rfl ?_
          refine K_eqJ (kI2l_eq (a := -v12) (by omega)) ?_
          refine K_lmul (pc := 107) (i := 59) rfl ?_
          refine K_lcmp (pc := 108) (i := 60) rfl ?_
          refine K_nm (fun v108 e108 => ?_)
          have r108 := kLcmp_R ((-v3) * (-v29)) (v20 * (-v12))
          rw [← e108] at r108
          have t108 := kLcmp_s (a := -v3 * -v29) (b := v20 * -v12) (by omega) (by omega)
          rw [← e108, P1, P2] at t108
          first | refine K_if_lt 135 (pc := 109) (i := 61) rfl rfl (by omega) (fun b109 => ?_) (fun b109 => ?_) | refine K_if_lt_an 135 (pc := 109) (i := 61) rfl rfl (fun b109 => ?_) (fun b109 => ?_)
          · skip
            refine K_iconst (pc := 135) (i := 77) rfl ?_
            refine K_goto 140 (pc := 136) (i := 78) rfl rfl ?_
            exact K_retZ (pc := 140) (i := 80) rfl rfl (by omega) ⟨rfl, by unfold loK; omega⟩
          · skip
            refine K_iload (pc := 112) (i := 62) rfl rfl ?_
            refine K_i2l (pc := 114) (i := 63) rfl ?_
            refine K_eqJ (kI2l_eq (a := -v3) (by omega)) ?_
            refine K_iload (pc := 115) (i := 64) rfl rfl ?_
            refine K_i2l (pc := 117) (i := 65) rfl ?_
            refine K_eqJ (kI2l_eq (a := -v29) (by omega)) ?_
            refine K_lmul (pc := 118) (i := 66) rfl ?_
            refine K_iload (pc := 119) (i := 67) rfl rfl ?_
            refine K_i2l (pc := 121) (i := 68) rfl ?_
            refine K_eqJ (kI2l_eq (a := v20) (by omega)) ?_
            refine K_iload (pc := 122) (i := 69) rfl rfl ?_
            refine K_i2l (pc := 124) (i := 70) rfl ?_
            refine K_eqJ (kI2l_eq (a := -v12) (by omega)) ?_
            refine K_lmul (pc := 125) (i := 71) rfl ?_
            refine K_lcmp (pc := 126) (i := 72) rfl ?_
            refine K_nm (fun v126 e126 => ?_)
            have r126 := kLcmp_R ((-v3) * (-v29)) (v20 * (-v12))
            rw [← e126] at r126
            have t126 := kLcmp_s (a := -v3 * -v29) (b := v20 * -v12) (by omega) (by omega)
            rw [← e126, P1, P2] at t126
            first | refine K_if_ne 139 (pc := 127) (i := 73) rfl rfl (by omega) (fun b127 => ?_) (fun b127 => ?_) | refine K_if_ne_an 139 (pc := 127) (i := 73) rfl rfl (fun b127 => ?_) (fun b127 => ?_)
            · skip
              refine K_iconst (pc := 139) (i := 79) rfl ?_
              exact K_retZ (pc := 140) (i := 80) rfl rfl (by omega) ⟨rfl, by unfold loK; omega⟩
            · skip
              refine K_iload_n (pc := 130) (i := 74) rfl rfl ?_
              refine K_iload_n (pc := 131) (i := 75) rfl rfl ?_
              first | refine K_icmp_ge 139 (pc := 132) (i := 76) rfl rfl (by omega) (by omega) (fun b132 => ?_) (fun b132 => ?_) | refine K_icmp_ge_an 139 (pc := 132) (i := 76) rfl rfl (fun b132 => ?_) (fun b132 => ?_)
              · skip
                refine K_iconst (pc := 139) (i := 79) rfl ?_
                exact K_retZ (pc := 140) (i := 80) rfl rfl (by omega) ⟨rfl, by unfold loK; omega⟩
              · skip
                refine K_iconst (pc := 135) (i := 77) rfl ?_
                refine K_goto 140 (pc := 136) (i := 78) rfl rfl ?_
                exact K_retZ (pc := 140) (i := 80) rfl rfl (by omega) ⟨rfl, by unfold loK; omega⟩
      · skip
        refine K_iload (pc := 69) (i := 38) rfl rfl ?_
        refine K_ineg (pc := 71) (i := 39) rfl ?_
        refine K_goto 77 (pc := 72) (i := 40) rfl rfl ?_
        refine K_ist (pc := 77) (i := 42) (lo' := [(0, _), (1, _), (2, _), (3, _), (4, _), (5, _), (6, _), (7, _)]) rfl rfl rfl rfl ?_
        have A6 : -v20 = haS (h 187) x1.toNat x3.toNat := by first | (rw [haS_n (by rw [← r29.1]; omega), ← r20.1]; done) | (rw [haS_p (by rw [← r29.1]; omega), ← r20.1]; done) | exact False.elim (by omega)
        refine K_iload (pc := 79) (i := 43) rfl rfl ?_
        first | refine K_if_ge 90 (pc := 81) (i := 44) rfl rfl (by omega) (fun b81 => ?_) (fun b81 => ?_) | refine K_if_ge_an 90 (pc := 81) (i := 44) rfl rfl (fun b81 => ?_) (fun b81 => ?_)
        · skip
          refine K_iload (pc := 90) (i := 48) rfl rfl ?_
          refine K_ist (pc := 92) (i := 49) (lo' := [(0, _), (1, _), (2, _), (3, _), (4, _), (5, _), (6, _), (7, _)]) rfl rfl rfl rfl ?_
          have A7 : v29 = kAbs (drK (h 187) x1.toNat x3.toNat) := by first | (rw [← r29.1, kAbs_n (by omega)]; done) | (rw [← r29.1, kAbs_p (by omega)]; done) | exact False.elim (by omega)
          have u1 := mul_bd (A := 3240) (B := 720) (a := -v3) (b := v29) (by omega) (by omega)
          have u2 := mul_bd (A := 3240) (B := 720) (a := -v20) (b := -v12) (by omega) (by omega)
          have P1 : -v3 * v29 = haS (h 187) x1.toNat x2.toNat * kAbs (drK (h 187) x1.toNat x3.toNat) := by rw [A4, A7]
          have P2 : -v20 * -v12 = haS (h 187) x1.toNat x3.toNat * kAbs (drK (h 187) x1.toNat x2.toNat) := by rw [A6, A5]
          refine K_iload (pc := 94) (i := 50) rfl rfl ?_
          refine K_i2l (pc := 96) (i := 51) rfl ?_
          refine K_eqJ (kI2l_eq (a := -v3) (by omega)) ?_
          refine K_iload (pc := 97) (i := 52) rfl rfl ?_
          refine K_i2l (pc := 99) (i := 53) rfl ?_
          refine K_eqJ (kI2l_eq (a := v29) (by omega)) ?_
          refine K_lmul (pc := 100) (i := 54) rfl ?_
          refine K_iload (pc := 101) (i := 55) rfl rfl ?_
          refine K_i2l (pc := 103) (i := 56) rfl ?_
          refine K_eqJ (kI2l_eq (a := -v20) (by omega)) ?_
          refine K_iload (pc := 104) (i := 57) rfl rfl ?_
          refine K_i2l (pc := 106) (i := 58) rfl ?_
          refine K_eqJ (kI2l_eq (a := -v12) (by omega)) ?_
          refine K_lmul (pc := 107) (i := 59) rfl ?_
          refine K_lcmp (pc := 108) (i := 60) rfl ?_
          refine K_nm (fun v108 e108 => ?_)
          have r108 := kLcmp_R ((-v3) * v29) ((-v20) * (-v12))
          rw [← e108] at r108
          have t108 := kLcmp_s (a := -v3 * v29) (b := -v20 * -v12) (by omega) (by omega)
          rw [← e108, P1, P2] at t108
          first | refine K_if_lt 135 (pc := 109) (i := 61) rfl rfl (by omega) (fun b109 => ?_) (fun b109 => ?_) | refine K_if_lt_an 135 (pc := 109) (i := 61) rfl rfl (fun b109 => ?_) (fun b109 => ?_)
          · skip
            refine K_iconst (pc := 135) (i := 77) rfl ?_
            refine K_goto 140 (pc := 136) (i := 78) rfl rfl ?_
            exact K_retZ (pc := 140) (i := 80) rfl rfl (by omega) ⟨rfl, by unfold loK; omega⟩
          · skip
            refine K_iload (pc := 112) (i := 62) rfl rfl ?_
            refine K_i2l (pc := 114) (i := 63) rfl ?_
            refine K_eqJ (kI2l_eq (a := -v3) (by omega)) ?_
            refine K_iload (pc := 115) (i := 64) rfl rfl ?_
            refine K_i2l (pc := 117) (i := 65) rfl ?_
            refine K_eqJ (kI2l_eq (a := v29) (by omega)) ?_
            refine K_lmul (pc := 118) (i := 66) rfl ?_
            refine K_iload (pc := 119) (i := 67) rfl rfl ?_
            refine K_i2l (pc := 121) (i := 68) rfl ?_
            refine K_eqJ (kI2l_eq (a := -v20) (by omega)) ?_
            refine K_iload (pc := 122) (i := 69) rfl rfl ?_
            refine K_i2l (pc := 124) (i := 70) rfl ?_
            refine K_eqJ (kI2l_eq (a := -v12) (by omega)) ?_
            refine K_lmul (pc := 125) (i := 71) rfl ?_
            refine K_lcmp (pc := 126) (i := 72) rfl ?_
            refine K_nm (fun v126 e126 => ?_)
            have r126 := kLcmp_R ((-v3) * v29) ((-v20) * (-v12))
            rw [← e126] at r126
            have t126 := kLcmp_s (a := -v3 * v29) (b := -v20 * -v12) (by omega) (by omega)
            rw [← e126, P1, P2] at t126
            first | refine K_if_ne 139 (pc := 127) (i := 73) rfl rfl (by omega) (fun b127 => ?_) (fun b127 => ?_) | refine K_if_ne_an 139 (pc := 127) (i := 73) rfl rfl (fun b127 => ?_) (fun b127 => ?_)
            · skip
              refine K_iconst (pc := 139) (i := 79) rfl ?_
              exact K_retZ (pc := 140) (i := 80) rfl rfl (by omega) ⟨rfl, by unfold loK; omega⟩
            · skip
              refine K_iload_n (pc := 130) (i := 74) rfl rfl ?_
              refine K_iload_n (pc := 131) (i := 75) rfl rfl ?_
              first | refine K_icmp_ge 139 (pc := 132) (i := 76) rfl rfl (by omega) (by omega) (fun b132 => ?_) (fun b132 => ?_) | refine K_icmp_ge_an 139 (pc := 132) (i := 76) rfl rfl (fun b132 => ?_) (fun b132 => ?_)
              · skip
                refine K_iconst (pc := 139) (i := 79) rfl ?_
                exact K_retZ (pc := 140) (i := 80) rfl rfl (by omega) ⟨rfl, by unfold loK; omega⟩
              · skip
                refine K_iconst (pc := 135) (i := 77) rfl ?_
                refine K_goto 140 (pc := 136) (i := 78) rfl rfl ?_
                exact K_retZ (pc := 140) (i := 80) rfl rfl (by omega) ⟨rfl, by unfold loK; omega⟩
        · skip
          refine K_iload (pc := 84) (i := 45) rfl rfl ?_
          refine K_ineg (pc := 86) (i := 46) rfl ?_
          refine K_goto 92 (pc := 87) (i := 47) rfl rfl ?_
          refine K_ist (pc := 92) (i := 49) (lo' := [(0, _), (1, _), (2, _), (3, _), (4, _), (5, _), (6, _), (7, _)]) rfl rfl rfl rfl ?_
          have A7 : -v29 = kAbs (drK (h 187) x1.toNat x3.toNat) := by first | (rw [← r29.1, kAbs_n (by omega)]; done) | (rw [← r29.1, kAbs_p (by omega)]; done) | exact False.elim (by omega)
          have u1 := mul_bd (A := 3240) (B := 720) (a := -v3) (b := -v29) (by omega) (by omega)
          have u2 := mul_bd (A := 3240) (B := 720) (a := -v20) (b := -v12) (by omega) (by omega)
          have P1 : -v3 * -v29 = haS (h 187) x1.toNat x2.toNat * kAbs (drK (h 187) x1.toNat x3.toNat) := by rw [A4, A7]
          have P2 : -v20 * -v12 = haS (h 187) x1.toNat x3.toNat * kAbs (drK (h 187) x1.toNat x2.toNat) := by rw [A6, A5]
          refine K_iload (pc := 94) (i := 50) rfl rfl ?_
          refine K_i2l (pc := 96) (i := 51) rfl ?_
          refine K_eqJ (kI2l_eq (a := -v3) (by omega)) ?_
          refine K_iload (pc := 97) (i := 52) rfl rfl ?_
          refine K_i2l (pc := 99) (i := 53) rfl ?_
          refine K_eqJ (kI2l_eq (a := -v29) (by omega)) ?_
          refine K_lmul (pc := 100) (i := 54) rfl ?_
          refine K_iload (pc := 101) (i := 55) rfl rfl ?_
          refine K_i2l (pc := 103) (i := 56) rfl ?_
          refine K_eqJ (kI2l_eq (a := -v20) (by omega)) ?_
          refine K_iload (pc := 104) (i := 57) rfl rfl ?_
          refine K_i2l (pc := 106) (i := 58) rfl ?_
          refine K_eqJ (kI2l_eq (a := -v12) (by omega)) ?_
          refine K_lmul (pc := 107) (i := 59) rfl ?_
          refine K_lcmp (pc := 108) (i := 60) rfl ?_
          refine K_nm (fun v108 e108 => ?_)
          have r108 := kLcmp_R ((-v3) * (-v29)) ((-v20) * (-v12))
          rw [← e108] at r108
          have t108 := kLcmp_s (a := -v3 * -v29) (b := -v20 * -v12) (by omega) (by omega)
          rw [← e108, P1, P2] at t108
          first | refine K_if_lt 135 (pc := 109) (i := 61) rfl rfl (by omega) (fun b109 => ?_) (fun b109 => ?_) | refine K_if_lt_an 135 (pc := 109) (i := 61) rfl rfl (fun b109 => ?_) (fun b109 => ?_)
          · skip
            refine K_iconst (pc := 135) (i := 77) rfl ?_
            refine K_goto 140 (pc := 136) (i := 78) rfl rfl ?_
            exact K_retZ (pc := 140) (i := 80) rfl rfl (by omega) ⟨rfl, by unfold loK; omega⟩
          · skip
            refine K_iload (pc := 112) (i := 62) rfl rfl ?_
            refine K_i2l (pc := 114) (i := 63) rfl ?_
            refine K_eqJ (kI2l_eq (a := -v3) (by omega)) ?_
            refine K_iload (pc := 115) (i := 64) rfl rfl ?_
            refine K_i2l (pc := 117) (i := 65) rfl ?_
            refine K_eqJ (kI2l_eq (a := -v29) (by omega)) ?_
            refine K_lmul (pc := 118) (i := 66) rfl ?_
            refine K_iload (pc := 119) (i := 67) rfl rfl ?_
            refine K_i2l (pc := 121) (i := 68) rfl ?_
            refine K_eqJ (kI2l_eq (a := -v20) (by omega)) ?_
            refine K_iload (pc := 122) (i := 69) rfl rfl ?_
            refine K_i2l (pc := 124) (i := 70) rfl ?_
            refine K_eqJ (kI2l_eq (a := -v12) (by omega)) ?_
            refine K_lmul (pc := 125) (i := 71) rfl ?_
            refine K_lcmp (pc := 126) (i := 72) rfl ?_
            refine K_nm (fun v126 e126 => ?_)
            have r126 := kLcmp_R ((-v3) * (-v29)) ((-v20) * (-v12))
            rw [← e126] at r126
            have t126 := kLcmp_s (a := -v3 * -v29) (b := -v20 * -v12) (by omega) (by omega)
            rw [← e126, P1, P2] at t126
            first | refine K_if_ne 139 (pc := 127) (i := 73) rfl rfl (by omega) (fun b127 => ?_) (fun b127 => ?_) | refine K_if_ne_an 139 (pc := 127) (i := 73) rfl rfl (fun b127 => ?_) (fun b127 => ?_)
            · skip
              refine K_iconst (pc := 139) (i := 79) rfl ?_
              exact K_retZ (pc := 140) (i := 80) rfl rfl (by omega) ⟨rfl, by unfold loK; omega⟩
            · skip
              refine K_iload_n (pc := 130) (i := 74) rfl rfl ?_
              refine K_iload_n (pc := 131) (i := 75) rfl rfl ?_
              first | refine K_icmp_ge 139 (pc := 132) (i := 76) rfl rfl (by omega) (by omega) (fun b132 => ?_) (fun b132 => ?_) | refine K_icmp_ge_an 139 (pc := 132) (i := 76) rfl rfl (fun b132 => ?_) (fun b132 => ?_)
              · skip
                refine K_iconst (pc := 139) (i := 79) rfl ?_
                exact K_retZ (pc := 140) (i := 80) rfl rfl (by omega) ⟨rfl, by unfold loK; omega⟩
              · skip
                refine K_iconst (pc := 135) (i := 77) rfl ?_
                refine K_goto 140 (pc := 136) (i := 78) rfl rfl ?_
                exact K_retZ (pc := 140) (i := 80) rfl rfl (by omega) ⟨rfl, by unfold loK; omega⟩
set_option maxHeartbeats 4000000 in
set_option maxRecDepth 100000 in
theorem c_Model_along (G : kG) {g : kGh} {h : kH}  (hT : g.2.2.2.2){x1 : Int} {x2 : Int} (s1 : kR x1) (s2 : kR x2) (hI : Gd g h) : Ctr G y_Model_along X_Model_along 13 [.ref (G.2.2.2 184), kI x1, kI x2] h (kQi (fun z h' => Fx (fun c i => False) h h' ∧ (Gd g h' ∧ ((¬ (0 ≤ x1 ∧ x1 < h 184 4) ∧ z = -1) ∨ ((0 ≤ x1 ∧ x1 < h 184 4) ∧ FST (fun o => ((o ≠ x1.toNat ∧ crK (h 187) x1.toNat o) ∧ sm (fun p => ind (p ≠ x1.toNat ∧ p ≠ o ∧ o ≠ x1.toNat ∧ crK (h 187) x1.toNat p ∧ crK (h 187) x1.toNat o ∧ loK (h 187) x1.toNat p o)) (h 184 4).toNat = x2)) (h 184 4) z))))) := by
  refine Ctr.ofK (by decide) rfl T_Model_along (Nat.le_of_ble_eq_true rfl) (lo := [(0, .ref (G.2.2.2 184)), (1, kI x1), (2, kI x2)]) rfl ?_
  have fx : Fx (fun c i => False) h h := Fx.rf
  have hm8 := rd_many hI
  have hk := (hI.2.2.2.2.2 hT).1
  refine K_aload_n (pc := 0) (i := 0) rfl rfl ?_
  refine K_iload_n (pc := 1) (i := 1) rfl rfl ?_
  refine K_cVI (pc := 2) (i := 2) rfl (c_Model_isKite G (x1 := x1) (hI := hI) (s1 := by omega)) S_184 rfl (lv_Model_102 rfl) rfl rfl rfl rfl rfl (fun v2 h2 q2 => ?_)
  obtain ⟨eh, r2⟩ := q2
  rw [eh]; clear eh
  first | refine K_if_ne 10 (pc := 5) (i := 3) rfl rfl (by omega) (fun b5 => ?_) (fun b5 => ?_) | refine K_if_ne_an 10 (pc := 5) (i := 3) rfl rfl (fun b5 => ?_) (fun b5 => ?_)
  · skip
    refine K_iconst (pc := 10) (i := 6) rfl ?_
    refine K_ist_n (pc := 11) (i := 7) (lo' := [(0, _), (1, _), (2, _), (3, _)]) rfl rfl rfl rfl ?_
    have L12 : ∀ (n : Nat) (x3 : Int), (8 - x3).toNat < n → ((0 ≤ x3 ∧ x3 ≤ 8) ∧ ∀ o : Nat, (o : Int) < x3 → ¬ ((o ≠ x1.toNat ∧ crK (h 187) x1.toNat o) ∧ sm (fun p => ind (p ≠ x1.toNat ∧ p ≠ o ∧ o ≠ x1.toNat ∧ crK (h 187) x1.toNat p ∧ crK (h 187) x1.toNat o ∧ loK (h 187) x1.toNat p o)) (h 184 4).toNat = x2)) → K X_Model_along G (kZm G 13 (kQi (fun z h' => Fx (fun c i => False) h h' ∧ (Gd g h' ∧ ((¬ (0 ≤ x1 ∧ x1 < h 184 4) ∧ z = -1) ∨ ((0 ≤ x1 ∧ x1 < h 184 4) ∧ FST (fun o => ((o ≠ x1.toNat ∧ crK (h 187) x1.toNat o) ∧ sm (fun p => ind (p ≠ x1.toNat ∧ p ≠ o ∧ o ≠ x1.toNat ∧ crK (h 187) x1.toNat p ∧ crK (h 187) x1.toNat o ∧ loK (h 187) x1.toNat p o)) (h 184 4).toNat = x2)) (h 184 4) z)))))) 12 [(0, .ref (G.2.2.2 184)), (1, kI x1), (2, kI x2), (3, kI x3)] [] h := by
      intro n
      induction n with
      | zero => intro x3 hm; exact absurd hm (Nat.not_lt_zero _)
      | succ n ih12 =>
        intro x3 hm12 hV12
        refine K_iload_n (pc := 12) (i := 8) rfl rfl ?_
        refine K_aload_n (pc := 13) (i := 9) rfl rfl ?_
        refine K_getI (pc := 14) (i := 10) (j := 4) rfl S_184 rfl (by decide) rfl fw_Model_59 ?_
        refine K_nm (fun v14 e14 => ?_)
        have r14 := rd_many hI
        rw [← e14] at r14
        have n14 : v14 = h 184 4 := e14
        first | refine K_icmp_ge 129 (pc := 17) (i := 11) rfl rfl (by omega) (by omega) (fun b17 => ?_) (fun b17 => ?_) | refine K_icmp_ge_an 129 (pc := 17) (i := 11) rfl rfl (fun b17 => ?_) (fun b17 => ?_)
        · skip
          refine K_bipush (pc := 129) (i := 71) rfl rfl ?_
          exact K_retI (pc := 131) (i := 72) rfl rfl ⟨fx, ⟨hI, Or.inr ⟨by omega, Or.inl ⟨rfl, fun k hk9 => hV12.2 k (by omega)⟩⟩⟩⟩
        · skip
          refine K_iconst (pc := 20) (i := 12) rfl ?_
          refine K_ist (pc := 21) (i := 13) (lo' := [(0, _), (1, _), (2, _), (3, _), (4, _)]) rfl rfl rfl rfl ?_
          refine K_iconst (pc := 23) (i := 14) rfl ?_
          refine K_ist (pc := 24) (i := 15) (lo' := [(0, _), (1, _), (2, _), (3, _), (4, _), (5, _)]) rfl rfl rfl rfl ?_
          have L26 : ∀ (n : Nat) (x4 : Int) (x5 : Int), (8 - x5).toNat < n → ((0 ≤ x5 ∧ x5 ≤ 8) ∧ (x5 ≤ h 184 4 ∧ 0 ≤ x4 ∧ x4 ≤ x5) ∧ x4 = sm (fun p => ind (p ≠ x1.toNat ∧ p ≠ x3.toNat ∧ x3.toNat ≠ x1.toNat ∧ crK (h 187) x1.toNat p ∧ crK (h 187) x1.toNat x3.toNat ∧ loK (h 187) x1.toNat p x3.toNat)) x5.toNat) → K X_Model_along G (kZm G 13 (kQi (fun z h' => Fx (fun c i => False) h h' ∧ (Gd g h' ∧ ((¬ (0 ≤ x1 ∧ x1 < h 184 4) ∧ z = -1) ∨ ((0 ≤ x1 ∧ x1 < h 184 4) ∧ FST (fun o => ((o ≠ x1.toNat ∧ crK (h 187) x1.toNat o) ∧ sm (fun p => ind (p ≠ x1.toNat ∧ p ≠ o ∧ o ≠ x1.toNat ∧ crK (h 187) x1.toNat p ∧ crK (h 187) x1.toNat o ∧ loK (h 187) x1.toNat p o)) (h 184 4).toNat = x2)) (h 184 4) z)))))) 26 [(0, .ref (G.2.2.2 184)), (1, kI x1), (2, kI x2), (3, kI x3), (4, kI x4), (5, kI x5)] [] h := by
            intro n
            induction n with
            | zero => intro x4 x5 hm; exact absurd hm (Nat.not_lt_zero _)
            | succ n ih26 =>
              intro x4 x5 hm26 hV26
              refine K_iload (pc := 26) (i := 16) rfl rfl ?_
              refine K_aload_n (pc := 28) (i := 17) rfl rfl ?_
              refine K_getI (pc := 29) (i := 18) (j := 4) rfl S_184 rfl (by decide) rfl fw_Model_59 ?_
              refine K_nm (fun v29 e29 => ?_)
              have r29 := rd_many hI
              rw [← e29] at r29
              have n29 : v29 = h 184 4 := e29
              first | refine K_icmp_ge 100 (pc := 32) (i := 19) rfl rfl (by omega) (by omega) (fun b32 => ?_) (fun b32 => ?_) | refine K_icmp_ge_an 100 (pc := 32) (i := 19) rfl rfl (fun b32 => ?_) (fun b32 => ?_)
              · skip
                refine K_iload_n (pc := 100) (i := 55) rfl rfl ?_
                refine K_iload_n (pc := 101) (i := 56) rfl rfl ?_
                first | refine K_icmp_eq 123 (pc := 102) (i := 57) rfl rfl (by omega) (by omega) (fun b102 => ?_) (fun b102 => ?_) | refine K_icmp_eq_an 123 (pc := 102) (i := 57) rfl rfl (fun b102 => ?_) (fun b102 => ?_)
                · skip
                  refine K_inc (pc := 123) (i := 69) (q := 3) (lo' := [(0, _), (1, _), (2, _), (3, _), (4, _), (5, _)]) rfl rfl rfl rfl rfl ?_
                  refine K_goto 12 (pc := 126) (i := 70) rfl rfl ?_
                  refine K_drop (lo' := [(0, .ref (G.2.2.2 184)), (1, kI x1), (2, kI x2), (3, kI (x3 + 1))]) [0, 1, 2, 3] rfl ?_
                  exact ih12 (x3 + 1) (by omega) (by first | exact ⟨by omega, fun k q => if e : k = x3.toNat then (by subst e; exact fun r => absurd r.1.1 (by omega)) else hV12.2 k (by omega)⟩ | exact ⟨by omega, fun k q => if e : k = x3.toNat then (by subst e; exact fun r => r109.elim (fun e => absurd e.1 (by omega)) (fun e => e.2 r.1.2)) else hV12.2 k (by omega)⟩ | exact ⟨by omega, fun k q => if e : k = x3.toNat then (by subst e; exact fun r => absurd r.2 (by rw [show (h 184 4).toNat = x5.toNat by omega, ← hV26.2.2]; omega)) else hV12.2 k (by omega)⟩)
                · skip
                  refine K_aload_n (pc := 105) (i := 58) rfl rfl ?_
                  refine K_iconst (pc := 106) (i := 59) rfl ?_
                  refine K_iload_n (pc := 107) (i := 60) rfl rfl ?_
                  refine K_iload_n (pc := 108) (i := 61) rfl rfl ?_
                  refine K_cVI (pc := 109) (i := 62) rfl (c_Model_doCross G (x1 := 0) (x2 := x1) (x3 := x3) (hk := FK0 hk) (hI := hI) (hn := by omega) (s1 := by omega) (s2 := by omega) (s3 := by omega)) S_184 rfl (lv_Model_137 rfl) rfl rfl rfl rfl rfl (fun v109 h109 q109 => ?_)
                  obtain ⟨eh, r109⟩ := q109
                  rw [eh]; clear eh
                  rw [show kap h (0 : Int).toNat = h 187 from kap_0 h] at r109
                  first | refine K_if_eq 123 (pc := 112) (i := 63) rfl rfl (by omega) (fun b112 => ?_) (fun b112 => ?_) | refine K_if_eq_an 123 (pc := 112) (i := 63) rfl rfl (fun b112 => ?_) (fun b112 => ?_)
                  · skip
                    refine K_inc (pc := 123) (i := 69) (q := 3) (lo' := [(0, _), (1, _), (2, _), (3, _), (4, _), (5, _)]) rfl rfl rfl rfl rfl ?_
                    refine K_goto 12 (pc := 126) (i := 70) rfl rfl ?_
                    refine K_drop (lo' := [(0, .ref (G.2.2.2 184)), (1, kI x1), (2, kI x2), (3, kI (x3 + 1))]) [0, 1, 2, 3] rfl ?_
                    exact ih12 (x3 + 1) (by omega) (by first | exact ⟨by omega, fun k q => if e : k = x3.toNat then (by subst e; exact fun r => absurd r.1.1 (by omega)) else hV12.2 k (by omega)⟩ | exact ⟨by omega, fun k q => if e : k = x3.toNat then (by subst e; exact fun r => r109.elim (fun e => absurd e.1 (by omega)) (fun e => e.2 r.1.2)) else hV12.2 k (by omega)⟩ | exact ⟨by omega, fun k q => if e : k = x3.toNat then (by subst e; exact fun r => absurd r.2 (by rw [show (h 184 4).toNat = x5.toNat by omega, ← hV26.2.2]; omega)) else hV12.2 k (by omega)⟩)
                  · skip
                    refine K_iload (pc := 115) (i := 64) rfl rfl ?_
                    refine K_iload_n (pc := 117) (i := 65) rfl rfl ?_
                    first | refine K_icmp_ne 123 (pc := 118) (i := 66) rfl rfl (by omega) (by omega) (fun b118 => ?_) (fun b118 => ?_) | refine K_icmp_ne_an 123 (pc := 118) (i := 66) rfl rfl (fun b118 => ?_) (fun b118 => ?_)
                    · skip
                      refine K_inc (pc := 123) (i := 69) (q := 3) (lo' := [(0, _), (1, _), (2, _), (3, _), (4, _), (5, _)]) rfl rfl rfl rfl rfl ?_
                      refine K_goto 12 (pc := 126) (i := 70) rfl rfl ?_
                      refine K_drop (lo' := [(0, .ref (G.2.2.2 184)), (1, kI x1), (2, kI x2), (3, kI (x3 + 1))]) [0, 1, 2, 3] rfl ?_
                      exact ih12 (x3 + 1) (by omega) (by first | exact ⟨by omega, fun k q => if e : k = x3.toNat then (by subst e; exact fun r => absurd r.1.1 (by omega)) else hV12.2 k (by omega)⟩ | exact ⟨by omega, fun k q => if e : k = x3.toNat then (by subst e; exact fun r => r109.elim (fun e => absurd e.1 (by omega)) (fun e => e.2 r.1.2)) else hV12.2 k (by omega)⟩ | exact ⟨by omega, fun k q => if e : k = x3.toNat then (by subst e; exact fun r => absurd r.2 (by rw [show (h 184 4).toNat = x5.toNat by omega, ← hV26.2.2]; omega)) else hV12.2 k (by omega)⟩)
                    · skip
                      refine K_iload_n (pc := 121) (i := 67) rfl rfl ?_
                      exact K_retI (pc := 122) (i := 68) rfl rfl ⟨fx, ⟨hI, Or.inr ⟨by omega, Or.inr ⟨x3.toNat, by omega, by omega, ⟨⟨by omega, r109.elim (fun e => e.2) (fun e => absurd e.1 (by omega))⟩, by rw [show (h 184 4).toNat = x5.toNat by omega, ← hV26.2.2]; omega⟩, fun j hj => hV12.2 j (by omega)⟩⟩⟩⟩
              · skip
                have c91 : ∀ w : Int, ((w = x4 + 1 ∧ (x5.toNat ≠ x1.toNat ∧ x5.toNat ≠ x3.toNat ∧ x3.toNat ≠ x1.toNat ∧ crK (h 187) x1.toNat x5.toNat ∧ crK (h 187) x1.toNat x3.toNat ∧ loK (h 187) x1.toNat x5.toNat x3.toNat)) ∨ (w = x4 + 0 ∧ ¬ (x5.toNat ≠ x1.toNat ∧ x5.toNat ≠ x3.toNat ∧ x3.toNat ≠ x1.toNat ∧ crK (h 187) x1.toNat x5.toNat ∧ crK (h 187) x1.toNat x3.toNat ∧ loK (h 187) x1.toNat x5.toNat x3.toNat))) → w = sm (fun p => ind (p ≠ x1.toNat ∧ p ≠ x3.toNat ∧ x3.toNat ≠ x1.toNat ∧ crK (h 187) x1.toNat p ∧ crK (h 187) x1.toNat x3.toNat ∧ loK (h 187) x1.toNat p x3.toNat)) (x5 + 1).toNat := fun w q => by rw [show (x5 + 1).toNat = x5.toNat + 1 by omega, sm, ← hV26.2.2]; rcases q with q | q; (rw [ind_t q.2]; omega); (rw [ind_f q.2]; omega)
                refine K_iload (pc := 35) (i := 20) rfl rfl ?_
                refine K_iload (pc := 37) (i := 21) rfl rfl ?_
                refine K_iload_n (pc := 39) (i := 22) rfl rfl ?_
                first | refine K_icmp_eq 90 (pc := 40) (i := 23) rfl rfl (by omega) (by omega) (fun b40 => ?_) (fun b40 => ?_) | refine K_icmp_eq_an 90 (pc := 40) (i := 23) rfl rfl (fun b40 => ?_) (fun b40 => ?_)
                · skip
                  refine K_iconst (pc := 90) (i := 50) rfl ?_
                  refine K_iadd (pc := 91) (i := 51) rfl ?_
                  refine K_ist (pc := 92) (i := 52) (lo' := [(0, _), (1, _), (2, _), (3, _), (4, _), (5, _)]) rfl rfl rfl rfl ?_
                  refine K_inc (pc := 94) (i := 53) (q := 5) (lo' := [(0, _), (1, _), (2, _), (3, _), (4, _), (5, _)]) rfl rfl rfl rfl rfl ?_
                  refine K_goto 26 (pc := 97) (i := 54) rfl rfl ?_
                  exact ih26 (x4 + 0) (x5 + 1) (by omega) (by first | exact ⟨by omega, by omega, c91 _ (Or.inr ⟨rfl, fun q => absurd q.1 (by omega)⟩)⟩ | exact ⟨by omega, by omega, c91 _ (Or.inr ⟨rfl, fun q => absurd q.2.1 (by omega)⟩)⟩ | exact ⟨by omega, by omega, c91 _ (Or.inr ⟨rfl, fun q => absurd q.2.2.1 (by omega)⟩)⟩ | exact ⟨by omega, by omega, c91 _ (Or.inr ⟨rfl, fun q => r59.elim (fun e => absurd e.1 (by omega)) (fun e => e.2 q.2.2.2.1)⟩)⟩ | exact ⟨by omega, by omega, c91 _ (Or.inr ⟨rfl, fun q => r69.elim (fun e => absurd e.1 (by omega)) (fun e => e.2 q.2.2.2.2.1)⟩)⟩ | exact ⟨by omega, by omega, c91 _ (Or.inr ⟨rfl, fun q => r80.elim (fun e => absurd e.1 (by omega)) (fun e => e.2 q.2.2.2.2.2)⟩)⟩ | exact ⟨by omega, by omega, c91 _ (Or.inl ⟨rfl, by omega, by omega, by omega, r59.elim (fun e => e.2) (fun e => absurd e.1 (by omega)), r69.elim (fun e => e.2) (fun e => absurd e.1 (by omega)), r80.elim (fun e => e.2) (fun e => absurd e.1 (by omega))⟩)⟩)
                · skip
                  refine K_iload (pc := 43) (i := 24) rfl rfl ?_
                  refine K_iload_n (pc := 45) (i := 25) rfl rfl ?_
                  first | refine K_icmp_eq 90 (pc := 46) (i := 26) rfl rfl (by omega) (by omega) (fun b46 => ?_) (fun b46 => ?_) | refine K_icmp_eq_an 90 (pc := 46) (i := 26) rfl rfl (fun b46 => ?_) (fun b46 => ?_)
                  · skip
                    refine K_iconst (pc := 90) (i := 50) rfl ?_
                    refine K_iadd (pc := 91) (i := 51) rfl ?_
                    refine K_ist (pc := 92) (i := 52) (lo' := [(0, _), (1, _), (2, _), (3, _), (4, _), (5, _)]) rfl rfl rfl rfl ?_
                    refine K_inc (pc := 94) (i := 53) (q := 5) (lo' := [(0, _), (1, _), (2, _), (3, _), (4, _), (5, _)]) rfl rfl rfl rfl rfl ?_
                    refine K_goto 26 (pc := 97) (i := 54) rfl rfl ?_
                    exact ih26 (x4 + 0) (x5 + 1) (by omega) (by first | exact ⟨by omega, by omega, c91 _ (Or.inr ⟨rfl, fun q => absurd q.1 (by omega)⟩)⟩ | exact ⟨by omega, by omega, c91 _ (Or.inr ⟨rfl, fun q => absurd q.2.1 (by omega)⟩)⟩ | exact ⟨by omega, by omega, c91 _ (Or.inr ⟨rfl, fun q => absurd q.2.2.1 (by omega)⟩)⟩ | exact ⟨by omega, by omega, c91 _ (Or.inr ⟨rfl, fun q => r59.elim (fun e => absurd e.1 (by omega)) (fun e => e.2 q.2.2.2.1)⟩)⟩ | exact ⟨by omega, by omega, c91 _ (Or.inr ⟨rfl, fun q => r69.elim (fun e => absurd e.1 (by omega)) (fun e => e.2 q.2.2.2.2.1)⟩)⟩ | exact ⟨by omega, by omega, c91 _ (Or.inr ⟨rfl, fun q => r80.elim (fun e => absurd e.1 (by omega)) (fun e => e.2 q.2.2.2.2.2)⟩)⟩ | exact ⟨by omega, by omega, c91 _ (Or.inl ⟨rfl, by omega, by omega, by omega, r59.elim (fun e => e.2) (fun e => absurd e.1 (by omega)), r69.elim (fun e => e.2) (fun e => absurd e.1 (by omega)), r80.elim (fun e => e.2) (fun e => absurd e.1 (by omega))⟩)⟩)
                  · skip
                    refine K_iload_n (pc := 49) (i := 27) rfl rfl ?_
                    refine K_iload_n (pc := 50) (i := 28) rfl rfl ?_
                    first | refine K_icmp_eq 90 (pc := 51) (i := 29) rfl rfl (by omega) (by omega) (fun b51 => ?_) (fun b51 => ?_) | refine K_icmp_eq_an 90 (pc := 51) (i := 29) rfl rfl (fun b51 => ?_) (fun b51 => ?_)
                    · skip
                      refine K_iconst (pc := 90) (i := 50) rfl ?_
                      refine K_iadd (pc := 91) (i := 51) rfl ?_
                      refine K_ist (pc := 92) (i := 52) (lo' := [(0, _), (1, _), (2, _), (3, _), (4, _), (5, _)]) rfl rfl rfl rfl ?_
                      refine K_inc (pc := 94) (i := 53) (q := 5) (lo' := [(0, _), (1, _), (2, _), (3, _), (4, _), (5, _)]) rfl rfl rfl rfl rfl ?_
                      refine K_goto 26 (pc := 97) (i := 54) rfl rfl ?_
                      exact ih26 (x4 + 0) (x5 + 1) (by omega) (by first | exact ⟨by omega, by omega, c91 _ (Or.inr ⟨rfl, fun q => absurd q.1 (by omega)⟩)⟩ | exact ⟨by omega, by omega, c91 _ (Or.inr ⟨rfl, fun q => absurd q.2.1 (by omega)⟩)⟩ | exact ⟨by omega, by omega, c91 _ (Or.inr ⟨rfl, fun q => absurd q.2.2.1 (by omega)⟩)⟩ | exact ⟨by omega, by omega, c91 _ (Or.inr ⟨rfl, fun q => r59.elim (fun e => absurd e.1 (by omega)) (fun e => e.2 q.2.2.2.1)⟩)⟩ | exact ⟨by omega, by omega, c91 _ (Or.inr ⟨rfl, fun q => r69.elim (fun e => absurd e.1 (by omega)) (fun e => e.2 q.2.2.2.2.1)⟩)⟩ | exact ⟨by omega, by omega, c91 _ (Or.inr ⟨rfl, fun q => r80.elim (fun e => absurd e.1 (by omega)) (fun e => e.2 q.2.2.2.2.2)⟩)⟩ | exact ⟨by omega, by omega, c91 _ (Or.inl ⟨rfl, by omega, by omega, by omega, r59.elim (fun e => e.2) (fun e => absurd e.1 (by omega)), r69.elim (fun e => e.2) (fun e => absurd e.1 (by omega)), r80.elim (fun e => e.2) (fun e => absurd e.1 (by omega))⟩)⟩)
                    · skip
                      refine K_aload_n (pc := 54) (i := 30) rfl rfl ?_
                      refine K_iconst (pc := 55) (i := 31) rfl ?_
                      refine K_iload_n (pc := 56) (i := 32) rfl rfl ?_
                      refine K_iload (pc := 57) (i := 33) rfl rfl ?_
                      refine K_cVI (pc := 59) (i := 34) rfl (c_Model_doCross G (x1 := 0) (x2 := x1) (x3 := x5) (hk := FK0 hk) (hI := hI) (hn := by omega) (s1 := by omega) (s2 := by omega) (s3 := by omega)) S_184 rfl (lv_Model_137 rfl) rfl rfl rfl rfl rfl (fun v59 h59 q59 => ?_)
                      obtain ⟨eh, r59⟩ := q59
                      rw [eh]; clear eh
                      rw [show kap h (0 : Int).toNat = h 187 from kap_0 h] at r59
                      first | refine K_if_eq 90 (pc := 62) (i := 35) rfl rfl (by omega) (fun b62 => ?_) (fun b62 => ?_) | refine K_if_eq_an 90 (pc := 62) (i := 35) rfl rfl (fun b62 => ?_) (fun b62 => ?_)
                      · skip
                        refine K_iconst (pc := 90) (i := 50) rfl ?_
                        refine K_iadd (pc := 91) (i := 51) rfl ?_
                        refine K_ist (pc := 92) (i := 52) (lo' := [(0, _), (1, _), (2, _), (3, _), (4, _), (5, _)]) rfl rfl rfl rfl ?_
                        refine K_inc (pc := 94) (i := 53) (q := 5) (lo' := [(0, _), (1, _), (2, _), (3, _), (4, _), (5, _)]) rfl rfl rfl rfl rfl ?_
                        refine K_goto 26 (pc := 97) (i := 54) rfl rfl ?_
                        exact ih26 (x4 + 0) (x5 + 1) (by omega) (by first | exact ⟨by omega, by omega, c91 _ (Or.inr ⟨rfl, fun q => absurd q.1 (by omega)⟩)⟩ | exact ⟨by omega, by omega, c91 _ (Or.inr ⟨rfl, fun q => absurd q.2.1 (by omega)⟩)⟩ | exact ⟨by omega, by omega, c91 _ (Or.inr ⟨rfl, fun q => absurd q.2.2.1 (by omega)⟩)⟩ | exact ⟨by omega, by omega, c91 _ (Or.inr ⟨rfl, fun q => r59.elim (fun e => absurd e.1 (by omega)) (fun e => e.2 q.2.2.2.1)⟩)⟩ | exact ⟨by omega, by omega, c91 _ (Or.inr ⟨rfl, fun q => r69.elim (fun e => absurd e.1 (by omega)) (fun e => e.2 q.2.2.2.2.1)⟩)⟩ | exact ⟨by omega, by omega, c91 _ (Or.inr ⟨rfl, fun q => r80.elim (fun e => absurd e.1 (by omega)) (fun e => e.2 q.2.2.2.2.2)⟩)⟩ | exact ⟨by omega, by omega, c91 _ (Or.inl ⟨rfl, by omega, by omega, by omega, r59.elim (fun e => e.2) (fun e => absurd e.1 (by omega)), r69.elim (fun e => e.2) (fun e => absurd e.1 (by omega)), r80.elim (fun e => e.2) (fun e => absurd e.1 (by omega))⟩)⟩)
                      · skip
                        refine K_aload_n (pc := 65) (i := 36) rfl rfl ?_
                        refine K_iconst (pc := 66) (i := 37) rfl ?_
                        refine K_iload_n (pc := 67) (i := 38) rfl rfl ?_
                        refine K_iload_n (pc := 68) (i := 39) rfl rfl ?_
                        refine K_cVI (pc := 69) (i := 40) rfl (c_Model_doCross G (x1 := 0) (x2 := x1) (x3 := x3) (hk := FK0 hk) (hI := hI) (hn := by omega) (s1 := by omega) (s2 := by omega) (s3 := by omega)) S_184 rfl (lv_Model_137 rfl) rfl rfl rfl rfl rfl (fun v69 h69 q69 => ?_)
                        obtain ⟨eh, r69⟩ := q69
                        rw [eh]; clear eh
                        rw [show kap h (0 : Int).toNat = h 187 from kap_0 h] at r69
                        first | refine K_if_eq 90 (pc := 72) (i := 41) rfl rfl (by omega) (fun b72 => ?_) (fun b72 => ?_) | refine K_if_eq_an 90 (pc := 72) (i := 41) rfl rfl (fun b72 => ?_) (fun b72 => ?_)
                        · skip
                          refine K_iconst (pc := 90) (i := 50) rfl ?_
                          refine K_iadd (pc := 91) (i := 51) rfl ?_
                          refine K_ist (pc := 92) (i := 52) (lo' := [(0, _), (1, _), (2, _), (3, _), (4, _), (5, _)]) rfl rfl rfl rfl ?_
                          refine K_inc (pc := 94) (i := 53) (q := 5) (lo' := [(0, _), (1, _), (2, _), (3, _), (4, _), (5, _)]) rfl rfl rfl rfl rfl ?_
                          refine K_goto 26 (pc := 97) (i := 54) rfl rfl ?_
                          exact ih26 (x4 + 0) (x5 + 1) (by omega) (by first | exact ⟨by omega, by omega, c91 _ (Or.inr ⟨rfl, fun q => absurd q.1 (by omega)⟩)⟩ | exact ⟨by omega, by omega, c91 _ (Or.inr ⟨rfl, fun q => absurd q.2.1 (by omega)⟩)⟩ | exact ⟨by omega, by omega, c91 _ (Or.inr ⟨rfl, fun q => absurd q.2.2.1 (by omega)⟩)⟩ | exact ⟨by omega, by omega, c91 _ (Or.inr ⟨rfl, fun q => r59.elim (fun e => absurd e.1 (by omega)) (fun e => e.2 q.2.2.2.1)⟩)⟩ | exact ⟨by omega, by omega, c91 _ (Or.inr ⟨rfl, fun q => r69.elim (fun e => absurd e.1 (by omega)) (fun e => e.2 q.2.2.2.2.1)⟩)⟩ | exact ⟨by omega, by omega, c91 _ (Or.inr ⟨rfl, fun q => r80.elim (fun e => absurd e.1 (by omega)) (fun e => e.2 q.2.2.2.2.2)⟩)⟩ | exact ⟨by omega, by omega, c91 _ (Or.inl ⟨rfl, by omega, by omega, by omega, r59.elim (fun e => e.2) (fun e => absurd e.1 (by omega)), r69.elim (fun e => e.2) (fun e => absurd e.1 (by omega)), r80.elim (fun e => e.2) (fun e => absurd e.1 (by omega))⟩)⟩)
                        · skip
                          refine K_aload_n (pc := 75) (i := 42) rfl rfl ?_
                          refine K_iload_n (pc := 76) (i := 43) rfl rfl ?_
                          refine K_iload (pc := 77) (i := 44) rfl rfl ?_
                          refine K_iload_n (pc := 79) (i := 45) rfl rfl ?_
                          refine K_cVI (pc := 80) (i := 46) rfl (c_Model_isLower G (x1 := x1) (x2 := x5) (x3 := x3) (hk := hk) (hI := hI) (s1 := by omega) (s2 := by omega) (s3 := by omega)) S_184 rfl (lv_Model_157 rfl) rfl rfl rfl rfl rfl (fun v80 h80 q80 => ?_)
                          obtain ⟨eh, r80⟩ := q80
                          rw [eh]; clear eh
                          first | refine K_if_eq 90 (pc := 83) (i := 47) rfl rfl (by omega) (fun b83 => ?_) (fun b83 => ?_) | refine K_if_eq_an 90 (pc := 83) (i := 47) rfl rfl (fun b83 => ?_) (fun b83 => ?_)
                          · skip
                            refine K_iconst (pc := 90) (i := 50) rfl ?_
                            refine K_iadd (pc := 91) (i := 51) rfl ?_
                            refine K_ist (pc := 92) (i := 52) (lo' := [(0, _), (1, _), (2, _), (3, _), (4, _), (5, _)]) rfl rfl rfl rfl ?_
                            refine K_inc (pc := 94) (i := 53) (q := 5) (lo' := [(0, _), (1, _), (2, _), (3, _), (4, _), (5, _)]) rfl rfl rfl rfl rfl ?_
                            refine K_goto 26 (pc := 97) (i := 54) rfl rfl ?_
                            exact ih26 (x4 + 0) (x5 + 1) (by omega) (by first | exact ⟨by omega, by omega, c91 _ (Or.inr ⟨rfl, fun q => absurd q.1 (by omega)⟩)⟩ | exact ⟨by omega, by omega, c91 _ (Or.inr ⟨rfl, fun q => absurd q.2.1 (by omega)⟩)⟩ | exact ⟨by omega, by omega, c91 _ (Or.inr ⟨rfl, fun q => absurd q.2.2.1 (by omega)⟩)⟩ | exact ⟨by omega, by omega, c91 _ (Or.inr ⟨rfl, fun q => r59.elim (fun e => absurd e.1 (by omega)) (fun e => e.2 q.2.2.2.1)⟩)⟩ | exact ⟨by omega, by omega, c91 _ (Or.inr ⟨rfl, fun q => r69.elim (fun e => absurd e.1 (by omega)) (fun e => e.2 q.2.2.2.2.1)⟩)⟩ | exact ⟨by omega, by omega, c91 _ (Or.inr ⟨rfl, fun q => r80.elim (fun e => absurd e.1 (by omega)) (fun e => e.2 q.2.2.2.2.2)⟩)⟩ | exact ⟨by omega, by omega, c91 _ (Or.inl ⟨rfl, by omega, by omega, by omega, r59.elim (fun e => e.2) (fun e => absurd e.1 (by omega)), r69.elim (fun e => e.2) (fun e => absurd e.1 (by omega)), r80.elim (fun e => e.2) (fun e => absurd e.1 (by omega))⟩)⟩)
                          · skip
                            refine K_iconst (pc := 86) (i := 48) rfl ?_
                            refine K_goto 91 (pc := 87) (i := 49) rfl rfl ?_
                            refine K_iadd (pc := 91) (i := 51) rfl ?_
                            refine K_ist (pc := 92) (i := 52) (lo' := [(0, _), (1, _), (2, _), (3, _), (4, _), (5, _)]) rfl rfl rfl rfl ?_
                            refine K_inc (pc := 94) (i := 53) (q := 5) (lo' := [(0, _), (1, _), (2, _), (3, _), (4, _), (5, _)]) rfl rfl rfl rfl rfl ?_
                            refine K_goto 26 (pc := 97) (i := 54) rfl rfl ?_
                            exact ih26 (x4 + 1) (x5 + 1) (by omega) (by first | exact ⟨by omega, by omega, c91 _ (Or.inr ⟨rfl, fun q => absurd q.1 (by omega)⟩)⟩ | exact ⟨by omega, by omega, c91 _ (Or.inr ⟨rfl, fun q => absurd q.2.1 (by omega)⟩)⟩ | exact ⟨by omega, by omega, c91 _ (Or.inr ⟨rfl, fun q => absurd q.2.2.1 (by omega)⟩)⟩ | exact ⟨by omega, by omega, c91 _ (Or.inr ⟨rfl, fun q => r59.elim (fun e => absurd e.1 (by omega)) (fun e => e.2 q.2.2.2.1)⟩)⟩ | exact ⟨by omega, by omega, c91 _ (Or.inr ⟨rfl, fun q => r69.elim (fun e => absurd e.1 (by omega)) (fun e => e.2 q.2.2.2.2.1)⟩)⟩ | exact ⟨by omega, by omega, c91 _ (Or.inr ⟨rfl, fun q => r80.elim (fun e => absurd e.1 (by omega)) (fun e => e.2 q.2.2.2.2.2)⟩)⟩ | exact ⟨by omega, by omega, c91 _ (Or.inl ⟨rfl, by omega, by omega, by omega, r59.elim (fun e => e.2) (fun e => absurd e.1 (by omega)), r69.elim (fun e => e.2) (fun e => absurd e.1 (by omega)), r80.elim (fun e => e.2) (fun e => absurd e.1 (by omega))⟩)⟩)
          exact L26 _ 0 0 (Nat.lt_succ_self _) ⟨by omega, by omega, rfl⟩
    exact L12 _ 0 (Nat.lt_succ_self _) ⟨by omega, fun k q => absurd q (by omega)⟩
  · skip
    refine K_iconst (pc := 8) (i := 4) rfl ?_
    exact K_retI (pc := 9) (i := 5) rfl rfl ⟨fx, ⟨hI, Or.inl ⟨by omega, rfl⟩⟩⟩
set_option maxHeartbeats 4000000 in
set_option maxRecDepth 100000 in
theorem c_Model_tangle (G : kG) {g : kGh} {h : kH}  (hT : g.2.2.2.2) (hI : Gd g h) : Ctr G y_Model_tangle X_Model_tangle 13 [.ref (G.2.2.2 184)] h (kQi (fun z h' => Fx (fun c i => False) h h' ∧ (Gd g h' ∧ z = sm (fun i => sm (fun j => ind (crK (h 187) i j)) i) (h 184 4).toNat))) := by
  refine Ctr.ofK (by decide) rfl T_Model_tangle (Nat.le_of_ble_eq_true rfl) (lo := [(0, .ref (G.2.2.2 184))]) rfl ?_
  have fx : Fx (fun c i => False) h h := Fx.rf
  have hm8 := rd_many hI
  have hk := (hI.2.2.2.2.2 hT).1
  refine K_iconst (pc := 0) (i := 0) rfl ?_
  refine K_ist_n (pc := 1) (i := 1) (lo' := [(0, _), (1, _)]) rfl rfl rfl rfl ?_
  refine K_iconst (pc := 2) (i := 2) rfl ?_
  refine K_ist_n (pc := 3) (i := 3) (lo' := [(0, _), (1, _), (2, _)]) rfl rfl rfl rfl ?_
  have L4 : ∀ (n : Nat) (x1 : Int) (x2 : Int), (8 - x2).toNat < n → ((0 ≤ x2 ∧ x2 ≤ 8) ∧ x2 ≤ h 184 4 ∧ x1 = sm (fun i => sm (fun j => ind (crK (h 187) i j)) i) x2.toNat) → K X_Model_tangle G (kZm G 13 (kQi (fun z h' => Fx (fun c i => False) h h' ∧ (Gd g h' ∧ z = sm (fun i => sm (fun j => ind (crK (h 187) i j)) i) (h 184 4).toNat)))) 4 [(0, .ref (G.2.2.2 184)), (1, kI x1), (2, kI x2)] [] h := by
    intro n
    induction n with
    | zero => intro x1 x2 hm; exact absurd hm (Nat.not_lt_zero _)
    | succ n ih4 =>
      intro x1 x2 hm4 hV4
      refine K_iload_n (pc := 4) (i := 4) rfl rfl ?_
      refine K_aload_n (pc := 5) (i := 5) rfl rfl ?_
      refine K_getI (pc := 6) (i := 6) (j := 4) rfl S_184 rfl (by decide) rfl fw_Model_59 ?_
      refine K_nm (fun v6 e6 => ?_)
      have r6 := rd_many hI
      rw [← e6] at r6
      first | refine K_icmp_ge 49 (pc := 9) (i := 7) rfl rfl (by omega) (by omega) (fun b9 => ?_) (fun b9 => ?_) | refine K_icmp_ge_an 49 (pc := 9) (i := 7) rfl rfl (fun b9 => ?_) (fun b9 => ?_)
      · skip
        refine K_iload_n (pc := 49) (i := 29) rfl rfl ?_
        exact K_retI (pc := 50) (i := 30) rfl rfl ⟨fx, ⟨hI, by rw [hV4.2.2, show x2.toNat = (h 184 4).toNat by omega]⟩⟩
      · skip
        refine K_iconst (pc := 12) (i := 8) rfl ?_
        refine K_ist_n (pc := 13) (i := 9) (lo' := [(0, _), (1, _), (2, _), (3, _)]) rfl rfl rfl rfl ?_
        have L14 : ∀ (n : Nat) (x1b : Int) (x3b : Int), (8 - x3b).toNat < n → ((0 ≤ x3b ∧ x3b ≤ x2) ∧ x1b = sm (fun i => sm (fun j => ind (crK (h 187) i j)) i) x2.toNat + sm (fun j => ind (crK (h 187) x2.toNat j)) x3b.toNat) → K X_Model_tangle G (kZm G 13 (kQi (fun z h' => Fx (fun c i => False) h h' ∧ (Gd g h' ∧ z = sm (fun i => sm (fun j => ind (crK (h 187) i j)) i) (h 184 4).toNat)))) 14 [(0, .ref (G.2.2.2 184)), (1, kI x1b), (2, kI x2), (3, kI x3b)] [] h := by
          intro n
          induction n with
          | zero => intro x1b x3b hm; exact absurd hm (Nat.not_lt_zero _)
          | succ n ih14 =>
            intro x1b x3b hm14 hV14
            refine K_iload_n (pc := 14) (i := 10) rfl rfl ?_
            refine K_iload_n (pc := 15) (i := 11) rfl rfl ?_
            first | refine K_icmp_ge 43 (pc := 16) (i := 12) rfl rfl (by omega) (by omega) (fun b16 => ?_) (fun b16 => ?_) | refine K_icmp_ge_an 43 (pc := 16) (i := 12) rfl rfl (fun b16 => ?_) (fun b16 => ?_)
            · skip
              refine K_inc (pc := 43) (i := 27) (q := 2) (lo' := [(0, _), (1, _), (2, _), (3, _)]) rfl rfl rfl rfl rfl ?_
              refine K_goto 4 (pc := 46) (i := 28) rfl rfl ?_
              refine K_drop (lo' := [(0, .ref (G.2.2.2 184)), (1, kI x1b), (2, kI (x2 + 1))]) [0, 1, 2] rfl ?_
              exact ih4 x1b (x2 + 1) (by omega) ⟨by omega, by omega, by rw [show (x2 + 1).toNat = x2.toNat + 1 by omega, sm, hV14.2, show x3b.toNat = x2.toNat by omega]⟩
            · skip
              refine K_iload_n (pc := 19) (i := 13) rfl rfl ?_
              refine K_aload_n (pc := 20) (i := 14) rfl rfl ?_
              refine K_iconst (pc := 21) (i := 15) rfl ?_
              refine K_iload_n (pc := 22) (i := 16) rfl rfl ?_
              refine K_iload_n (pc := 23) (i := 17) rfl rfl ?_
              refine K_cVI (pc := 24) (i := 18) rfl (c_Model_doCross G (x1 := 0) (x2 := x2) (x3 := x3b) (hk := FK0 hk) (hI := hI) (hn := by omega) (s1 := by omega) (s2 := by omega) (s3 := by omega)) S_184 rfl (lv_Model_137 rfl) rfl rfl rfl rfl rfl (fun v24 h24 q24 => ?_)
              obtain ⟨eh, r24⟩ := q24
              rw [eh]; clear eh
              rw [show kap h (0 : Int).toNat = h 187 from kap_0 h] at r24
              first | refine K_if_eq 34 (pc := 27) (i := 19) rfl rfl (by omega) (fun b27 => ?_) (fun b27 => ?_) | refine K_if_eq_an 34 (pc := 27) (i := 19) rfl rfl (fun b27 => ?_) (fun b27 => ?_)
              · skip
                refine K_iconst (pc := 34) (i := 22) rfl ?_
                refine K_iadd (pc := 35) (i := 23) rfl ?_
                refine K_ist_n (pc := 36) (i := 24) (lo' := [(0, _), (1, _), (2, _), (3, _)]) rfl rfl rfl rfl ?_
                refine K_inc (pc := 37) (i := 25) (q := 3) (lo' := [(0, _), (1, _), (2, _), (3, _)]) rfl rfl rfl rfl rfl ?_
                refine K_goto 14 (pc := 40) (i := 26) rfl rfl ?_
                exact ih14 (x1b + 0) (x3b + 1) (by omega) (by first | exact ⟨by omega, by rw [show (x3b + 1).toNat = x3b.toNat + 1 by omega, sm, hV14.2, ind_t (r24.elim (fun e => e.2) (fun e => absurd e.1 (by omega)))]; omega⟩ | exact ⟨by omega, by rw [show (x3b + 1).toNat = x3b.toNat + 1 by omega, sm, hV14.2, ind_f (r24.elim (fun e => absurd e.1 (by omega)) (fun e => e.2))]; omega⟩)
              · skip
                refine K_iconst (pc := 30) (i := 20) rfl ?_
                refine K_goto 35 (pc := 31) (i := 21) rfl rfl ?_
                refine K_iadd (pc := 35) (i := 23) rfl ?_
                refine K_ist_n (pc := 36) (i := 24) (lo' := [(0, _), (1, _), (2, _), (3, _)]) rfl rfl rfl rfl ?_
                refine K_inc (pc := 37) (i := 25) (q := 3) (lo' := [(0, _), (1, _), (2, _), (3, _)]) rfl rfl rfl rfl rfl ?_
                refine K_goto 14 (pc := 40) (i := 26) rfl rfl ?_
                exact ih14 (x1b + 1) (x3b + 1) (by omega) (by first | exact ⟨by omega, by rw [show (x3b + 1).toNat = x3b.toNat + 1 by omega, sm, hV14.2, ind_t (r24.elim (fun e => e.2) (fun e => absurd e.1 (by omega)))]; omega⟩ | exact ⟨by omega, by rw [show (x3b + 1).toNat = x3b.toNat + 1 by omega, sm, hV14.2, ind_f (r24.elim (fun e => absurd e.1 (by omega)) (fun e => e.2))]; omega⟩)
        exact L14 _ x1 0 (Nat.lt_succ_self _) ⟨by omega, by rw [hV4.2.2]; exact (Int.add_zero _).symm⟩
  exact L4 _ 0 0 (Nat.lt_succ_self _) ⟨by omega, by omega, rfl⟩
set_option maxHeartbeats 4000000 in
set_option maxRecDepth 100000 in
theorem c_Model_ones (G : kG)  {h : kH} {x0 : Int} : Ctr G y_Model_ones X_Model_ones 1 [kI x0] h (kQi (fun z h' => h' = h ∧ (0 ≤ z ∧ z ≤ 8) ∧ z = pcB x0 8)) := by
  refine Ctr.ofK (by decide) rfl T_Model_ones (Nat.le_of_ble_eq_true rfl) (lo := [(0, kI x0)]) rfl ?_
  refine K_iconst (pc := 0) (i := 0) rfl ?_
  refine K_ist_n (pc := 1) (i := 1) (lo' := [(0, _), (1, _)]) rfl rfl rfl rfl ?_
  refine K_iconst (pc := 2) (i := 2) rfl ?_
  refine K_ist_n (pc := 3) (i := 3) (lo' := [(0, _), (1, _), (2, _)]) rfl rfl rfl rfl ?_
  have L4 : ∀ (n : Nat) (x1 : Int) (x2 : Int), (8 - x2).toNat < n → ((0 ≤ x1 ∧ x1 ≤ x2 ∧ x2 ≤ 8) ∧ x1 = pcB x0 x2.toNat) → K X_Model_ones G (kZm G 1 (kQi (fun z h' => h' = h ∧ (0 ≤ z ∧ z ≤ 8) ∧ z = pcB x0 8))) 4 [(0, kI x0), (1, kI x1), (2, kI x2)] [] h := by
    intro n
    induction n with
    | zero => intro x1 x2 hm; exact absurd hm (Nat.not_lt_zero _)
    | succ n ih4 =>
      intro x1 x2 hm4 hV4
      refine K_iload_n (pc := 4) (i := 4) rfl rfl ?_
      refine K_bipush (pc := 5) (i := 5) rfl rfl ?_
      first | refine K_icmp_ge 24 (pc := 7) (i := 6) rfl rfl (by omega) (by omega) (fun b7 => ?_) (fun b7 => ?_) | refine K_icmp_ge_an 24 (pc := 7) (i := 6) rfl rfl (fun b7 => ?_) (fun b7 => ?_)
      · skip
        refine K_iload_n (pc := 24) (i := 17) rfl rfl ?_
        exact K_retI (pc := 25) (i := 18) rfl rfl ⟨rfl, by omega, by rw [show (8 : Nat) = x2.toNat by omega]; exact hV4.2⟩
      · skip
        refine K_iload_n (pc := 10) (i := 7) rfl rfl ?_
        refine K_iload_n (pc := 11) (i := 8) rfl rfl ?_
        refine K_iload_n (pc := 12) (i := 9) rfl rfl ?_
        refine K_ishr (pc := 13) (i := 10) rfl ?_
        refine K_nm (fun v13 e13 => ?_)
        have r13 := kShr_R x0 x2
        rw [← e13] at r13
        refine K_iconst (pc := 14) (i := 11) rfl ?_
        refine K_iand (pc := 15) (i := 12) rfl ?_
        refine K_nm (fun v15 e15 => ?_)
        have r15 := kAnd_1 v13
        rw [← e15] at r15
        have t15 : v15 = if tb x0 x2 then 1 else 0 := by rw [e15, e13]; exact kbit (by omega)
        refine K_iadd (pc := 16) (i := 13) rfl ?_
        refine K_ist_n (pc := 17) (i := 14) (lo' := [(0, _), (1, _), (2, _)]) rfl rfl rfl rfl ?_
        refine K_inc (pc := 18) (i := 15) (q := 2) (lo' := [(0, _), (1, _), (2, _)]) rfl rfl rfl rfl rfl ?_
        refine K_goto 4 (pc := 21) (i := 16) rfl rfl ?_
        exact ih4 (x1 + v15) (x2 + 1) (by omega) ⟨by omega, by rw [show (x2 + 1).toNat = x2.toNat + 1 by omega, pcB, ← hV4.2, show ((x2.toNat : Nat) : Int) = x2 by omega, t15]⟩
  exact L4 _ 0 0 (Nat.lt_succ_self _) ⟨by omega, rfl⟩
set_option maxHeartbeats 4000000 in
set_option maxRecDepth 100000 in
theorem c_Model_toTakeIn (G : kG) {g : kGh} {h : kH}  (hT : g.2.2.2.2) (hI : Gd g h) : Ctr G y_Model_toTakeIn X_Model_toTakeIn 13 [.ref (G.2.2.2 184)] h (kQi (fun z h' => Fx (fun c i => False) h h' ∧ (Gd g h' ∧ ∃ k : Nat, h 184 4 = k ∧ MWc (fun s => LSt (fun i j => crK (h 187) i j) (h 184 4) s) z ((2 ^ k : Nat) : Int)))) := by
  refine Ctr.ofK (by decide) rfl T_Model_toTakeIn (Nat.le_of_ble_eq_true rfl) (lo := [(0, .ref (G.2.2.2 184))]) rfl ?_
  have fx : Fx (fun c i => False) h h := Fx.rf
  have hm8 := rd_many hI
  have hk := (hI.2.2.2.2.2 hT).1
  obtain ⟨kn, ekn⟩ : ∃ k : Nat, h 184 4 = k := Int.eq_ofNat_of_zero_le hm8.1
  obtain ⟨al1, al2⟩ := all_ok kn (by omega)
  have sy : ∀ i j : Nat, (i : Int) < h 184 4 → (j : Int) < h 184 4 → i ≠ j → crK (h 187) i j → crK (h 187) j i := fun i j hi hj hne a => (crM_sym ((hk i hi).2.2.2 j hj (Ne.symm hne))).1 a
  refine K_bipush (pc := 0) (i := 0) rfl rfl ?_
  refine K_ist_n (pc := 2) (i := 1) (lo' := [(0, _), (1, _)]) rfl rfl rfl rfl ?_
  refine K_iconst (pc := 3) (i := 2) rfl ?_
  refine K_ist_n (pc := 4) (i := 3) (lo' := [(0, _), (1, _), (2, _)]) rfl rfl rfl rfl ?_
  have L5 : ∀ (n : Nat) (x1 : Int) (x2 : Int), (256 - x2).toNat < n → ((0 ≤ x2 ∧ x2 ≤ 256 ∧ x2 ≤ ((2 ^ kn : Nat) : Int) ∧ (-9 ≤ x1 ∧ x1 ≤ 256)) ∧ MWc (fun s => LSt (fun i j => crK (h 187) i j) (h 184 4) s) x1 x2) → K X_Model_toTakeIn G (kZm G 13 (kQi (fun z h' => Fx (fun c i => False) h h' ∧ (Gd g h' ∧ ∃ k : Nat, h 184 4 = k ∧ MWc (fun s => LSt (fun i j => crK (h 187) i j) (h 184 4) s) z ((2 ^ k : Nat) : Int))))) 5 [(0, .ref (G.2.2.2 184)), (1, kI x1), (2, kI x2)] [] h := by
    intro n
    induction n with
    | zero => intro x1 x2 hm; exact absurd hm (Nat.not_lt_zero _)
    | succ n ih5 =>
      intro x1 x2 hm5 hV5
      refine K_iload_n (pc := 5) (i := 4) rfl rfl ?_
      refine K_iconst (pc := 6) (i := 5) rfl ?_
      refine K_aload_n (pc := 7) (i := 6) rfl rfl ?_
      refine K_getI (pc := 8) (i := 7) (j := 4) rfl S_184 rfl (by decide) rfl fw_Model_59 ?_
      refine K_nm (fun v8 e8 => ?_)
      have r8 := rd_many hI
      rw [← e8] at r8
      have n8 : v8 = kn := by rw [e8, ekn]
      refine K_ishl (pc := 11) (i := 8) rfl ?_
      refine K_nm (fun v11 e11 => ?_)
      have r11 := kShl_R 1 v8
      rw [← e11] at r11
      have y11 : v11 = ((2 ^ kn : Nat) : Int) := by rw [e11, n8]; exact al1
      have t11 : 1 ≤ v11 ∧ v11 ≤ 256 := by rw [e11]; exact kShl_le (by omega)
      first | refine K_icmp_ge 126 (pc := 12) (i := 9) rfl rfl (by omega) (by omega) (fun b12 => ?_) (fun b12 => ?_) | refine K_icmp_ge_an 126 (pc := 12) (i := 9) rfl rfl (fun b12 => ?_) (fun b12 => ?_)
      · skip
        refine K_iload_n (pc := 126) (i := 69) rfl rfl ?_
        exact K_retI (pc := 127) (i := 70) rfl rfl ⟨fx, ⟨hI, kn, ekn, by have q := hV5.2; rw [show x2 = ((2 ^ kn : Nat) : Int) by omega] at q; exact q⟩⟩
      · skip
        refine K_iconst (pc := 15) (i := 10) rfl ?_
        refine K_ist_n (pc := 16) (i := 11) (lo' := [(0, _), (1, _), (2, _), (3, _)]) rfl rfl rfl rfl ?_
        refine K_iconst (pc := 17) (i := 12) rfl ?_
        refine K_ist (pc := 18) (i := 13) (lo' := [(0, _), (1, _), (2, _), (3, _), (4, _)]) rfl rfl rfl rfl ?_
        have L20 : ∀ (n : Nat) (x3 : Int) (x4 : Int), (8 - x4).toNat < n → ((0 ≤ x4 ∧ x4 ≤ h 184 4) ∧ ((x3 = 1 ∧ LSi (fun i j => crK (h 187) i j) x2 x4 0) ∨ (x3 = 0 ∧ ¬ LSi (fun i j => crK (h 187) i j) x2 x4 0))) → K X_Model_toTakeIn G (kZm G 13 (kQi (fun z h' => Fx (fun c i => False) h h' ∧ (Gd g h' ∧ ∃ k : Nat, h 184 4 = k ∧ MWc (fun s => LSt (fun i j => crK (h 187) i j) (h 184 4) s) z ((2 ^ k : Nat) : Int))))) 20 [(0, .ref (G.2.2.2 184)), (1, kI x1), (2, kI x2), (3, kI x3), (4, kI x4)] [] h := by
          intro n
          induction n with
          | zero => intro x3 x4 hm; exact absurd hm (Nat.not_lt_zero _)
          | succ n ih20 =>
            intro x3 x4 hm20 hV20
            have k20 : x3 = 0 ∨ x3 = 1 := hV20.2.elim (fun q => Or.inr q.1) (fun q => Or.inl q.1)
            refine K_iload (pc := 20) (i := 14) rfl rfl ?_
            refine K_aload_n (pc := 22) (i := 15) rfl rfl ?_
            refine K_getI (pc := 23) (i := 16) (j := 4) rfl S_184 rfl (by decide) rfl fw_Model_59 ?_
            refine K_nm (fun v23 e23 => ?_)
            have r23 := rd_many hI
            rw [← e23] at r23
            first | refine K_icmp_ge 93 (pc := 26) (i := 17) rfl rfl (by omega) (by omega) (fun b26 => ?_) (fun b26 => ?_) | refine K_icmp_ge_an 93 (pc := 26) (i := 17) rfl rfl (fun b26 => ?_) (fun b26 => ?_)
            · skip
              have fr93 : (x3 = 1 ∧ LSt (fun i j => crK (h 187) i j) (h 184 4) x2) ∨ (x3 = 0 ∧ ¬ LSt (fun i j => crK (h 187) i j) (h 184 4) x2) := by have q := hV20.2; rw [show x4 = h 184 4 by omega, LSi.end sy] at q; exact q
              have b93 : x1 = -9 ∨ 0 ≤ x1 := by rcases hV5.2 with q | q; exact Or.inl q.1; exact Or.inr q.1.1
              refine K_iload_n (pc := 93) (i := 53) rfl rfl ?_
              first | refine K_if_eq 118 (pc := 94) (i := 54) rfl rfl (by omega) (fun b94 => ?_) (fun b94 => ?_) | refine K_if_eq_an 118 (pc := 94) (i := 54) rfl rfl (fun b94 => ?_) (fun b94 => ?_)
              · skip
                refine K_iload_n (pc := 118) (i := 65) rfl rfl ?_
                refine K_ist_n (pc := 119) (i := 66) (lo' := [(0, _), (1, _), (2, _), (3, _), (4, _)]) rfl rfl rfl rfl ?_
                refine K_inc (pc := 120) (i := 67) (q := 2) (lo' := [(0, _), (1, _), (2, _), (3, _), (4, _)]) rfl rfl rfl rfl rfl ?_
                refine K_goto 5 (pc := 123) (i := 68) rfl rfl ?_
                refine K_drop (lo' := [(0, .ref (G.2.2.2 184)), (1, kI x1), (2, kI (x2 + 1))]) [0, 1, 2] rfl ?_
                exact ih5 x1 (x2 + 1) (by omega) (by first | exact ⟨by omega, hV5.2.yes (by omega) (fr93.elim (fun q => q.2) (fun q => absurd q.1 (by omega))) (by omega)⟩ | exact ⟨by omega, hV5.2.no (fun q => absurd q (fr93.elim (fun e => absurd e.1 (by omega)) (fun e => e.2)))⟩ | exact ⟨by omega, hV5.2.no (fun q => ⟨by omega, by omega⟩)⟩)
              · skip
                refine K_iload_n (pc := 97) (i := 55) rfl rfl ?_
                refine K_bipush (pc := 98) (i := 56) rfl rfl ?_
                first | refine K_icmp_eq 114 (pc := 100) (i := 57) rfl rfl (by omega) (by omega) (fun b100 => ?_) (fun b100 => ?_) | refine K_icmp_eq_an 114 (pc := 100) (i := 57) rfl rfl (fun b100 => ?_) (fun b100 => ?_)
                · skip
                  refine K_iload_n (pc := 114) (i := 63) rfl rfl ?_
                  refine K_goto 119 (pc := 115) (i := 64) rfl rfl ?_
                  refine K_ist_n (pc := 119) (i := 66) (lo' := [(0, _), (1, _), (2, _), (3, _), (4, _)]) rfl rfl rfl rfl ?_
                  refine K_inc (pc := 120) (i := 67) (q := 2) (lo' := [(0, _), (1, _), (2, _), (3, _), (4, _)]) rfl rfl rfl rfl rfl ?_
                  refine K_goto 5 (pc := 123) (i := 68) rfl rfl ?_
                  refine K_drop (lo' := [(0, .ref (G.2.2.2 184)), (1, kI x2), (2, kI (x2 + 1))]) [0, 1, 2] rfl ?_
                  exact ih5 x2 (x2 + 1) (by omega) (by first | exact ⟨by omega, hV5.2.yes (by omega) (fr93.elim (fun q => q.2) (fun q => absurd q.1 (by omega))) (by omega)⟩ | exact ⟨by omega, hV5.2.no (fun q => absurd q (fr93.elim (fun e => absurd e.1 (by omega)) (fun e => e.2)))⟩ | exact ⟨by omega, hV5.2.no (fun q => ⟨by omega, by omega⟩)⟩)
                · skip
                  refine K_iload_n (pc := 103) (i := 58) rfl rfl ?_
                  refine K_cSI (pc := 104) (i := 59) rfl (c_Model_ones G (x0 := x2)) (ls_Model_160 rfl) rfl rfl rfl rfl (fun v104 h104 q104 => ?_)
                  obtain ⟨eh, r104⟩ := q104
                  rw [eh]; clear eh
                  have t104 : v104 = pcI x2 := by rw [r104.2, pcI_8 (by omega) (by omega)]
                  refine K_iload_n (pc := 107) (i := 60) rfl rfl ?_
                  refine K_cSI (pc := 108) (i := 61) rfl (c_Model_ones G (x0 := x1)) (ls_Model_160 rfl) rfl rfl rfl rfl (fun v108 h108 q108 => ?_)
                  obtain ⟨eh, r108⟩ := q108
                  rw [eh]; clear eh
                  have t108 : v108 = pcI x1 := by rw [r108.2]; rcases hV5.2 with q | q; exact absurd q.1 (by omega); exact (pcI_8 q.1.1 (by have := q.1.2; omega)).symm
                  first | refine K_icmp_ge 118 (pc := 111) (i := 62) rfl rfl (by omega) (by omega) (fun b111 => ?_) (fun b111 => ?_) | refine K_icmp_ge_an 118 (pc := 111) (i := 62) rfl rfl (fun b111 => ?_) (fun b111 => ?_)
                  · skip
                    refine K_iload_n (pc := 118) (i := 65) rfl rfl ?_
                    refine K_ist_n (pc := 119) (i := 66) (lo' := [(0, _), (1, _), (2, _), (3, _), (4, _)]) rfl rfl rfl rfl ?_
                    refine K_inc (pc := 120) (i := 67) (q := 2) (lo' := [(0, _), (1, _), (2, _), (3, _), (4, _)]) rfl rfl rfl rfl rfl ?_
                    refine K_goto 5 (pc := 123) (i := 68) rfl rfl ?_
                    refine K_drop (lo' := [(0, .ref (G.2.2.2 184)), (1, kI x1), (2, kI (x2 + 1))]) [0, 1, 2] rfl ?_
                    exact ih5 x1 (x2 + 1) (by omega) (by first | exact ⟨by omega, hV5.2.yes (by omega) (fr93.elim (fun q => q.2) (fun q => absurd q.1 (by omega))) (by omega)⟩ | exact ⟨by omega, hV5.2.no (fun q => absurd q (fr93.elim (fun e => absurd e.1 (by omega)) (fun e => e.2)))⟩ | exact ⟨by omega, hV5.2.no (fun q => ⟨by omega, by omega⟩)⟩)
                  · skip
                    refine K_iload_n (pc := 114) (i := 63) rfl rfl ?_
                    refine K_goto 119 (pc := 115) (i := 64) rfl rfl ?_
                    refine K_ist_n (pc := 119) (i := 66) (lo' := [(0, _), (1, _), (2, _), (3, _), (4, _)]) rfl rfl rfl rfl ?_
                    refine K_inc (pc := 120) (i := 67) (q := 2) (lo' := [(0, _), (1, _), (2, _), (3, _), (4, _)]) rfl rfl rfl rfl rfl ?_
                    refine K_goto 5 (pc := 123) (i := 68) rfl rfl ?_
                    refine K_drop (lo' := [(0, .ref (G.2.2.2 184)), (1, kI x2), (2, kI (x2 + 1))]) [0, 1, 2] rfl ?_
                    exact ih5 x2 (x2 + 1) (by omega) (by first | exact ⟨by omega, hV5.2.yes (by omega) (fr93.elim (fun q => q.2) (fun q => absurd q.1 (by omega))) (by omega)⟩ | exact ⟨by omega, hV5.2.no (fun q => absurd q (fr93.elim (fun e => absurd e.1 (by omega)) (fun e => e.2)))⟩ | exact ⟨by omega, hV5.2.no (fun q => ⟨by omega, by omega⟩)⟩)
            · skip
              refine K_iconst (pc := 29) (i := 18) rfl ?_
              refine K_ist (pc := 30) (i := 19) (lo' := [(0, _), (1, _), (2, _), (3, _), (4, _), (5, _)]) rfl rfl rfl rfl ?_
              have L32 : ∀ (n : Nat) (x3 : Int) (x5 : Int), (8 - x5).toNat < n → ((0 ≤ x5 ∧ x5 ≤ x4) ∧ ((x3 = 1 ∧ LSi (fun i j => crK (h 187) i j) x2 x4 x5) ∨ (x3 = 0 ∧ ¬ LSi (fun i j => crK (h 187) i j) x2 x4 x5))) → K X_Model_toTakeIn G (kZm G 13 (kQi (fun z h' => Fx (fun c i => False) h h' ∧ (Gd g h' ∧ ∃ k : Nat, h 184 4 = k ∧ MWc (fun s => LSt (fun i j => crK (h 187) i j) (h 184 4) s) z ((2 ^ k : Nat) : Int))))) 32 [(0, .ref (G.2.2.2 184)), (1, kI x1), (2, kI x2), (3, kI x3), (4, kI x4), (5, kI x5)] [] h := by
                intro n
                induction n with
                | zero => intro x3 x5 hm; exact absurd hm (Nat.not_lt_zero _)
                | succ n ih32 =>
                  intro x3 x5 hm32 hV32
                  have k32 : x3 = 0 ∨ x3 = 1 := hV32.2.elim (fun q => Or.inr q.1) (fun q => Or.inl q.1)
                  refine K_iload (pc := 32) (i := 20) rfl rfl ?_
                  refine K_iload (pc := 34) (i := 21) rfl rfl ?_
                  first | refine K_icmp_ge 87 (pc := 36) (i := 22) rfl rfl (by omega) (by omega) (fun b36 => ?_) (fun b36 => ?_) | refine K_icmp_ge_an 87 (pc := 36) (i := 22) rfl rfl (fun b36 => ?_) (fun b36 => ?_)
                  · skip
                    refine K_inc (pc := 87) (i := 51) (q := 4) (lo' := [(0, _), (1, _), (2, _), (3, _), (4, _), (5, _)]) rfl rfl rfl rfl rfl ?_
                    refine K_goto 20 (pc := 90) (i := 52) rfl rfl ?_
                    refine K_drop (lo' := [(0, .ref (G.2.2.2 184)), (1, kI x1), (2, kI x2), (3, kI x3), (4, kI (x4 + 1))]) [0, 1, 2, 3, 4] rfl ?_
                    exact ih20 x3 (x4 + 1) (by omega) ⟨by omega, hV32.2.elim (fun q => Or.inl ⟨q.1, q.2.next (by omega)⟩) (fun q => Or.inr ⟨q.1, fun e => q.2 (e.back (by omega))⟩)⟩
                  · skip
                    refine K_iload_n (pc := 39) (i := 23) rfl rfl ?_
                    first | refine K_if_eq 79 (pc := 40) (i := 24) rfl rfl (by omega) (fun b40 => ?_) (fun b40 => ?_) | refine K_if_eq_an 79 (pc := 40) (i := 24) rfl rfl (fun b40 => ?_) (fun b40 => ?_)
                    · skip
                      refine K_iconst (pc := 79) (i := 47) rfl ?_
                      refine K_ist_n (pc := 80) (i := 48) (lo' := [(0, _), (1, _), (2, _), (3, _), (4, _), (5, _)]) rfl rfl rfl rfl ?_
                      refine K_inc (pc := 81) (i := 49) (q := 5) (lo' := [(0, _), (1, _), (2, _), (3, _), (4, _), (5, _)]) rfl rfl rfl rfl rfl ?_
                      refine K_goto 32 (pc := 84) (i := 50) rfl rfl ?_
                      exact ih32 0 (x5 + 1) (by omega) (by first | exact ⟨by omega, Or.inr ⟨rfl, fun e => hV32.2.elim (fun q => absurd q.1 (by omega)) (fun q => q.2 e.less)⟩⟩ | exact ⟨by omega, Or.inl ⟨rfl, (hV32.2.elim (fun q => q.2) (fun q => absurd q.1 (by omega))).st (fun q => absurd q.1 (by rw [tbx t48 (by omega)]; simp))⟩⟩ | exact ⟨by omega, Or.inl ⟨rfl, (hV32.2.elim (fun q => q.2) (fun q => absurd q.1 (by omega))).st (fun q => absurd q.2.1 (by rw [tbx t58 (by omega)]; simp))⟩⟩ | exact ⟨by omega, Or.inl ⟨rfl, (hV32.2.elim (fun q => q.2) (fun q => absurd q.1 (by omega))).st (fun q => r69.elim (fun e => absurd e.1 (by omega)) (fun e => e.2 q.2.2))⟩⟩ | exact ⟨by omega, Or.inr ⟨rfl, LSi.bad (by omega) ⟨tbf t48 (by omega), tbf t58 (by omega), r69.elim (fun e => e.2) (fun e => absurd e.1 (by omega))⟩⟩⟩)
                    · skip
                      refine K_iload_n (pc := 43) (i := 25) rfl rfl ?_
                      refine K_iload (pc := 44) (i := 26) rfl rfl ?_
                      refine K_ishr (pc := 46) (i := 27) rfl ?_
                      refine K_nm (fun v46 e46 => ?_)
                      have r46 := kShr_R x2 x4
                      rw [← e46] at r46
                      refine K_iconst (pc := 47) (i := 28) rfl ?_
                      refine K_iand (pc := 48) (i := 29) rfl ?_
                      refine K_nm (fun v48 e48 => ?_)
                      have r48 := kAnd_1 v46
                      rw [← e48] at r48
                      have t48 : v48 = if tb x2 x4 then 1 else 0 := by rw [e48, e46]; exact kbit (by omega)
                      refine K_iconst (pc := 49) (i := 30) rfl ?_
                      first | refine K_icmp_eq 75 (pc := 50) (i := 31) rfl rfl (by omega) (by omega) (fun b50 => ?_) (fun b50 => ?_) | refine K_icmp_eq_an 75 (pc := 50) (i := 31) rfl rfl (fun b50 => ?_) (fun b50 => ?_)
                      · skip
                        refine K_iconst (pc := 75) (i := 45) rfl ?_
                        refine K_goto 80 (pc := 76) (i := 46) rfl rfl ?_
                        refine K_ist_n (pc := 80) (i := 48) (lo' := [(0, _), (1, _), (2, _), (3, _), (4, _), (5, _)]) rfl rfl rfl rfl ?_
                        refine K_inc (pc := 81) (i := 49) (q := 5) (lo' := [(0, _), (1, _), (2, _), (3, _), (4, _), (5, _)]) rfl rfl rfl rfl rfl ?_
                        refine K_goto 32 (pc := 84) (i := 50) rfl rfl ?_
                        exact ih32 1 (x5 + 1) (by omega) (by first | exact ⟨by omega, Or.inr ⟨rfl, fun e => hV32.2.elim (fun q => absurd q.1 (by omega)) (fun q => q.2 e.less)⟩⟩ | exact ⟨by omega, Or.inl ⟨rfl, (hV32.2.elim (fun q => q.2) (fun q => absurd q.1 (by omega))).st (fun q => absurd q.1 (by rw [tbx t48 (by omega)]; simp))⟩⟩ | exact ⟨by omega, Or.inl ⟨rfl, (hV32.2.elim (fun q => q.2) (fun q => absurd q.1 (by omega))).st (fun q => absurd q.2.1 (by rw [tbx t58 (by omega)]; simp))⟩⟩ | exact ⟨by omega, Or.inl ⟨rfl, (hV32.2.elim (fun q => q.2) (fun q => absurd q.1 (by omega))).st (fun q => r69.elim (fun e => absurd e.1 (by omega)) (fun e => e.2 q.2.2))⟩⟩ | exact ⟨by omega, Or.inr ⟨rfl, LSi.bad (by omega) ⟨tbf t48 (by omega), tbf t58 (by omega), r69.elim (fun e => e.2) (fun e => absurd e.1 (by omega))⟩⟩⟩)
                      · skip
                        refine K_iload_n (pc := 53) (i := 32) rfl rfl ?_
                        refine K_iload (pc := 54) (i := 33) rfl rfl ?_
                        refine K_ishr (pc := 56) (i := 34) rfl ?_
                        refine K_nm (fun v56 e56 => ?_)
                        have r56 := kShr_R x2 x5
                        rw [← e56] at r56
                        refine K_iconst (pc := 57) (i := 35) rfl ?_
                        refine K_iand (pc := 58) (i := 36) rfl ?_
                        refine K_nm (fun v58 e58 => ?_)
                        have r58 := kAnd_1 v56
                        rw [← e58] at r58
                        have t58 : v58 = if tb x2 x5 then 1 else 0 := by rw [e58, e56]; exact kbit (by omega)
                        refine K_iconst (pc := 59) (i := 37) rfl ?_
                        first | refine K_icmp_eq 75 (pc := 60) (i := 38) rfl rfl (by omega) (by omega) (fun b60 => ?_) (fun b60 => ?_) | refine K_icmp_eq_an 75 (pc := 60) (i := 38) rfl rfl (fun b60 => ?_) (fun b60 => ?_)
                        · skip
                          refine K_iconst (pc := 75) (i := 45) rfl ?_
                          refine K_goto 80 (pc := 76) (i := 46) rfl rfl ?_
                          refine K_ist_n (pc := 80) (i := 48) (lo' := [(0, _), (1, _), (2, _), (3, _), (4, _), (5, _)]) rfl rfl rfl rfl ?_
                          refine K_inc (pc := 81) (i := 49) (q := 5) (lo' := [(0, _), (1, _), (2, _), (3, _), (4, _), (5, _)]) rfl rfl rfl rfl rfl ?_
                          refine K_goto 32 (pc := 84) (i := 50) rfl rfl ?_
                          exact ih32 1 (x5 + 1) (by omega) (by first | exact ⟨by omega, Or.inr ⟨rfl, fun e => hV32.2.elim (fun q => absurd q.1 (by omega)) (fun q => q.2 e.less)⟩⟩ | exact ⟨by omega, Or.inl ⟨rfl, (hV32.2.elim (fun q => q.2) (fun q => absurd q.1 (by omega))).st (fun q => absurd q.1 (by rw [tbx t48 (by omega)]; simp))⟩⟩ | exact ⟨by omega, Or.inl ⟨rfl, (hV32.2.elim (fun q => q.2) (fun q => absurd q.1 (by omega))).st (fun q => absurd q.2.1 (by rw [tbx t58 (by omega)]; simp))⟩⟩ | exact ⟨by omega, Or.inl ⟨rfl, (hV32.2.elim (fun q => q.2) (fun q => absurd q.1 (by omega))).st (fun q => r69.elim (fun e => absurd e.1 (by omega)) (fun e => e.2 q.2.2))⟩⟩ | exact ⟨by omega, Or.inr ⟨rfl, LSi.bad (by omega) ⟨tbf t48 (by omega), tbf t58 (by omega), r69.elim (fun e => e.2) (fun e => absurd e.1 (by omega))⟩⟩⟩)
                        · skip
                          refine K_aload_n (pc := 63) (i := 39) rfl rfl ?_
                          refine K_iconst (pc := 64) (i := 40) rfl ?_
                          refine K_iload (pc := 65) (i := 41) rfl rfl ?_
                          refine K_iload (pc := 67) (i := 42) rfl rfl ?_
                          refine K_cVI (pc := 69) (i := 43) rfl (c_Model_doCross G (x1 := 0) (x2 := x4) (x3 := x5) (hk := FK0 hk) (hI := hI) (hn := by omega) (s1 := by omega) (s2 := by omega) (s3 := by omega)) S_184 rfl (lv_Model_137 rfl) rfl rfl rfl rfl rfl (fun v69 h69 q69 => ?_)
                          obtain ⟨eh, r69⟩ := q69
                          rw [eh]; clear eh
                          rw [show kap h (0 : Int).toNat = h 187 from kap_0 h] at r69
                          first | refine K_if_ne 79 (pc := 72) (i := 44) rfl rfl (by omega) (fun b72 => ?_) (fun b72 => ?_) | refine K_if_ne_an 79 (pc := 72) (i := 44) rfl rfl (fun b72 => ?_) (fun b72 => ?_)
                          · skip
                            refine K_iconst (pc := 79) (i := 47) rfl ?_
                            refine K_ist_n (pc := 80) (i := 48) (lo' := [(0, _), (1, _), (2, _), (3, _), (4, _), (5, _)]) rfl rfl rfl rfl ?_
                            refine K_inc (pc := 81) (i := 49) (q := 5) (lo' := [(0, _), (1, _), (2, _), (3, _), (4, _), (5, _)]) rfl rfl rfl rfl rfl ?_
                            refine K_goto 32 (pc := 84) (i := 50) rfl rfl ?_
                            exact ih32 0 (x5 + 1) (by omega) (by first | exact ⟨by omega, Or.inr ⟨rfl, fun e => hV32.2.elim (fun q => absurd q.1 (by omega)) (fun q => q.2 e.less)⟩⟩ | exact ⟨by omega, Or.inl ⟨rfl, (hV32.2.elim (fun q => q.2) (fun q => absurd q.1 (by omega))).st (fun q => absurd q.1 (by rw [tbx t48 (by omega)]; simp))⟩⟩ | exact ⟨by omega, Or.inl ⟨rfl, (hV32.2.elim (fun q => q.2) (fun q => absurd q.1 (by omega))).st (fun q => absurd q.2.1 (by rw [tbx t58 (by omega)]; simp))⟩⟩ | exact ⟨by omega, Or.inl ⟨rfl, (hV32.2.elim (fun q => q.2) (fun q => absurd q.1 (by omega))).st (fun q => r69.elim (fun e => absurd e.1 (by omega)) (fun e => e.2 q.2.2))⟩⟩ | exact ⟨by omega, Or.inr ⟨rfl, LSi.bad (by omega) ⟨tbf t48 (by omega), tbf t58 (by omega), r69.elim (fun e => e.2) (fun e => absurd e.1 (by omega))⟩⟩⟩)
                          · skip
                            refine K_iconst (pc := 75) (i := 45) rfl ?_
                            refine K_goto 80 (pc := 76) (i := 46) rfl rfl ?_
                            refine K_ist_n (pc := 80) (i := 48) (lo' := [(0, _), (1, _), (2, _), (3, _), (4, _), (5, _)]) rfl rfl rfl rfl ?_
                            refine K_inc (pc := 81) (i := 49) (q := 5) (lo' := [(0, _), (1, _), (2, _), (3, _), (4, _), (5, _)]) rfl rfl rfl rfl rfl ?_
                            refine K_goto 32 (pc := 84) (i := 50) rfl rfl ?_
                            exact ih32 1 (x5 + 1) (by omega) (by first | exact ⟨by omega, Or.inr ⟨rfl, fun e => hV32.2.elim (fun q => absurd q.1 (by omega)) (fun q => q.2 e.less)⟩⟩ | exact ⟨by omega, Or.inl ⟨rfl, (hV32.2.elim (fun q => q.2) (fun q => absurd q.1 (by omega))).st (fun q => absurd q.1 (by rw [tbx t48 (by omega)]; simp))⟩⟩ | exact ⟨by omega, Or.inl ⟨rfl, (hV32.2.elim (fun q => q.2) (fun q => absurd q.1 (by omega))).st (fun q => absurd q.2.1 (by rw [tbx t58 (by omega)]; simp))⟩⟩ | exact ⟨by omega, Or.inl ⟨rfl, (hV32.2.elim (fun q => q.2) (fun q => absurd q.1 (by omega))).st (fun q => r69.elim (fun e => absurd e.1 (by omega)) (fun e => e.2 q.2.2))⟩⟩ | exact ⟨by omega, Or.inr ⟨rfl, LSi.bad (by omega) ⟨tbf t48 (by omega), tbf t58 (by omega), r69.elim (fun e => e.2) (fun e => absurd e.1 (by omega))⟩⟩⟩)
              exact L32 _ x3 0 (Nat.lt_succ_self _) ⟨by omega, hV20.2⟩
        exact L20 _ 1 0 (Nat.lt_succ_self _) ⟨by omega, Or.inl ⟨rfl, LSi.z⟩⟩
  exact L5 _ (-9) 0 (Nat.lt_succ_self _) ⟨by have q := Int.natCast_nonneg (2 ^ kn); omega, MWc.z⟩
end
section
set_option maxHeartbeats 4000000 in
set_option maxRecDepth 100000 in
theorem c_Model_layFits (G : kG) {g : kGh} {h : kH}  (hT : g.2.2.2.2) (hI : Gd g h) : Ctr G y_Model_layFits X_Model_layFits 3 [.ref (G.2.2.2 184)] h (kQi (fun z h' => Fx (fun c i => (c = 187 ∧ 40 ≤ i) ∨ c = 196 ∨ c = 197) h h' ∧ (Gd g h' ∧ kR z))) := by
  refine Ctr.ofK (by decide) rfl T_Model_layFits (Nat.le_of_ble_eq_true rfl) (lo := [(0, .ref (G.2.2.2 184))]) rfl ?_
  have fx : Fx (fun c i => (c = 187 ∧ 40 ≤ i) ∨ c = 196 ∨ c = 197) h h := Fx.rf
  refine K_aload_n (pc := 0) (i := 0) rfl rfl ?_
  refine K_getI (pc := 1) (i := 1) (j := 4) rfl S_184 rfl (by decide) rfl fw_Model_59 ?_
  refine K_nm (fun v1 e1 => ?_)
  have r1 := rd_many hI
  rw [← e1] at r1
  refine K_iconst (pc := 4) (i := 2) rfl ?_
  first | refine K_icmp_ge 15 (pc := 5) (i := 3) rfl rfl (by omega) (by omega) (fun b5 => ?_) (fun b5 => ?_) | refine K_icmp_ge_an 15 (pc := 5) (i := 3) rfl rfl (fun b5 => ?_) (fun b5 => ?_)
  · skip
    refine K_iconst (pc := 15) (i := 7) rfl ?_
    refine K_ist_n (pc := 16) (i := 8) (lo' := [(0, _), (1, _)]) rfl rfl rfl rfl ?_
    refine K_iconst (pc := 17) (i := 9) rfl ?_
    refine K_ist_n (pc := 18) (i := 10) (lo' := [(0, _), (1, _), (2, _)]) rfl rfl rfl rfl ?_
    refine K_iconst (pc := 19) (i := 11) rfl ?_
    refine K_ist_n (pc := 20) (i := 12) (lo' := [(0, _), (1, _), (2, _), (3, _)]) rfl rfl rfl rfl ?_
    have L21 : ∀ (n : Nat) (x2 : Int) (x3 : Int) (ha : kH), (4 - x3).toNat < n → (Gd g ha) → (Fx (fun c i => (c = 187 ∧ 40 ≤ i) ∨ c = 196 ∨ c = 197) h ha) → ((x3 = 0 ∧ x2 = 1) ∨ (x3 = 1 ∧ x2 = 9) ∨ (x3 = 2 ∧ x2 = 81) ∨ (x3 = 3 ∧ x2 = 729) ∨ (x3 = 4 ∧ x2 = 6561)) → K X_Model_layFits G (kZm G 3 (kQi (fun z h' => Fx (fun c i => (c = 187 ∧ 40 ≤ i) ∨ c = 196 ∨ c = 197) h h' ∧ (Gd g h' ∧ kR z)))) 21 [(0, .ref (G.2.2.2 184)), (1, kI 4), (2, kI x2), (3, kI x3)] [] ha := by
      intro n
      induction n with
      | zero => intro x2 x3 ha hm; exact absurd hm (Nat.not_lt_zero _)
      | succ n ih21 =>
        intro x2 x3 ha hm21 hI fx hV21
        refine K_iload_n (pc := 21) (i := 13) rfl rfl ?_
        refine K_iload_n (pc := 22) (i := 14) rfl rfl ?_
        first | refine K_icmp_ge 52 (pc := 23) (i := 15) rfl rfl (by omega) (by omega) (fun b23 => ?_) (fun b23 => ?_) | refine K_icmp_ge_an 52 (pc := 23) (i := 15) rfl rfl (fun b23 => ?_) (fun b23 => ?_)
        · skip
          refine K_iconst (pc := 52) (i := 32) rfl ?_
          refine K_ist_n (pc := 53) (i := 33) (lo' := [(0, _), (1, _), (2, _), (3, _)]) rfl rfl rfl rfl ?_
          have hJ := hI
          refine K_aload_n (pc := 54) (i := 34) rfl rfl ?_
          refine K_cVV (pc := 55) (i := 35) rfl (c_Model_copy G (hI := hI)) S_184 rfl (lv_Model_165 rfl) rfl rfl rfl rfl rfl (fun h55 q55 => ?_)
          obtain ⟨fx55, q55⟩ := q55
          obtain ⟨hI, cp55⟩ := q55
          have fx := fx.tr fx55 (fun c i q => (by first | (dsimp only at q ⊢; omega) | omega))
          have fk55 : FK (kap h55 40) (h55 184 4) := by rw [fx55 184 4 (by first | (dsimp only; omega) | omega | exact not_false)]; exact FK.copy (hJ.2.2.2.2.2 hT).1 (rd_many hJ).2 cp55
          have m55 : h55 184 4 = h 184 4 := fx 184 4 (by first | (dsimp only; omega) | omega | exact not_false)
          rw [m55] at fk55
          refine K_iconst (pc := 58) (i := 36) rfl ?_
          refine K_ist (pc := 59) (i := 37) (lo' := [(0, _), (1, _), (2, _), (3, _), (4, _)]) rfl rfl rfl rfl ?_
          have L61 : ∀ (n : Nat) (x3 : Int) (x4 : Int) (hb : kH), (6561 - x4).toNat < n → (Gd g hb) → (Fx (fun c i => (c = 187 ∧ 40 ≤ i) ∨ c = 196 ∨ c = 197) h hb) → ((0 ≤ x4 ∧ x4 ≤ 6561) ∧ FK (kap hb 40) (h 184 4)) → K X_Model_layFits G (kZm G 3 (kQi (fun z h' => Fx (fun c i => (c = 187 ∧ 40 ≤ i) ∨ c = 196 ∨ c = 197) h h' ∧ (Gd g h' ∧ kR z)))) 61 [(0, .ref (G.2.2.2 184)), (1, kI 4), (2, kI x2), (3, kI x3), (4, kI x4)] [] hb := by
            intro n
            induction n with
            | zero => intro x3 x4 hb hm; exact absurd hm (Nat.not_lt_zero _)
            | succ n ih61 =>
              intro x3 x4 hb hm61 hI fx hV61
              refine K_iload (pc := 61) (i := 38) rfl rfl ?_
              refine K_iload_n (pc := 63) (i := 39) rfl rfl ?_
              first | refine K_icmp_ge 328 (pc := 64) (i := 40) rfl rfl (by omega) (by omega) (fun b64 => ?_) (fun b64 => ?_) | refine K_icmp_ge_an 328 (pc := 64) (i := 40) rfl rfl (fun b64 => ?_) (fun b64 => ?_)
              · skip
                refine K_iload_n (pc := 328) (i := 181) rfl rfl ?_
                refine K_any (fun v329 r329 => ?_)
                exact K_retI (pc := 329) (i := 182) rfl rfl ⟨fx, ⟨hI, by omega⟩⟩
              · skip
                refine K_iload (pc := 67) (i := 41) rfl rfl ?_
                refine K_ist (pc := 69) (i := 42) (lo' := [(0, _), (1, _), (2, _), (3, _), (4, _), (5, _)]) rfl rfl rfl rfl ?_
                refine K_iconst (pc := 71) (i := 43) rfl ?_
                refine K_ist (pc := 72) (i := 44) (lo' := [(0, _), (1, _), (2, _), (3, _), (4, _), (5, _), (6, _)]) rfl rfl rfl rfl ?_
                have L74 : ∀ (n : Nat) (x5 : Int) (x6 : Int) (hc : kH), (4 - x6).toNat < n → (Gd g hc) → (Fx (fun c i => (c = 187 ∧ 40 ≤ i) ∨ c = 196 ∨ c = 197) h hc) → (((0 ≤ x6 ∧ x6 ≤ 4) ∧ 0 ≤ x5 ∧ kR x5) ∧ True ∧ FK (kap hc 40) (h 184 4)) → K X_Model_layFits G (kZm G 3 (kQi (fun z h' => Fx (fun c i => (c = 187 ∧ 40 ≤ i) ∨ c = 196 ∨ c = 197) h h' ∧ (Gd g h' ∧ kR z)))) 74 [(0, .ref (G.2.2.2 184)), (1, kI 4), (2, kI x2), (3, kI x3), (4, kI x4), (5, kI x5), (6, kI x6)] [] hc := by
                  intro n
                  induction n with
                  | zero => intro x5 x6 hc hm; exact absurd hm (Nat.not_lt_zero _)
                  | succ n ih74 =>
                    intro x5 x6 hc hm74 hI fx hV74
                    refine K_iload (pc := 74) (i := 45) rfl rfl ?_
                    refine K_iload_n (pc := 76) (i := 46) rfl rfl ?_
                    first | refine K_icmp_ge 114 (pc := 77) (i := 47) rfl rfl (by omega) (by omega) (fun b77 => ?_) (fun b77 => ?_) | refine K_icmp_ge_an 114 (pc := 77) (i := 47) rfl rfl (fun b77 => ?_) (fun b77 => ?_)
                    · skip
                      refine K_iconst (pc := 114) (i := 69) rfl ?_
                      refine K_ist (pc := 115) (i := 70) (lo' := [(0, _), (1, _), (2, _), (3, _), (4, _), (5, _), (6, _)]) rfl rfl rfl rfl ?_
                      refine K_iconst (pc := 117) (i := 71) rfl ?_
                      refine K_ist (pc := 118) (i := 72) (lo' := [(0, _), (1, _), (2, _), (3, _), (4, _), (5, _), (6, _), (7, _)]) rfl rfl rfl rfl ?_
                      have L120 : ∀ (n : Nat) (x6 : Int) (x7 : Int), (8 - x7).toNat < n → (0 ≤ x7 ∧ x7 ≤ 8) → K X_Model_layFits G (kZm G 3 (kQi (fun z h' => Fx (fun c i => (c = 187 ∧ 40 ≤ i) ∨ c = 196 ∨ c = 197) h h' ∧ (Gd g h' ∧ kR z)))) 120 [(0, .ref (G.2.2.2 184)), (1, kI 4), (2, kI x2), (3, kI x3), (4, kI x4), (5, kI x5), (6, kI x6), (7, kI x7)] [] hc := by
                        intro n
                        induction n with
                        | zero => intro x6 x7 hm; exact absurd hm (Nat.not_lt_zero _)
                        | succ n ih120 =>
                          intro x6 x7 hm120 hV120
                          refine K_iload (pc := 120) (i := 73) rfl rfl ?_
                          refine K_aload_n (pc := 122) (i := 74) rfl rfl ?_
                          refine K_getI (pc := 123) (i := 75) (j := 16) rfl S_184 rfl (by decide) rfl fw_Model_192 ?_
                          refine K_nm (fun v123 e123 => ?_)
                          have r123 := rd_mseen hI
                          rw [← e123] at r123
                          first | refine K_icmp_ge 211 (pc := 126) (i := 76) rfl rfl (by omega) (by omega) (fun b126 => ?_) (fun b126 => ?_) | refine K_icmp_ge_an 211 (pc := 126) (i := 76) rfl rfl (fun b126 => ?_) (fun b126 => ?_)
                          · skip
                            refine K_iload_n (pc := 211) (i := 119) rfl rfl ?_
                            refine K_iload (pc := 212) (i := 120) rfl rfl ?_
                            first | refine K_if_eq 221 (pc := 214) (i := 121) rfl rfl (by omega) (fun b214 => ?_) (fun b214 => ?_) | refine K_if_eq_an 221 (pc := 214) (i := 121) rfl rfl (fun b214 => ?_) (fun b214 => ?_)
                            · skip
                              refine K_iconst (pc := 221) (i := 124) rfl ?_
                              refine K_iadd (pc := 222) (i := 125) rfl ?_
                              refine K_ist_n (pc := 223) (i := 126) (lo' := [(0, _), (1, _), (2, _), (3, _), (4, _), (5, _), (6, _), (7, _)]) rfl rfl rfl rfl ?_
                              refine K_iconst (pc := 224) (i := 127) rfl ?_
                              refine K_ist (pc := 225) (i := 128) (lo' := [(0, _), (1, _), (2, _), (3, _), (4, _), (5, _), (6, _), (7, _)]) rfl rfl rfl rfl ?_
                              have L227 : ∀ (n : Nat) (x7 : Int) (hd : kH), (4 - x7).toNat < n → (Gd g hd) → (Fx (fun c i => (c = 187 ∧ 40 ≤ i) ∨ c = 196 ∨ c = 197) h hd) → ((0 ≤ x7 ∧ x7 ≤ 4) ∧ hd 187 = hc 187) → K X_Model_layFits G (kZm G 3 (kQi (fun z h' => Fx (fun c i => (c = 187 ∧ 40 ≤ i) ∨ c = 196 ∨ c = 197) h h' ∧ (Gd g h' ∧ kR z)))) 227 [(0, .ref (G.2.2.2 184)), (1, kI 4), (2, kI x2), (3, kI (x3 + 0)), (4, kI x4), (5, kI x5), (6, kI x6), (7, kI x7)] [] hd := by
                                intro n
                                induction n with
                                | zero => intro x7 hd hm; exact absurd hm (Nat.not_lt_zero _)
                                | succ n ih227 =>
                                  intro x7 hd hm227 hI fx hV227
                                  refine K_iload (pc := 227) (i := 129) rfl rfl ?_
                                  refine K_iload_n (pc := 229) (i := 130) rfl rfl ?_
                                  first | refine K_icmp_ge 322 (pc := 230) (i := 131) rfl rfl (by omega) (by omega) (fun b230 => ?_) (fun b230 => ?_) | refine K_icmp_ge_an 322 (pc := 230) (i := 131) rfl rfl (fun b230 => ?_) (fun b230 => ?_)
                                  · skip
                                    refine K_inc (pc := 322) (i := 179) (q := 4) (lo' := [(0, _), (1, _), (2, _), (3, _), (4, _), (5, _), (6, _), (7, _)]) rfl rfl rfl rfl rfl ?_
                                    refine K_goto 61 (pc := 325) (i := 180) rfl rfl ?_
                                    refine K_drop (lo' := [(0, .ref (G.2.2.2 184)), (1, kI 4), (2, kI x2), (3, kI (x3 + 0)), (4, kI (x4 + 1))]) [0, 1, 2, 3, 4] rfl ?_
                                    exact ih61 (x3 + 0) (x4 + 1) _ (by omega) hI fx ⟨by omega, by rw [kap_of hV227.2]; exact hV74.2.2⟩
                                  · skip
                                    refine K_iload (pc := 233) (i := 132) rfl rfl ?_
                                    first | refine K_if_eq 322 (pc := 235) (i := 133) rfl rfl (by omega) (fun b235 => ?_) (fun b235 => ?_) | refine K_if_eq_an 322 (pc := 235) (i := 133) rfl rfl (fun b235 => ?_) (fun b235 => ?_)
                                    · skip
                                      refine K_inc (pc := 322) (i := 179) (q := 4) (lo' := [(0, _), (1, _), (2, _), (3, _), (4, _), (5, _), (6, _), (7, _)]) rfl rfl rfl rfl rfl ?_
                                      refine K_goto 61 (pc := 325) (i := 180) rfl rfl ?_
                                      refine K_drop (lo' := [(0, .ref (G.2.2.2 184)), (1, kI 4), (2, kI x2), (3, kI (x3 + 0)), (4, kI (x4 + 1))]) [0, 1, 2, 3, 4] rfl ?_
                                      exact ih61 (x3 + 0) (x4 + 1) _ (by omega) hI fx ⟨by omega, by rw [kap_of hV227.2]; exact hV74.2.2⟩
                                    · skip
                                      refine K_aload_n (pc := 238) (i := 134) rfl rfl ?_
                                      refine K_getR (pc := 239) (i := 135) (j := 3) (d := 187) rfl S_184 rfl (by decide) rfl fw_Model_16 ?_
                                      refine K_bipush (pc := 242) (i := 136) rfl rfl ?_
                                      refine K_iconst (pc := 244) (i := 137) rfl ?_
                                      refine K_iload (pc := 245) (i := 138) rfl rfl ?_
                                      refine K_imul (pc := 247) (i := 139) rfl ?_
                                      refine K_iadd (pc := 248) (i := 140) rfl ?_
                                      refine K_iconst (pc := 249) (i := 141) rfl ?_
                                      refine K_iadd (pc := 250) (i := 142) rfl ?_
                                      refine K_iald (pc := 251) (i := 143) rfl S_187 (by omega) (by omega) (by decide) ?_
                                      refine K_nm (fun v251 e251 => ?_)
                                      have r251 := (rd_mkites hI ((40 + (5 * x7)) + 3).toNat).2.1 (by omega)
                                      rw [← e251] at r251
                                      refine K_ist (pc := 252) (i := 144) (lo' := [(0, _), (1, _), (2, _), (3, _), (4, _), (5, _), (6, _), (7, _), (8, _)]) rfl rfl rfl rfl ?_
                                      refine K_aload_n (pc := 254) (i := 145) rfl rfl ?_
                                      refine K_getR (pc := 255) (i := 146) (j := 20) (d := 196) rfl S_184 rfl (by decide) rfl fw_Model_44 ?_
                                      refine K_iload (pc := 258) (i := 147) rfl rfl ?_
                                      refine K_iload (pc := 260) (i := 148) rfl rfl ?_
                                      refine K_aload_n (pc := 262) (i := 149) rfl rfl ?_
                                      refine K_getR (pc := 263) (i := 150) (j := 20) (d := 196) rfl S_184 rfl (by decide) rfl fw_Model_44 ?_
                                      refine K_iload (pc := 266) (i := 151) rfl rfl ?_
                                      refine K_iald (pc := 268) (i := 152) rfl S_196 (by omega) (by omega) (by decide) ?_
                                      refine K_any (fun v268 r268 => ?_)
                                      first | refine K_icmp_ge 277 (pc := 269) (i := 153) rfl rfl (by omega) (by omega) (fun b269 => ?_) (fun b269 => ?_) | refine K_icmp_ge_an 277 (pc := 269) (i := 153) rfl rfl (fun b269 => ?_) (fun b269 => ?_)
                                      · skip
                                        refine K_aload_n (pc := 277) (i := 156) rfl rfl ?_
                                        refine K_getR (pc := 278) (i := 157) (j := 20) (d := 196) rfl S_184 rfl (by decide) rfl fw_Model_44 ?_
                                        refine K_iload (pc := 281) (i := 158) rfl rfl ?_
                                        refine K_iald (pc := 283) (i := 159) rfl S_196 (by omega) (by omega) (by decide) ?_
                                        refine K_any (fun v283 r283 => ?_)
                                        refine K_iast (pc := 284) (i := 160) rfl S_196 (by omega) (by omega) (by decide) ?_
                                        have hI := st_free (c := 196) hI (by decide +kernel) (by decide) (i := (x7).toNat) (v := v283)
                                        have fx := Fx.st (c := 196) (i := (x7).toNat) (v := v283) fx (by first | (dsimp only; omega) | omega | exact not_false)
                                        refine K_aload_n (pc := 285) (i := 161) rfl rfl ?_
                                        refine K_getR (pc := 286) (i := 162) (j := 21) (d := 197) rfl S_184 rfl (by decide) rfl fw_Model_47 ?_
                                        refine K_iload (pc := 289) (i := 163) rfl rfl ?_
                                        refine K_iload (pc := 291) (i := 164) rfl rfl ?_
                                        refine K_aload_n (pc := 293) (i := 165) rfl rfl ?_
                                        refine K_getR (pc := 294) (i := 166) (j := 21) (d := 197) rfl S_184 rfl (by decide) rfl fw_Model_47 ?_
                                        refine K_iload (pc := 297) (i := 167) rfl rfl ?_
                                        refine K_iald (pc := 299) (i := 168) rfl S_197 (by omega) (by omega) (by decide) ?_
                                        refine K_any (fun v299 r299 => ?_)
                                        first | refine K_icmp_le 308 (pc := 300) (i := 169) rfl rfl (by omega) (by omega) (fun b300 => ?_) (fun b300 => ?_) | refine K_icmp_le_an 308 (pc := 300) (i := 169) rfl rfl (fun b300 => ?_) (fun b300 => ?_)
                                        · skip
                                          refine K_aload_n (pc := 308) (i := 172) rfl rfl ?_
                                          refine K_getR (pc := 309) (i := 173) (j := 21) (d := 197) rfl S_184 rfl (by decide) rfl fw_Model_47 ?_
                                          refine K_iload (pc := 312) (i := 174) rfl rfl ?_
                                          refine K_iald (pc := 314) (i := 175) rfl S_197 (by omega) (by omega) (by decide) ?_
                                          refine K_any (fun v314 r314 => ?_)
                                          refine K_iast (pc := 315) (i := 176) rfl S_197 (by omega) (by omega) (by decide) ?_
                                          have hI := st_free (c := 197) hI (by decide +kernel) (by decide) (i := (x7).toNat) (v := v314)
                                          have fx := Fx.st (c := 197) (i := (x7).toNat) (v := v314) fx (by first | (dsimp only; omega) | omega | exact not_false)
                                          refine K_inc (pc := 316) (i := 177) (q := 7) (lo' := [(0, _), (1, _), (2, _), (3, _), (4, _), (5, _), (6, _), (7, _), (8, _)]) rfl rfl rfl rfl rfl ?_
                                          refine K_goto 227 (pc := 319) (i := 178) rfl rfl ?_
                                          refine K_drop (lo' := [(0, .ref (G.2.2.2 184)), (1, kI 4), (2, kI x2), (3, kI (x3 + 0)), (4, kI x4), (5, kI x5), (6, kI x6), (7, kI (x7 + 1))]) [0, 1, 2, 3, 4, 5, 6, 7] rfl ?_
                                          exact ih227 (x7 + 1) _ (by omega) hI fx ⟨by omega, ((kU_c _ _ _ _ (by decide)).trans (kU_c _ _ _ _ (by decide))).trans hV227.2⟩
                                        · skip
                                          refine K_iload (pc := 303) (i := 170) rfl rfl ?_
                                          refine K_goto 315 (pc := 305) (i := 171) rfl rfl ?_
                                          refine K_iast (pc := 315) (i := 176) rfl S_197 (by omega) (by omega) (by decide) ?_
                                          have hI := st_free (c := 197) hI (by decide +kernel) (by decide) (i := (x7).toNat) (v := v251)
                                          have fx := Fx.st (c := 197) (i := (x7).toNat) (v := v251) fx (by first | (dsimp only; omega) | omega | exact not_false)
                                          refine K_inc (pc := 316) (i := 177) (q := 7) (lo' := [(0, _), (1, _), (2, _), (3, _), (4, _), (5, _), (6, _), (7, _), (8, _)]) rfl rfl rfl rfl rfl ?_
                                          refine K_goto 227 (pc := 319) (i := 178) rfl rfl ?_
                                          refine K_drop (lo' := [(0, .ref (G.2.2.2 184)), (1, kI 4), (2, kI x2), (3, kI (x3 + 0)), (4, kI x4), (5, kI x5), (6, kI x6), (7, kI (x7 + 1))]) [0, 1, 2, 3, 4, 5, 6, 7] rfl ?_
                                          exact ih227 (x7 + 1) _ (by omega) hI fx ⟨by omega, ((kU_c _ _ _ _ (by decide)).trans (kU_c _ _ _ _ (by decide))).trans hV227.2⟩
                                      · skip
                                        refine K_iload (pc := 272) (i := 154) rfl rfl ?_
                                        refine K_goto 284 (pc := 274) (i := 155) rfl rfl ?_
                                        refine K_iast (pc := 284) (i := 160) rfl S_196 (by omega) (by omega) (by decide) ?_
                                        have hI := st_free (c := 196) hI (by decide +kernel) (by decide) (i := (x7).toNat) (v := v251)
                                        have fx := Fx.st (c := 196) (i := (x7).toNat) (v := v251) fx (by first | (dsimp only; omega) | omega | exact not_false)
                                        refine K_aload_n (pc := 285) (i := 161) rfl rfl ?_
                                        refine K_getR (pc := 286) (i := 162) (j := 21) (d := 197) rfl S_184 rfl (by decide) rfl fw_Model_47 ?_
                                        refine K_iload (pc := 289) (i := 163) rfl rfl ?_
                                        refine K_iload (pc := 291) (i := 164) rfl rfl ?_
                                        refine K_aload_n (pc := 293) (i := 165) rfl rfl ?_
                                        refine K_getR (pc := 294) (i := 166) (j := 21) (d := 197) rfl S_184 rfl (by decide) rfl fw_Model_47 ?_
                                        refine K_iload (pc := 297) (i := 167) rfl rfl ?_
                                        refine K_iald (pc := 299) (i := 168) rfl S_197 (by omega) (by omega) (by decide) ?_
                                        refine K_any (fun v299 r299 => ?_)
                                        first | refine K_icmp_le 308 (pc := 300) (i := 169) rfl rfl (by omega) (by omega) (fun b300 => ?_) (fun b300 => ?_) | refine K_icmp_le_an 308 (pc := 300) (i := 169) rfl rfl (fun b300 => ?_) (fun b300 => ?_)
                                        · skip
                                          refine K_aload_n (pc := 308) (i := 172) rfl rfl ?_
                                          refine K_getR (pc := 309) (i := 173) (j := 21) (d := 197) rfl S_184 rfl (by decide) rfl fw_Model_47 ?_
                                          refine K_iload (pc := 312) (i := 174) rfl rfl ?_
                                          refine K_iald (pc := 314) (i := 175) rfl S_197 (by omega) (by omega) (by decide) ?_
                                          refine K_any (fun v314 r314 => ?_)
                                          refine K_iast (pc := 315) (i := 176) rfl S_197 (by omega) (by omega) (by decide) ?_
                                          have hI := st_free (c := 197) hI (by decide +kernel) (by decide) (i := (x7).toNat) (v := v314)
                                          have fx := Fx.st (c := 197) (i := (x7).toNat) (v := v314) fx (by first | (dsimp only; omega) | omega | exact not_false)
                                          refine K_inc (pc := 316) (i := 177) (q := 7) (lo' := [(0, _), (1, _), (2, _), (3, _), (4, _), (5, _), (6, _), (7, _), (8, _)]) rfl rfl rfl rfl rfl ?_
                                          refine K_goto 227 (pc := 319) (i := 178) rfl rfl ?_
                                          refine K_drop (lo' := [(0, .ref (G.2.2.2 184)), (1, kI 4), (2, kI x2), (3, kI (x3 + 0)), (4, kI x4), (5, kI x5), (6, kI x6), (7, kI (x7 + 1))]) [0, 1, 2, 3, 4, 5, 6, 7] rfl ?_
                                          exact ih227 (x7 + 1) _ (by omega) hI fx ⟨by omega, ((kU_c _ _ _ _ (by decide)).trans (kU_c _ _ _ _ (by decide))).trans hV227.2⟩
                                        · skip
                                          refine K_iload (pc := 303) (i := 170) rfl rfl ?_
                                          refine K_goto 315 (pc := 305) (i := 171) rfl rfl ?_
                                          refine K_iast (pc := 315) (i := 176) rfl S_197 (by omega) (by omega) (by decide) ?_
                                          have hI := st_free (c := 197) hI (by decide +kernel) (by decide) (i := (x7).toNat) (v := v251)
                                          have fx := Fx.st (c := 197) (i := (x7).toNat) (v := v251) fx (by first | (dsimp only; omega) | omega | exact not_false)
                                          refine K_inc (pc := 316) (i := 177) (q := 7) (lo' := [(0, _), (1, _), (2, _), (3, _), (4, _), (5, _), (6, _), (7, _), (8, _)]) rfl rfl rfl rfl rfl ?_
                                          refine K_goto 227 (pc := 319) (i := 178) rfl rfl ?_
                                          refine K_drop (lo' := [(0, .ref (G.2.2.2 184)), (1, kI 4), (2, kI x2), (3, kI (x3 + 0)), (4, kI x4), (5, kI x5), (6, kI x6), (7, kI (x7 + 1))]) [0, 1, 2, 3, 4, 5, 6, 7] rfl ?_
                                          exact ih227 (x7 + 1) _ (by omega) hI fx ⟨by omega, ((kU_c _ _ _ _ (by decide)).trans (kU_c _ _ _ _ (by decide))).trans hV227.2⟩
                              exact L227 _ 0 _ (Nat.lt_succ_self _) hI fx ⟨by omega, rfl⟩
                            · skip
                              refine K_iconst (pc := 217) (i := 122) rfl ?_
                              refine K_goto 222 (pc := 218) (i := 123) rfl rfl ?_
                              refine K_iadd (pc := 222) (i := 125) rfl ?_
                              refine K_ist_n (pc := 223) (i := 126) (lo' := [(0, _), (1, _), (2, _), (3, _), (4, _), (5, _), (6, _), (7, _)]) rfl rfl rfl rfl ?_
                              refine K_iconst (pc := 224) (i := 127) rfl ?_
                              refine K_ist (pc := 225) (i := 128) (lo' := [(0, _), (1, _), (2, _), (3, _), (4, _), (5, _), (6, _), (7, _)]) rfl rfl rfl rfl ?_
                              have L227 : ∀ (n : Nat) (x7 : Int) (hd : kH), (4 - x7).toNat < n → (Gd g hd) → (Fx (fun c i => (c = 187 ∧ 40 ≤ i) ∨ c = 196 ∨ c = 197) h hd) → ((0 ≤ x7 ∧ x7 ≤ 4) ∧ hd 187 = hc 187) → K X_Model_layFits G (kZm G 3 (kQi (fun z h' => Fx (fun c i => (c = 187 ∧ 40 ≤ i) ∨ c = 196 ∨ c = 197) h h' ∧ (Gd g h' ∧ kR z)))) 227 [(0, .ref (G.2.2.2 184)), (1, kI 4), (2, kI x2), (3, kI (x3 + 1)), (4, kI x4), (5, kI x5), (6, kI x6), (7, kI x7)] [] hd := by
                                intro n
                                induction n with
                                | zero => intro x7 hd hm; exact absurd hm (Nat.not_lt_zero _)
                                | succ n ih227 =>
                                  intro x7 hd hm227 hI fx hV227
                                  refine K_iload (pc := 227) (i := 129) rfl rfl ?_
                                  refine K_iload_n (pc := 229) (i := 130) rfl rfl ?_
                                  first | refine K_icmp_ge 322 (pc := 230) (i := 131) rfl rfl (by omega) (by omega) (fun b230 => ?_) (fun b230 => ?_) | refine K_icmp_ge_an 322 (pc := 230) (i := 131) rfl rfl (fun b230 => ?_) (fun b230 => ?_)
                                  · skip
                                    refine K_inc (pc := 322) (i := 179) (q := 4) (lo' := [(0, _), (1, _), (2, _), (3, _), (4, _), (5, _), (6, _), (7, _)]) rfl rfl rfl rfl rfl ?_
                                    refine K_goto 61 (pc := 325) (i := 180) rfl rfl ?_
                                    refine K_drop (lo' := [(0, .ref (G.2.2.2 184)), (1, kI 4), (2, kI x2), (3, kI (x3 + 1)), (4, kI (x4 + 1))]) [0, 1, 2, 3, 4] rfl ?_
                                    exact ih61 (x3 + 1) (x4 + 1) _ (by omega) hI fx ⟨by omega, by rw [kap_of hV227.2]; exact hV74.2.2⟩
                                  · skip
                                    refine K_iload (pc := 233) (i := 132) rfl rfl ?_
                                    first | refine K_if_eq 322 (pc := 235) (i := 133) rfl rfl (by omega) (fun b235 => ?_) (fun b235 => ?_) | refine K_if_eq_an 322 (pc := 235) (i := 133) rfl rfl (fun b235 => ?_) (fun b235 => ?_)
                                    · skip
                                      refine K_inc (pc := 322) (i := 179) (q := 4) (lo' := [(0, _), (1, _), (2, _), (3, _), (4, _), (5, _), (6, _), (7, _)]) rfl rfl rfl rfl rfl ?_
                                      refine K_goto 61 (pc := 325) (i := 180) rfl rfl ?_
                                      refine K_drop (lo' := [(0, .ref (G.2.2.2 184)), (1, kI 4), (2, kI x2), (3, kI (x3 + 1)), (4, kI (x4 + 1))]) [0, 1, 2, 3, 4] rfl ?_
                                      exact ih61 (x3 + 1) (x4 + 1) _ (by omega) hI fx ⟨by omega, by rw [kap_of hV227.2]; exact hV74.2.2⟩
                                    · skip
                                      refine K_aload_n (pc := 238) (i := 134) rfl rfl ?_
                                      refine K_getR (pc := 239) (i := 135) (j := 3) (d := 187) rfl S_184 rfl (by decide) rfl fw_Model_16 ?_
                                      refine K_bipush (pc := 242) (i := 136) rfl rfl ?_
                                      refine K_iconst (pc := 244) (i := 137) rfl ?_
                                      refine K_iload (pc := 245) (i := 138) rfl rfl ?_
                                      refine K_imul (pc := 247) (i := 139) rfl ?_
                                      refine K_iadd (pc := 248) (i := 140) rfl ?_
                                      refine K_iconst (pc := 249) (i := 141) rfl ?_
                                      refine K_iadd (pc := 250) (i := 142) rfl ?_
                                      refine K_iald (pc := 251) (i := 143) rfl S_187 (by omega) (by omega) (by decide) ?_
                                      refine K_nm (fun v251 e251 => ?_)
                                      have r251 := (rd_mkites hI ((40 + (5 * x7)) + 3).toNat).2.1 (by omega)
                                      rw [← e251] at r251
                                      refine K_ist (pc := 252) (i := 144) (lo' := [(0, _), (1, _), (2, _), (3, _), (4, _), (5, _), (6, _), (7, _), (8, _)]) rfl rfl rfl rfl ?_
                                      refine K_aload_n (pc := 254) (i := 145) rfl rfl ?_
                                      refine K_getR (pc := 255) (i := 146) (j := 20) (d := 196) rfl S_184 rfl (by decide) rfl fw_Model_44 ?_
                                      refine K_iload (pc := 258) (i := 147) rfl rfl ?_
                                      refine K_iload (pc := 260) (i := 148) rfl rfl ?_
                                      refine K_aload_n (pc := 262) (i := 149) rfl rfl ?_
                                      refine K_getR (pc := 263) (i := 150) (j := 20) (d := 196) rfl S_184 rfl (by decide) rfl fw_Model_44 ?_
                                      refine K_iload (pc := 266) (i := 151) rfl rfl ?_
                                      refine K_iald (pc := 268) (i := 152) rfl S_196 (by omega) (by omega) (by decide) ?_
                                      refine K_any (fun v268 r268 => ?_)
                                      first | refine K_icmp_ge 277 (pc := 269) (i := 153) rfl rfl (by omega) (by omega) (fun b269 => ?_) (fun b269 => ?_) | refine K_icmp_ge_an 277 (pc := 269) (i := 153) rfl rfl (fun b269 => ?_) (fun b269 => ?_)
                                      · skip
                                        refine K_aload_n (pc := 277) (i := 156) rfl rfl ?_
                                        refine K_getR (pc := 278) (i := 157) (j := 20) (d := 196) rfl S_184 rfl (by decide) rfl fw_Model_44 ?_
                                        refine K_iload (pc := 281) (i := 158) rfl rfl ?_
                                        refine K_iald (pc := 283) (i := 159) rfl S_196 (by omega) (by omega) (by decide) ?_
                                        refine K_any (fun v283 r283 => ?_)
                                        refine K_iast (pc := 284) (i := 160) rfl S_196 (by omega) (by omega) (by decide) ?_
                                        have hI := st_free (c := 196) hI (by decide +kernel) (by decide) (i := (x7).toNat) (v := v283)
                                        have fx := Fx.st (c := 196) (i := (x7).toNat) (v := v283) fx (by first | (dsimp only; omega) | omega | exact not_false)
                                        refine K_aload_n (pc := 285) (i := 161) rfl rfl ?_
                                        refine K_getR (pc := 286) (i := 162) (j := 21) (d := 197) rfl S_184 rfl (by decide) rfl fw_Model_47 ?_
                                        refine K_iload (pc := 289) (i := 163) rfl rfl ?_
                                        refine K_iload (pc := 291) (i := 164) rfl rfl ?_
                                        refine K_aload_n (pc := 293) (i := 165) rfl rfl ?_
                                        refine K_getR (pc := 294) (i := 166) (j := 21) (d := 197) rfl S_184 rfl (by decide) rfl fw_Model_47 ?_
                                        refine K_iload (pc := 297) (i := 167) rfl rfl ?_
                                        refine K_iald (pc := 299) (i := 168) rfl S_197 (by omega) (by omega) (by decide) ?_
                                        refine K_any (fun v299 r299 => ?_)
                                        first | refine K_icmp_le 308 (pc := 300) (i := 169) rfl rfl (by omega) (by omega) (fun b300 => ?_) (fun b300 => ?_) | refine K_icmp_le_an 308 (pc := 300) (i := 169) rfl rfl (fun b300 => ?_) (fun b300 => ?_)
                                        · skip
                                          refine K_aload_n (pc := 308) (i := 172) rfl rfl ?_
                                          refine K_getR (pc := 309) (i := 173) (j := 21) (d := 197) rfl S_184 rfl (by decide) rfl fw_Model_47 ?_
                                          refine K_iload (pc := 312) (i := 174) rfl rfl ?_
                                          refine K_iald (pc := 314) (i := 175) rfl S_197 (by omega) (by omega) (by decide) ?_
                                          refine K_any (fun v314 r314 => ?_)
                                          refine K_iast (pc := 315) (i := 176) rfl S_197 (by omega) (by omega) (by decide) ?_
                                          have hI := st_free (c := 197) hI (by decide +kernel) (by decide) (i := (x7).toNat) (v := v314)
                                          have fx := Fx.st (c := 197) (i := (x7).toNat) (v := v314) fx (by first | (dsimp only; omega) | omega | exact not_false)
                                          refine K_inc (pc := 316) (i := 177) (q := 7) (lo' := [(0, _), (1, _), (2, _), (3, _), (4, _), (5, _), (6, _), (7, _), (8, _)]) rfl rfl rfl rfl rfl ?_
                                          refine K_goto 227 (pc := 319) (i := 178) rfl rfl ?_
                                          refine K_drop (lo' := [(0, .ref (G.2.2.2 184)), (1, kI 4), (2, kI x2), (3, kI (x3 + 1)), (4, kI x4), (5, kI x5), (6, kI x6), (7, kI (x7 + 1))]) [0, 1, 2, 3, 4, 5, 6, 7] rfl ?_
                                          exact ih227 (x7 + 1) _ (by omega) hI fx ⟨by omega, ((kU_c _ _ _ _ (by decide)).trans (kU_c _ _ _ _ (by decide))).trans hV227.2⟩
                                        · skip
                                          refine K_iload (pc := 303) (i := 170) rfl rfl ?_
                                          refine K_goto 315 (pc := 305) (i := 171) rfl rfl ?_
                                          refine K_iast (pc := 315) (i := 176) rfl S_197 (by omega) (by omega) (by decide) ?_
                                          have hI := st_free (c := 197) hI (by decide +kernel) (by decide) (i := (x7).toNat) (v := v251)
                                          have fx := Fx.st (c := 197) (i := (x7).toNat) (v := v251) fx (by first | (dsimp only; omega) | omega | exact not_false)
                                          refine K_inc (pc := 316) (i := 177) (q := 7) (lo' := [(0, _), (1, _), (2, _), (3, _), (4, _), (5, _), (6, _), (7, _), (8, _)]) rfl rfl rfl rfl rfl ?_
                                          refine K_goto 227 (pc := 319) (i := 178) rfl rfl ?_
                                          refine K_drop (lo' := [(0, .ref (G.2.2.2 184)), (1, kI 4), (2, kI x2), (3, kI (x3 + 1)), (4, kI x4), (5, kI x5), (6, kI x6), (7, kI (x7 + 1))]) [0, 1, 2, 3, 4, 5, 6, 7] rfl ?_
                                          exact ih227 (x7 + 1) _ (by omega) hI fx ⟨by omega, ((kU_c _ _ _ _ (by decide)).trans (kU_c _ _ _ _ (by decide))).trans hV227.2⟩
                                      · skip
                                        refine K_iload (pc := 272) (i := 154) rfl rfl ?_
                                        refine K_goto 284 (pc := 274) (i := 155) rfl rfl ?_
                                        refine K_iast (pc := 284) (i := 160) rfl S_196 (by omega) (by omega) (by decide) ?_
                                        have hI := st_free (c := 196) hI (by decide +kernel) (by decide) (i := (x7).toNat) (v := v251)
                                        have fx := Fx.st (c := 196) (i := (x7).toNat) (v := v251) fx (by first | (dsimp only; omega) | omega | exact not_false)
                                        refine K_aload_n (pc := 285) (i := 161) rfl rfl ?_
                                        refine K_getR (pc := 286) (i := 162) (j := 21) (d := 197) rfl S_184 rfl (by decide) rfl fw_Model_47 ?_
                                        refine K_iload (pc := 289) (i := 163) rfl rfl ?_
                                        refine K_iload (pc := 291) (i := 164) rfl rfl ?_
                                        refine K_aload_n (pc := 293) (i := 165) rfl rfl ?_
                                        refine K_getR (pc := 294) (i := 166) (j := 21) (d := 197) rfl S_184 rfl (by decide) rfl fw_Model_47 ?_
                                        refine K_iload (pc := 297) (i := 167) rfl rfl ?_
                                        refine K_iald (pc := 299) (i := 168) rfl S_197 (by omega) (by omega) (by decide) ?_
                                        refine K_any (fun v299 r299 => ?_)
                                        first | refine K_icmp_le 308 (pc := 300) (i := 169) rfl rfl (by omega) (by omega) (fun b300 => ?_) (fun b300 => ?_) | refine K_icmp_le_an 308 (pc := 300) (i := 169) rfl rfl (fun b300 => ?_) (fun b300 => ?_)
                                        · skip
                                          refine K_aload_n (pc := 308) (i := 172) rfl rfl ?_
                                          refine K_getR (pc := 309) (i := 173) (j := 21) (d := 197) rfl S_184 rfl (by decide) rfl fw_Model_47 ?_
                                          refine K_iload (pc := 312) (i := 174) rfl rfl ?_
                                          refine K_iald (pc := 314) (i := 175) rfl S_197 (by omega) (by omega) (by decide) ?_
                                          refine K_any (fun v314 r314 => ?_)
                                          refine K_iast (pc := 315) (i := 176) rfl S_197 (by omega) (by omega) (by decide) ?_
                                          have hI := st_free (c := 197) hI (by decide +kernel) (by decide) (i := (x7).toNat) (v := v314)
                                          have fx := Fx.st (c := 197) (i := (x7).toNat) (v := v314) fx (by first | (dsimp only; omega) | omega | exact not_false)
                                          refine K_inc (pc := 316) (i := 177) (q := 7) (lo' := [(0, _), (1, _), (2, _), (3, _), (4, _), (5, _), (6, _), (7, _), (8, _)]) rfl rfl rfl rfl rfl ?_
                                          refine K_goto 227 (pc := 319) (i := 178) rfl rfl ?_
                                          refine K_drop (lo' := [(0, .ref (G.2.2.2 184)), (1, kI 4), (2, kI x2), (3, kI (x3 + 1)), (4, kI x4), (5, kI x5), (6, kI x6), (7, kI (x7 + 1))]) [0, 1, 2, 3, 4, 5, 6, 7] rfl ?_
                                          exact ih227 (x7 + 1) _ (by omega) hI fx ⟨by omega, ((kU_c _ _ _ _ (by decide)).trans (kU_c _ _ _ _ (by decide))).trans hV227.2⟩
                                        · skip
                                          refine K_iload (pc := 303) (i := 170) rfl rfl ?_
                                          refine K_goto 315 (pc := 305) (i := 171) rfl rfl ?_
                                          refine K_iast (pc := 315) (i := 176) rfl S_197 (by omega) (by omega) (by decide) ?_
                                          have hI := st_free (c := 197) hI (by decide +kernel) (by decide) (i := (x7).toNat) (v := v251)
                                          have fx := Fx.st (c := 197) (i := (x7).toNat) (v := v251) fx (by first | (dsimp only; omega) | omega | exact not_false)
                                          refine K_inc (pc := 316) (i := 177) (q := 7) (lo' := [(0, _), (1, _), (2, _), (3, _), (4, _), (5, _), (6, _), (7, _), (8, _)]) rfl rfl rfl rfl rfl ?_
                                          refine K_goto 227 (pc := 319) (i := 178) rfl rfl ?_
                                          refine K_drop (lo' := [(0, .ref (G.2.2.2 184)), (1, kI 4), (2, kI x2), (3, kI (x3 + 1)), (4, kI x4), (5, kI x5), (6, kI x6), (7, kI (x7 + 1))]) [0, 1, 2, 3, 4, 5, 6, 7] rfl ?_
                                          exact ih227 (x7 + 1) _ (by omega) hI fx ⟨by omega, ((kU_c _ _ _ _ (by decide)).trans (kU_c _ _ _ _ (by decide))).trans hV227.2⟩
                              exact L227 _ 0 _ (Nat.lt_succ_self _) hI fx ⟨by omega, rfl⟩
                          · skip
                            refine K_iload (pc := 129) (i := 77) rfl rfl ?_
                            first | refine K_if_eq 211 (pc := 131) (i := 78) rfl rfl (by omega) (fun b131 => ?_) (fun b131 => ?_) | refine K_if_eq_an 211 (pc := 131) (i := 78) rfl rfl (fun b131 => ?_) (fun b131 => ?_)
                            · skip
                              refine K_iload_n (pc := 211) (i := 119) rfl rfl ?_
                              refine K_iload (pc := 212) (i := 120) rfl rfl ?_
                              first | refine K_if_eq 221 (pc := 214) (i := 121) rfl rfl (by omega) (fun b214 => ?_) (fun b214 => ?_) | refine K_if_eq_an 221 (pc := 214) (i := 121) rfl rfl (fun b214 => ?_) (fun b214 => ?_)
                              · skip
                                refine K_iconst (pc := 221) (i := 124) rfl ?_
                                refine K_iadd (pc := 222) (i := 125) rfl ?_
                                refine K_ist_n (pc := 223) (i := 126) (lo' := [(0, _), (1, _), (2, _), (3, _), (4, _), (5, _), (6, _), (7, _)]) rfl rfl rfl rfl ?_
                                refine K_iconst (pc := 224) (i := 127) rfl ?_
                                refine K_ist (pc := 225) (i := 128) (lo' := [(0, _), (1, _), (2, _), (3, _), (4, _), (5, _), (6, _), (7, _)]) rfl rfl rfl rfl ?_
                                have L227 : ∀ (n : Nat) (x7 : Int) (hd : kH), (4 - x7).toNat < n → (Gd g hd) → (Fx (fun c i => (c = 187 ∧ 40 ≤ i) ∨ c = 196 ∨ c = 197) h hd) → ((0 ≤ x7 ∧ x7 ≤ 4) ∧ hd 187 = hc 187) → K X_Model_layFits G (kZm G 3 (kQi (fun z h' => Fx (fun c i => (c = 187 ∧ 40 ≤ i) ∨ c = 196 ∨ c = 197) h h' ∧ (Gd g h' ∧ kR z)))) 227 [(0, .ref (G.2.2.2 184)), (1, kI 4), (2, kI x2), (3, kI (x3 + 0)), (4, kI x4), (5, kI x5), (6, kI x6), (7, kI x7)] [] hd := by
                                  intro n
                                  induction n with
                                  | zero => intro x7 hd hm; exact absurd hm (Nat.not_lt_zero _)
                                  | succ n ih227 =>
                                    intro x7 hd hm227 hI fx hV227
                                    refine K_iload (pc := 227) (i := 129) rfl rfl ?_
                                    refine K_iload_n (pc := 229) (i := 130) rfl rfl ?_
                                    first | refine K_icmp_ge 322 (pc := 230) (i := 131) rfl rfl (by omega) (by omega) (fun b230 => ?_) (fun b230 => ?_) | refine K_icmp_ge_an 322 (pc := 230) (i := 131) rfl rfl (fun b230 => ?_) (fun b230 => ?_)
                                    · skip
                                      refine K_inc (pc := 322) (i := 179) (q := 4) (lo' := [(0, _), (1, _), (2, _), (3, _), (4, _), (5, _), (6, _), (7, _)]) rfl rfl rfl rfl rfl ?_
                                      refine K_goto 61 (pc := 325) (i := 180) rfl rfl ?_
                                      refine K_drop (lo' := [(0, .ref (G.2.2.2 184)), (1, kI 4), (2, kI x2), (3, kI (x3 + 0)), (4, kI (x4 + 1))]) [0, 1, 2, 3, 4] rfl ?_
                                      exact ih61 (x3 + 0) (x4 + 1) _ (by omega) hI fx ⟨by omega, by rw [kap_of hV227.2]; exact hV74.2.2⟩
                                    · skip
                                      refine K_iload (pc := 233) (i := 132) rfl rfl ?_
                                      first | refine K_if_eq 322 (pc := 235) (i := 133) rfl rfl (by omega) (fun b235 => ?_) (fun b235 => ?_) | refine K_if_eq_an 322 (pc := 235) (i := 133) rfl rfl (fun b235 => ?_) (fun b235 => ?_)
                                      · skip
                                        refine K_inc (pc := 322) (i := 179) (q := 4) (lo' := [(0, _), (1, _), (2, _), (3, _), (4, _), (5, _), (6, _), (7, _)]) rfl rfl rfl rfl rfl ?_
                                        refine K_goto 61 (pc := 325) (i := 180) rfl rfl ?_
                                        refine K_drop (lo' := [(0, .ref (G.2.2.2 184)), (1, kI 4), (2, kI x2), (3, kI (x3 + 0)), (4, kI (x4 + 1))]) [0, 1, 2, 3, 4] rfl ?_
                                        exact ih61 (x3 + 0) (x4 + 1) _ (by omega) hI fx ⟨by omega, by rw [kap_of hV227.2]; exact hV74.2.2⟩
                                      · skip
                                        refine K_aload_n (pc := 238) (i := 134) rfl rfl ?_
                                        refine K_getR (pc := 239) (i := 135) (j := 3) (d := 187) rfl S_184 rfl (by decide) rfl fw_Model_16 ?_
                                        refine K_bipush (pc := 242) (i := 136) rfl rfl ?_
                                        refine K_iconst (pc := 244) (i := 137) rfl ?_
                                        refine K_iload (pc := 245) (i := 138) rfl rfl ?_
                                        refine K_imul (pc := 247) (i := 139) rfl ?_
                                        refine K_iadd (pc := 248) (i := 140) rfl ?_
                                        refine K_iconst (pc := 249) (i := 141) rfl ?_
                                        refine K_iadd (pc := 250) (i := 142) rfl ?_
                                        refine K_iald (pc := 251) (i := 143) rfl S_187 (by omega) (by omega) (by decide) ?_
                                        refine K_nm (fun v251 e251 => ?_)
                                        have r251 := (rd_mkites hI ((40 + (5 * x7)) + 3).toNat).2.1 (by omega)
                                        rw [← e251] at r251
                                        refine K_ist (pc := 252) (i := 144) (lo' := [(0, _), (1, _), (2, _), (3, _), (4, _), (5, _), (6, _), (7, _), (8, _)]) rfl rfl rfl rfl ?_
                                        refine K_aload_n (pc := 254) (i := 145) rfl rfl ?_
                                        refine K_getR (pc := 255) (i := 146) (j := 20) (d := 196) rfl S_184 rfl (by decide) rfl fw_Model_44 ?_
                                        refine K_iload (pc := 258) (i := 147) rfl rfl ?_
                                        refine K_iload (pc := 260) (i := 148) rfl rfl ?_
                                        refine K_aload_n (pc := 262) (i := 149) rfl rfl ?_
                                        refine K_getR (pc := 263) (i := 150) (j := 20) (d := 196) rfl S_184 rfl (by decide) rfl fw_Model_44 ?_
                                        refine K_iload (pc := 266) (i := 151) rfl rfl ?_
                                        refine K_iald (pc := 268) (i := 152) rfl S_196 (by omega) (by omega) (by decide) ?_
                                        refine K_any (fun v268 r268 => ?_)
                                        first | refine K_icmp_ge 277 (pc := 269) (i := 153) rfl rfl (by omega) (by omega) (fun b269 => ?_) (fun b269 => ?_) | refine K_icmp_ge_an 277 (pc := 269) (i := 153) rfl rfl (fun b269 => ?_) (fun b269 => ?_)
                                        · skip
                                          refine K_aload_n (pc := 277) (i := 156) rfl rfl ?_
                                          refine K_getR (pc := 278) (i := 157) (j := 20) (d := 196) rfl S_184 rfl (by decide) rfl fw_Model_44 ?_
                                          refine K_iload (pc := 281) (i := 158) rfl rfl ?_
                                          refine K_iald (pc := 283) (i := 159) rfl S_196 (by omega) (by omega) (by decide) ?_
                                          refine K_any (fun v283 r283 => ?_)
                                          refine K_iast (pc := 284) (i := 160) rfl S_196 (by omega) (by omega) (by decide) ?_
                                          have hI := st_free (c := 196) hI (by decide +kernel) (by decide) (i := (x7).toNat) (v := v283)
                                          have fx := Fx.st (c := 196) (i := (x7).toNat) (v := v283) fx (by first | (dsimp only; omega) | omega | exact not_false)
                                          refine K_aload_n (pc := 285) (i := 161) rfl rfl ?_
                                          refine K_getR (pc := 286) (i := 162) (j := 21) (d := 197) rfl S_184 rfl (by decide) rfl fw_Model_47 ?_
                                          refine K_iload (pc := 289) (i := 163) rfl rfl ?_
                                          refine K_iload (pc := 291) (i := 164) rfl rfl ?_
                                          refine K_aload_n (pc := 293) (i := 165) rfl rfl ?_
                                          refine K_getR (pc := 294) (i := 166) (j := 21) (d := 197) rfl S_184 rfl (by decide) rfl fw_Model_47 ?_
                                          refine K_iload (pc := 297) (i := 167) rfl rfl ?_
                                          refine K_iald (pc := 299) (i := 168) rfl S_197 (by omega) (by omega) (by decide) ?_
                                          refine K_any (fun v299 r299 => ?_)
                                          first | refine K_icmp_le 308 (pc := 300) (i := 169) rfl rfl (by omega) (by omega) (fun b300 => ?_) (fun b300 => ?_) | refine K_icmp_le_an 308 (pc := 300) (i := 169) rfl rfl (fun b300 => ?_) (fun b300 => ?_)
                                          · skip
                                            refine K_aload_n (pc := 308) (i := 172) rfl rfl ?_
                                            refine K_getR (pc := 309) (i := 173) (j := 21) (d := 197) rfl S_184 rfl (by decide) rfl fw_Model_47 ?_
                                            refine K_iload (pc := 312) (i := 174) rfl rfl ?_
                                            refine K_iald (pc := 314) (i := 175) rfl S_197 (by omega) (by omega) (by decide) ?_
                                            refine K_any (fun v314 r314 => ?_)
                                            refine K_iast (pc := 315) (i := 176) rfl S_197 (by omega) (by omega) (by decide) ?_
                                            have hI := st_free (c := 197) hI (by decide +kernel) (by decide) (i := (x7).toNat) (v := v314)
                                            have fx := Fx.st (c := 197) (i := (x7).toNat) (v := v314) fx (by first | (dsimp only; omega) | omega | exact not_false)
                                            refine K_inc (pc := 316) (i := 177) (q := 7) (lo' := [(0, _), (1, _), (2, _), (3, _), (4, _), (5, _), (6, _), (7, _), (8, _)]) rfl rfl rfl rfl rfl ?_
                                            refine K_goto 227 (pc := 319) (i := 178) rfl rfl ?_
                                            refine K_drop (lo' := [(0, .ref (G.2.2.2 184)), (1, kI 4), (2, kI x2), (3, kI (x3 + 0)), (4, kI x4), (5, kI x5), (6, kI x6), (7, kI (x7 + 1))]) [0, 1, 2, 3, 4, 5, 6, 7] rfl ?_
                                            exact ih227 (x7 + 1) _ (by omega) hI fx ⟨by omega, ((kU_c _ _ _ _ (by decide)).trans (kU_c _ _ _ _ (by decide))).trans hV227.2⟩
                                          · skip
                                            refine K_iload (pc := 303) (i := 170) rfl rfl ?_
                                            refine K_goto 315 (pc := 305) (i := 171) rfl rfl ?_
                                            refine K_iast (pc := 315) (i := 176) rfl S_197 (by omega) (by omega) (by decide) ?_
                                            have hI := st_free (c := 197) hI (by decide +kernel) (by decide) (i := (x7).toNat) (v := v251)
                                            have fx := Fx.st (c := 197) (i := (x7).toNat) (v := v251) fx (by first | (dsimp only; omega) | omega | exact not_false)
                                            refine K_inc (pc := 316) (i := 177) (q := 7) (lo' := [(0, _), (1, _), (2, _), (3, _), (4, _), (5, _), (6, _), (7, _), (8, _)]) rfl rfl rfl rfl rfl ?_
                                            refine K_goto 227 (pc := 319) (i := 178) rfl rfl ?_
                                            refine K_drop (lo' := [(0, .ref (G.2.2.2 184)), (1, kI 4), (2, kI x2), (3, kI (x3 + 0)), (4, kI x4), (5, kI x5), (6, kI x6), (7, kI (x7 + 1))]) [0, 1, 2, 3, 4, 5, 6, 7] rfl ?_
                                            exact ih227 (x7 + 1) _ (by omega) hI fx ⟨by omega, ((kU_c _ _ _ _ (by decide)).trans (kU_c _ _ _ _ (by decide))).trans hV227.2⟩
                                        · skip
                                          refine K_iload (pc := 272) (i := 154) rfl rfl ?_
                                          refine K_goto 284 (pc := 274) (i := 155) rfl rfl ?_
                                          refine K_iast (pc := 284) (i := 160) rfl S_196 (by omega) (by omega) (by decide) ?_
                                          have hI := st_free (c := 196) hI (by decide +kernel) (by decide) (i := (x7).toNat) (v := v251)
                                          have fx := Fx.st (c := 196) (i := (x7).toNat) (v := v251) fx (by first | (dsimp only; omega) | omega | exact not_false)
                                          refine K_aload_n (pc := 285) (i := 161) rfl rfl ?_
                                          refine K_getR (pc := 286) (i := 162) (j := 21) (d := 197) rfl S_184 rfl (by decide) rfl fw_Model_47 ?_
                                          refine K_iload (pc := 289) (i := 163) rfl rfl ?_
                                          refine K_iload (pc := 291) (i := 164) rfl rfl ?_
                                          refine K_aload_n (pc := 293) (i := 165) rfl rfl ?_
                                          refine K_getR (pc := 294) (i := 166) (j := 21) (d := 197) rfl S_184 rfl (by decide) rfl fw_Model_47 ?_
                                          refine K_iload (pc := 297) (i := 167) rfl rfl ?_
                                          refine K_iald (pc := 299) (i := 168) rfl S_197 (by omega) (by omega) (by decide) ?_
                                          refine K_any (fun v299 r299 => ?_)
                                          first | refine K_icmp_le 308 (pc := 300) (i := 169) rfl rfl (by omega) (by omega) (fun b300 => ?_) (fun b300 => ?_) | refine K_icmp_le_an 308 (pc := 300) (i := 169) rfl rfl (fun b300 => ?_) (fun b300 => ?_)
                                          · skip
                                            refine K_aload_n (pc := 308) (i := 172) rfl rfl ?_
                                            refine K_getR (pc := 309) (i := 173) (j := 21) (d := 197) rfl S_184 rfl (by decide) rfl fw_Model_47 ?_
                                            refine K_iload (pc := 312) (i := 174) rfl rfl ?_
                                            refine K_iald (pc := 314) (i := 175) rfl S_197 (by omega) (by omega) (by decide) ?_
                                            refine K_any (fun v314 r314 => ?_)
                                            refine K_iast (pc := 315) (i := 176) rfl S_197 (by omega) (by omega) (by decide) ?_
                                            have hI := st_free (c := 197) hI (by decide +kernel) (by decide) (i := (x7).toNat) (v := v314)
                                            have fx := Fx.st (c := 197) (i := (x7).toNat) (v := v314) fx (by first | (dsimp only; omega) | omega | exact not_false)
                                            refine K_inc (pc := 316) (i := 177) (q := 7) (lo' := [(0, _), (1, _), (2, _), (3, _), (4, _), (5, _), (6, _), (7, _), (8, _)]) rfl rfl rfl rfl rfl ?_
                                            refine K_goto 227 (pc := 319) (i := 178) rfl rfl ?_
                                            refine K_drop (lo' := [(0, .ref (G.2.2.2 184)), (1, kI 4), (2, kI x2), (3, kI (x3 + 0)), (4, kI x4), (5, kI x5), (6, kI x6), (7, kI (x7 + 1))]) [0, 1, 2, 3, 4, 5, 6, 7] rfl ?_
                                            exact ih227 (x7 + 1) _ (by omega) hI fx ⟨by omega, ((kU_c _ _ _ _ (by decide)).trans (kU_c _ _ _ _ (by decide))).trans hV227.2⟩
                                          · skip
                                            refine K_iload (pc := 303) (i := 170) rfl rfl ?_
                                            refine K_goto 315 (pc := 305) (i := 171) rfl rfl ?_
                                            refine K_iast (pc := 315) (i := 176) rfl S_197 (by omega) (by omega) (by decide) ?_
                                            have hI := st_free (c := 197) hI (by decide +kernel) (by decide) (i := (x7).toNat) (v := v251)
                                            have fx := Fx.st (c := 197) (i := (x7).toNat) (v := v251) fx (by first | (dsimp only; omega) | omega | exact not_false)
                                            refine K_inc (pc := 316) (i := 177) (q := 7) (lo' := [(0, _), (1, _), (2, _), (3, _), (4, _), (5, _), (6, _), (7, _), (8, _)]) rfl rfl rfl rfl rfl ?_
                                            refine K_goto 227 (pc := 319) (i := 178) rfl rfl ?_
                                            refine K_drop (lo' := [(0, .ref (G.2.2.2 184)), (1, kI 4), (2, kI x2), (3, kI (x3 + 0)), (4, kI x4), (5, kI x5), (6, kI x6), (7, kI (x7 + 1))]) [0, 1, 2, 3, 4, 5, 6, 7] rfl ?_
                                            exact ih227 (x7 + 1) _ (by omega) hI fx ⟨by omega, ((kU_c _ _ _ _ (by decide)).trans (kU_c _ _ _ _ (by decide))).trans hV227.2⟩
                                exact L227 _ 0 _ (Nat.lt_succ_self _) hI fx ⟨by omega, rfl⟩
                              · skip
                                refine K_iconst (pc := 217) (i := 122) rfl ?_
                                refine K_goto 222 (pc := 218) (i := 123) rfl rfl ?_
                                refine K_iadd (pc := 222) (i := 125) rfl ?_
                                refine K_ist_n (pc := 223) (i := 126) (lo' := [(0, _), (1, _), (2, _), (3, _), (4, _), (5, _), (6, _), (7, _)]) rfl rfl rfl rfl ?_
                                refine K_iconst (pc := 224) (i := 127) rfl ?_
                                refine K_ist (pc := 225) (i := 128) (lo' := [(0, _), (1, _), (2, _), (3, _), (4, _), (5, _), (6, _), (7, _)]) rfl rfl rfl rfl ?_
                                have L227 : ∀ (n : Nat) (x7 : Int) (hd : kH), (4 - x7).toNat < n → (Gd g hd) → (Fx (fun c i => (c = 187 ∧ 40 ≤ i) ∨ c = 196 ∨ c = 197) h hd) → ((0 ≤ x7 ∧ x7 ≤ 4) ∧ hd 187 = hc 187) → K X_Model_layFits G (kZm G 3 (kQi (fun z h' => Fx (fun c i => (c = 187 ∧ 40 ≤ i) ∨ c = 196 ∨ c = 197) h h' ∧ (Gd g h' ∧ kR z)))) 227 [(0, .ref (G.2.2.2 184)), (1, kI 4), (2, kI x2), (3, kI (x3 + 1)), (4, kI x4), (5, kI x5), (6, kI x6), (7, kI x7)] [] hd := by
                                  intro n
                                  induction n with
                                  | zero => intro x7 hd hm; exact absurd hm (Nat.not_lt_zero _)
                                  | succ n ih227 =>
                                    intro x7 hd hm227 hI fx hV227
                                    refine K_iload (pc := 227) (i := 129) rfl rfl ?_
                                    refine K_iload_n (pc := 229) (i := 130) rfl rfl ?_
                                    first | refine K_icmp_ge 322 (pc := 230) (i := 131) rfl rfl (by omega) (by omega) (fun b230 => ?_) (fun b230 => ?_) | refine K_icmp_ge_an 322 (pc := 230) (i := 131) rfl rfl (fun b230 => ?_) (fun b230 => ?_)
                                    · skip
                                      refine K_inc (pc := 322) (i := 179) (q := 4) (lo' := [(0, _), (1, _), (2, _), (3, _), (4, _), (5, _), (6, _), (7, _)]) rfl rfl rfl rfl rfl ?_
                                      refine K_goto 61 (pc := 325) (i := 180) rfl rfl ?_
                                      refine K_drop (lo' := [(0, .ref (G.2.2.2 184)), (1, kI 4), (2, kI x2), (3, kI (x3 + 1)), (4, kI (x4 + 1))]) [0, 1, 2, 3, 4] rfl ?_
                                      exact ih61 (x3 + 1) (x4 + 1) _ (by omega) hI fx ⟨by omega, by rw [kap_of hV227.2]; exact hV74.2.2⟩
                                    · skip
                                      refine K_iload (pc := 233) (i := 132) rfl rfl ?_
                                      first | refine K_if_eq 322 (pc := 235) (i := 133) rfl rfl (by omega) (fun b235 => ?_) (fun b235 => ?_) | refine K_if_eq_an 322 (pc := 235) (i := 133) rfl rfl (fun b235 => ?_) (fun b235 => ?_)
                                      · skip
                                        refine K_inc (pc := 322) (i := 179) (q := 4) (lo' := [(0, _), (1, _), (2, _), (3, _), (4, _), (5, _), (6, _), (7, _)]) rfl rfl rfl rfl rfl ?_
                                        refine K_goto 61 (pc := 325) (i := 180) rfl rfl ?_
                                        refine K_drop (lo' := [(0, .ref (G.2.2.2 184)), (1, kI 4), (2, kI x2), (3, kI (x3 + 1)), (4, kI (x4 + 1))]) [0, 1, 2, 3, 4] rfl ?_
                                        exact ih61 (x3 + 1) (x4 + 1) _ (by omega) hI fx ⟨by omega, by rw [kap_of hV227.2]; exact hV74.2.2⟩
                                      · skip
                                        refine K_aload_n (pc := 238) (i := 134) rfl rfl ?_
                                        refine K_getR (pc := 239) (i := 135) (j := 3) (d := 187) rfl S_184 rfl (by decide) rfl fw_Model_16 ?_
                                        refine K_bipush (pc := 242) (i := 136) rfl rfl ?_
                                        refine K_iconst (pc := 244) (i := 137) rfl ?_
                                        refine K_iload (pc := 245) (i := 138) rfl rfl ?_
                                        refine K_imul (pc := 247) (i := 139) rfl ?_
                                        refine K_iadd (pc := 248) (i := 140) rfl ?_
                                        refine K_iconst (pc := 249) (i := 141) rfl ?_
                                        refine K_iadd (pc := 250) (i := 142) rfl ?_
                                        refine K_iald (pc := 251) (i := 143) rfl S_187 (by omega) (by omega) (by decide) ?_
                                        refine K_nm (fun v251 e251 => ?_)
                                        have r251 := (rd_mkites hI ((40 + (5 * x7)) + 3).toNat).2.1 (by omega)
                                        rw [← e251] at r251
                                        refine K_ist (pc := 252) (i := 144) (lo' := [(0, _), (1, _), (2, _), (3, _), (4, _), (5, _), (6, _), (7, _), (8, _)]) rfl rfl rfl rfl ?_
                                        refine K_aload_n (pc := 254) (i := 145) rfl rfl ?_
                                        refine K_getR (pc := 255) (i := 146) (j := 20) (d := 196) rfl S_184 rfl (by decide) rfl fw_Model_44 ?_
                                        refine K_iload (pc := 258) (i := 147) rfl rfl ?_
                                        refine K_iload (pc := 260) (i := 148) rfl rfl ?_
                                        refine K_aload_n (pc := 262) (i := 149) rfl rfl ?_
                                        refine K_getR (pc := 263) (i := 150) (j := 20) (d := 196) rfl S_184 rfl (by decide) rfl fw_Model_44 ?_
                                        refine K_iload (pc := 266) (i := 151) rfl rfl ?_
                                        refine K_iald (pc := 268) (i := 152) rfl S_196 (by omega) (by omega) (by decide) ?_
                                        refine K_any (fun v268 r268 => ?_)
                                        first | refine K_icmp_ge 277 (pc := 269) (i := 153) rfl rfl (by omega) (by omega) (fun b269 => ?_) (fun b269 => ?_) | refine K_icmp_ge_an 277 (pc := 269) (i := 153) rfl rfl (fun b269 => ?_) (fun b269 => ?_)
                                        · skip
                                          refine K_aload_n (pc := 277) (i := 156) rfl rfl ?_
                                          refine K_getR (pc := 278) (i := 157) (j := 20) (d := 196) rfl S_184 rfl (by decide) rfl fw_Model_44 ?_
                                          refine K_iload (pc := 281) (i := 158) rfl rfl ?_
                                          refine K_iald (pc := 283) (i := 159) rfl S_196 (by omega) (by omega) (by decide) ?_
                                          refine K_any (fun v283 r283 => ?_)
                                          refine K_iast (pc := 284) (i := 160) rfl S_196 (by omega) (by omega) (by decide) ?_
                                          have hI := st_free (c := 196) hI (by decide +kernel) (by decide) (i := (x7).toNat) (v := v283)
                                          have fx := Fx.st (c := 196) (i := (x7).toNat) (v := v283) fx (by first | (dsimp only; omega) | omega | exact not_false)
                                          refine K_aload_n (pc := 285) (i := 161) rfl rfl ?_
                                          refine K_getR (pc := 286) (i := 162) (j := 21) (d := 197) rfl S_184 rfl (by decide) rfl fw_Model_47 ?_
                                          refine K_iload (pc := 289) (i := 163) rfl rfl ?_
                                          refine K_iload (pc := 291) (i := 164) rfl rfl ?_
                                          refine K_aload_n (pc := 293) (i := 165) rfl rfl ?_
                                          refine K_getR (pc := 294) (i := 166) (j := 21) (d := 197) rfl S_184 rfl (by decide) rfl fw_Model_47 ?_
                                          refine K_iload (pc := 297) (i := 167) rfl rfl ?_
                                          refine K_iald (pc := 299) (i := 168) rfl S_197 (by omega) (by omega) (by decide) ?_
                                          refine K_any (fun v299 r299 => ?_)
                                          first | refine K_icmp_le 308 (pc := 300) (i := 169) rfl rfl (by omega) (by omega) (fun b300 => ?_) (fun b300 => ?_) | refine K_icmp_le_an 308 (pc := 300) (i := 169) rfl rfl (fun b300 => ?_) (fun b300 => ?_)
                                          · skip
                                            refine K_aload_n (pc := 308) (i := 172) rfl rfl ?_
                                            refine K_getR (pc := 309) (i := 173) (j := 21) (d := 197) rfl S_184 rfl (by decide) rfl fw_Model_47 ?_
                                            refine K_iload (pc := 312) (i := 174) rfl rfl ?_
                                            refine K_iald (pc := 314) (i := 175) rfl S_197 (by omega) (by omega) (by decide) ?_
                                            refine K_any (fun v314 r314 => ?_)
                                            refine K_iast (pc := 315) (i := 176) rfl S_197 (by omega) (by omega) (by decide) ?_
                                            have hI := st_free (c := 197) hI (by decide +kernel) (by decide) (i := (x7).toNat) (v := v314)
                                            have fx := Fx.st (c := 197) (i := (x7).toNat) (v := v314) fx (by first | (dsimp only; omega) | omega | exact not_false)
                                            refine K_inc (pc := 316) (i := 177) (q := 7) (lo' := [(0, _), (1, _), (2, _), (3, _), (4, _), (5, _), (6, _), (7, _), (8, _)]) rfl rfl rfl rfl rfl ?_
                                            refine K_goto 227 (pc := 319) (i := 178) rfl rfl ?_
                                            refine K_drop (lo' := [(0, .ref (G.2.2.2 184)), (1, kI 4), (2, kI x2), (3, kI (x3 + 1)), (4, kI x4), (5, kI x5), (6, kI x6), (7, kI (x7 + 1))]) [0, 1, 2, 3, 4, 5, 6, 7] rfl ?_
                                            exact ih227 (x7 + 1) _ (by omega) hI fx ⟨by omega, ((kU_c _ _ _ _ (by decide)).trans (kU_c _ _ _ _ (by decide))).trans hV227.2⟩
                                          · skip
                                            refine K_iload (pc := 303) (i := 170) rfl rfl ?_
                                            refine K_goto 315 (pc := 305) (i := 171) rfl rfl ?_
                                            refine K_iast (pc := 315) (i := 176) rfl S_197 (by omega) (by omega) (by decide) ?_
                                            have hI := st_free (c := 197) hI (by decide +kernel) (by decide) (i := (x7).toNat) (v := v251)
                                            have fx := Fx.st (c := 197) (i := (x7).toNat) (v := v251) fx (by first | (dsimp only; omega) | omega | exact not_false)
                                            refine K_inc (pc := 316) (i := 177) (q := 7) (lo' := [(0, _), (1, _), (2, _), (3, _), (4, _), (5, _), (6, _), (7, _), (8, _)]) rfl rfl rfl rfl rfl ?_
                                            refine K_goto 227 (pc := 319) (i := 178) rfl rfl ?_
                                            refine K_drop (lo' := [(0, .ref (G.2.2.2 184)), (1, kI 4), (2, kI x2), (3, kI (x3 + 1)), (4, kI x4), (5, kI x5), (6, kI x6), (7, kI (x7 + 1))]) [0, 1, 2, 3, 4, 5, 6, 7] rfl ?_
                                            exact ih227 (x7 + 1) _ (by omega) hI fx ⟨by omega, ((kU_c _ _ _ _ (by decide)).trans (kU_c _ _ _ _ (by decide))).trans hV227.2⟩
                                        · skip
                                          refine K_iload (pc := 272) (i := 154) rfl rfl ?_
                                          refine K_goto 284 (pc := 274) (i := 155) rfl rfl ?_
                                          refine K_iast (pc := 284) (i := 160) rfl S_196 (by omega) (by omega) (by decide) ?_
                                          have hI := st_free (c := 196) hI (by decide +kernel) (by decide) (i := (x7).toNat) (v := v251)
                                          have fx := Fx.st (c := 196) (i := (x7).toNat) (v := v251) fx (by first | (dsimp only; omega) | omega | exact not_false)
                                          refine K_aload_n (pc := 285) (i := 161) rfl rfl ?_
                                          refine K_getR (pc := 286) (i := 162) (j := 21) (d := 197) rfl S_184 rfl (by decide) rfl fw_Model_47 ?_
                                          refine K_iload (pc := 289) (i := 163) rfl rfl ?_
                                          refine K_iload (pc := 291) (i := 164) rfl rfl ?_
                                          refine K_aload_n (pc := 293) (i := 165) rfl rfl ?_
                                          refine K_getR (pc := 294) (i := 166) (j := 21) (d := 197) rfl S_184 rfl (by decide) rfl fw_Model_47 ?_
                                          refine K_iload (pc := 297) (i := 167) rfl rfl ?_
                                          refine K_iald (pc := 299) (i := 168) rfl S_197 (by omega) (by omega) (by decide) ?_
                                          refine K_any (fun v299 r299 => ?_)
                                          first | refine K_icmp_le 308 (pc := 300) (i := 169) rfl rfl (by omega) (by omega) (fun b300 => ?_) (fun b300 => ?_) | refine K_icmp_le_an 308 (pc := 300) (i := 169) rfl rfl (fun b300 => ?_) (fun b300 => ?_)
                                          · skip
                                            refine K_aload_n (pc := 308) (i := 172) rfl rfl ?_
                                            refine K_getR (pc := 309) (i := 173) (j := 21) (d := 197) rfl S_184 rfl (by decide) rfl fw_Model_47 ?_
                                            refine K_iload (pc := 312) (i := 174) rfl rfl ?_
                                            refine K_iald (pc := 314) (i := 175) rfl S_197 (by omega) (by omega) (by decide) ?_
                                            refine K_any (fun v314 r314 => ?_)
                                            refine K_iast (pc := 315) (i := 176) rfl S_197 (by omega) (by omega) (by decide) ?_
                                            have hI := st_free (c := 197) hI (by decide +kernel) (by decide) (i := (x7).toNat) (v := v314)
                                            have fx := Fx.st (c := 197) (i := (x7).toNat) (v := v314) fx (by first | (dsimp only; omega) | omega | exact not_false)
                                            refine K_inc (pc := 316) (i := 177) (q := 7) (lo' := [(0, _), (1, _), (2, _), (3, _), (4, _), (5, _), (6, _), (7, _), (8, _)]) rfl rfl rfl rfl rfl ?_
                                            refine K_goto 227 (pc := 319) (i := 178) rfl rfl ?_
                                            refine K_drop (lo' := [(0, .ref (G.2.2.2 184)), (1, kI 4), (2, kI x2), (3, kI (x3 + 1)), (4, kI x4), (5, kI x5), (6, kI x6), (7, kI (x7 + 1))]) [0, 1, 2, 3, 4, 5, 6, 7] rfl ?_
                                            exact ih227 (x7 + 1) _ (by omega) hI fx ⟨by omega, ((kU_c _ _ _ _ (by decide)).trans (kU_c _ _ _ _ (by decide))).trans hV227.2⟩
                                          · skip
                                            refine K_iload (pc := 303) (i := 170) rfl rfl ?_
                                            refine K_goto 315 (pc := 305) (i := 171) rfl rfl ?_
                                            refine K_iast (pc := 315) (i := 176) rfl S_197 (by omega) (by omega) (by decide) ?_
                                            have hI := st_free (c := 197) hI (by decide +kernel) (by decide) (i := (x7).toNat) (v := v251)
                                            have fx := Fx.st (c := 197) (i := (x7).toNat) (v := v251) fx (by first | (dsimp only; omega) | omega | exact not_false)
                                            refine K_inc (pc := 316) (i := 177) (q := 7) (lo' := [(0, _), (1, _), (2, _), (3, _), (4, _), (5, _), (6, _), (7, _), (8, _)]) rfl rfl rfl rfl rfl ?_
                                            refine K_goto 227 (pc := 319) (i := 178) rfl rfl ?_
                                            refine K_drop (lo' := [(0, .ref (G.2.2.2 184)), (1, kI 4), (2, kI x2), (3, kI (x3 + 1)), (4, kI x4), (5, kI x5), (6, kI x6), (7, kI (x7 + 1))]) [0, 1, 2, 3, 4, 5, 6, 7] rfl ?_
                                            exact ih227 (x7 + 1) _ (by omega) hI fx ⟨by omega, ((kU_c _ _ _ _ (by decide)).trans (kU_c _ _ _ _ (by decide))).trans hV227.2⟩
                                exact L227 _ 0 _ (Nat.lt_succ_self _) hI fx ⟨by omega, rfl⟩
                            · skip
                              refine K_aload_n (pc := 134) (i := 79) rfl rfl ?_
                              refine K_getR (pc := 135) (i := 80) (j := 17) (d := 193) rfl S_184 rfl (by decide) rfl fw_Model_34 ?_
                              refine K_iload (pc := 138) (i := 81) rfl rfl ?_
                              refine K_iald (pc := 140) (i := 82) rfl S_193 (by omega) (by omega) (by decide) ?_
                              refine K_nm (fun v140 e140 => ?_)
                              have r140 := rd_mseenone hI (x7).toNat
                              rw [← e140] at r140
                              refine K_iload_n (pc := 141) (i := 83) rfl rfl ?_
                              first | refine K_icmp_ge 160 (pc := 142) (i := 84) rfl rfl (by omega) (by omega) (fun b142 => ?_) (fun b142 => ?_) | refine K_icmp_ge_an 160 (pc := 142) (i := 84) rfl rfl (fun b142 => ?_) (fun b142 => ?_)
                              · skip
                                refine K_iconst (pc := 160) (i := 93) rfl ?_
                                refine K_ist (pc := 161) (i := 94) (lo' := [(0, _), (1, _), (2, _), (3, _), (4, _), (5, _), (6, _), (7, _), (8, _)]) rfl rfl rfl rfl ?_
                                refine K_iload (pc := 163) (i := 95) rfl rfl ?_
                                refine K_if_eq 198 (pc := 165) (i := 96) rfl rfl (by omega) (fun _ => ?_) (fun b165 => False.elim (by omega))
                                refine K_iconst (pc := 198) (i := 113) rfl ?_
                                refine K_goto 203 (pc := 199) (i := 114) rfl rfl ?_
                                refine K_ist (pc := 203) (i := 116) (lo' := [(0, _), (1, _), (2, _), (3, _), (4, _), (5, _), (6, _), (7, _), (8, _)]) rfl rfl rfl rfl ?_
                                refine K_inc (pc := 205) (i := 117) (q := 7) (lo' := [(0, _), (1, _), (2, _), (3, _), (4, _), (5, _), (6, _), (7, _), (8, _)]) rfl rfl rfl rfl rfl ?_
                                refine K_goto 120 (pc := 208) (i := 118) rfl rfl ?_
                                refine K_drop (lo' := [(0, .ref (G.2.2.2 184)), (1, kI 4), (2, kI x2), (3, kI x3), (4, kI x4), (5, kI x5), (6, kI 1), (7, kI (x7 + 1))]) [0, 1, 2, 3, 4, 5, 6, 7] rfl ?_
                                exact ih120 1 (x7 + 1) (by omega) (by omega)
                              · skip
                                refine K_aload_n (pc := 145) (i := 85) rfl rfl ?_
                                refine K_getR (pc := 146) (i := 86) (j := 18) (d := 194) rfl S_184 rfl (by decide) rfl fw_Model_37 ?_
                                refine K_iload (pc := 149) (i := 87) rfl rfl ?_
                                refine K_iald (pc := 151) (i := 88) rfl S_194 (by omega) (by omega) (by decide) ?_
                                refine K_nm (fun v151 e151 => ?_)
                                have r151 := rd_mseenother hI (x7).toNat
                                rw [← e151] at r151
                                refine K_iload_n (pc := 152) (i := 89) rfl rfl ?_
                                first | refine K_icmp_ge 160 (pc := 153) (i := 90) rfl rfl (by omega) (by omega) (fun b153 => ?_) (fun b153 => ?_) | refine K_icmp_ge_an 160 (pc := 153) (i := 90) rfl rfl (fun b153 => ?_) (fun b153 => ?_)
                                · skip
                                  refine K_iconst (pc := 160) (i := 93) rfl ?_
                                  refine K_ist (pc := 161) (i := 94) (lo' := [(0, _), (1, _), (2, _), (3, _), (4, _), (5, _), (6, _), (7, _), (8, _)]) rfl rfl rfl rfl ?_
                                  refine K_iload (pc := 163) (i := 95) rfl rfl ?_
                                  refine K_if_eq 198 (pc := 165) (i := 96) rfl rfl (by omega) (fun _ => ?_) (fun b165 => False.elim (by omega))
                                  refine K_iconst (pc := 198) (i := 113) rfl ?_
                                  refine K_goto 203 (pc := 199) (i := 114) rfl rfl ?_
                                  refine K_ist (pc := 203) (i := 116) (lo' := [(0, _), (1, _), (2, _), (3, _), (4, _), (5, _), (6, _), (7, _), (8, _)]) rfl rfl rfl rfl ?_
                                  refine K_inc (pc := 205) (i := 117) (q := 7) (lo' := [(0, _), (1, _), (2, _), (3, _), (4, _), (5, _), (6, _), (7, _), (8, _)]) rfl rfl rfl rfl rfl ?_
                                  refine K_goto 120 (pc := 208) (i := 118) rfl rfl ?_
                                  refine K_drop (lo' := [(0, .ref (G.2.2.2 184)), (1, kI 4), (2, kI x2), (3, kI x3), (4, kI x4), (5, kI x5), (6, kI 1), (7, kI (x7 + 1))]) [0, 1, 2, 3, 4, 5, 6, 7] rfl ?_
                                  exact ih120 1 (x7 + 1) (by omega) (by omega)
                                · skip
                                  refine K_iconst (pc := 156) (i := 91) rfl ?_
                                  refine K_goto 161 (pc := 157) (i := 92) rfl rfl ?_
                                  refine K_ist (pc := 161) (i := 94) (lo' := [(0, _), (1, _), (2, _), (3, _), (4, _), (5, _), (6, _), (7, _), (8, _)]) rfl rfl rfl rfl ?_
                                  refine K_iload (pc := 163) (i := 95) rfl rfl ?_
                                  refine K_if_eq 198 (pc := 165) (i := 96) rfl rfl (by omega) (fun b165 => False.elim (by omega)) (fun _ => ?_)
                                  refine K_aload_n (pc := 168) (i := 97) rfl rfl ?_
                                  refine K_bipush (pc := 169) (i := 98) rfl rfl ?_
                                  refine K_aload_n (pc := 171) (i := 99) rfl rfl ?_
                                  refine K_getR (pc := 172) (i := 100) (j := 17) (d := 193) rfl S_184 rfl (by decide) rfl fw_Model_34 ?_
                                  refine K_iload (pc := 175) (i := 101) rfl rfl ?_
                                  refine K_iald (pc := 177) (i := 102) rfl S_193 (by omega) (by omega) (by decide) ?_
                                  refine K_nm (fun v177 e177 => ?_)
                                  have r177 := rd_mseenone hI (x7).toNat
                                  rw [← e177] at r177
                                  refine K_aload_n (pc := 178) (i := 103) rfl rfl ?_
                                  refine K_getR (pc := 179) (i := 104) (j := 18) (d := 194) rfl S_184 rfl (by decide) rfl fw_Model_37 ?_
                                  refine K_iload (pc := 182) (i := 105) rfl rfl ?_
                                  refine K_iald (pc := 184) (i := 106) rfl S_194 (by omega) (by omega) (by decide) ?_
                                  refine K_nm (fun v184 e184 => ?_)
                                  have r184 := rd_mseenother hI (x7).toNat
                                  rw [← e184] at r184
                                  refine K_cVI (pc := 185) (i := 107) rfl (c_Model_doCross G (x1 := 40) (x2 := v177) (x3 := v184) (hk := hV74.2.2) (hI := hI) (hn := by omega) (s1 := by omega) (s2 := by omega) (s3 := by omega)) S_184 rfl (lv_Model_137 rfl) rfl rfl rfl rfl rfl (fun v185 h185 q185 => ?_)
                                  obtain ⟨eh, r185⟩ := q185
                                  rw [eh]; clear eh
                                  refine K_aload_n (pc := 188) (i := 108) rfl rfl ?_
                                  refine K_getR (pc := 189) (i := 109) (j := 19) (d := 195) rfl S_184 rfl (by decide) rfl fw_Model_40 ?_
                                  refine K_iload (pc := 192) (i := 110) rfl rfl ?_
                                  refine K_bald (pc := 194) (i := 111) rfl S_195 (by omega) (by omega) (by decide) ?_
                                  refine K_nm (fun v194 e194 => ?_)
                                  have r194 := rd_seenCross hI (x7).toNat
                                  rw [← e194] at r194
                                  first | refine K_icmp_ne 202 (pc := 195) (i := 112) rfl rfl (by omega) (by omega) (fun b195 => ?_) (fun b195 => ?_) | refine K_icmp_ne_an 202 (pc := 195) (i := 112) rfl rfl (fun b195 => ?_) (fun b195 => ?_)
                                  · skip
                                    refine K_iconst (pc := 202) (i := 115) rfl ?_
                                    refine K_ist (pc := 203) (i := 116) (lo' := [(0, _), (1, _), (2, _), (3, _), (4, _), (5, _), (6, _), (7, _), (8, _)]) rfl rfl rfl rfl ?_
                                    refine K_inc (pc := 205) (i := 117) (q := 7) (lo' := [(0, _), (1, _), (2, _), (3, _), (4, _), (5, _), (6, _), (7, _), (8, _)]) rfl rfl rfl rfl rfl ?_
                                    refine K_goto 120 (pc := 208) (i := 118) rfl rfl ?_
                                    refine K_drop (lo' := [(0, .ref (G.2.2.2 184)), (1, kI 4), (2, kI x2), (3, kI x3), (4, kI x4), (5, kI x5), (6, kI 0), (7, kI (x7 + 1))]) [0, 1, 2, 3, 4, 5, 6, 7] rfl ?_
                                    exact ih120 0 (x7 + 1) (by omega) (by omega)
                                  · skip
                                    refine K_iconst (pc := 198) (i := 113) rfl ?_
                                    refine K_goto 203 (pc := 199) (i := 114) rfl rfl ?_
                                    refine K_ist (pc := 203) (i := 116) (lo' := [(0, _), (1, _), (2, _), (3, _), (4, _), (5, _), (6, _), (7, _), (8, _)]) rfl rfl rfl rfl ?_
                                    refine K_inc (pc := 205) (i := 117) (q := 7) (lo' := [(0, _), (1, _), (2, _), (3, _), (4, _), (5, _), (6, _), (7, _), (8, _)]) rfl rfl rfl rfl rfl ?_
                                    refine K_goto 120 (pc := 208) (i := 118) rfl rfl ?_
                                    refine K_drop (lo' := [(0, .ref (G.2.2.2 184)), (1, kI 4), (2, kI x2), (3, kI x3), (4, kI x4), (5, kI x5), (6, kI 1), (7, kI (x7 + 1))]) [0, 1, 2, 3, 4, 5, 6, 7] rfl ?_
                                    exact ih120 1 (x7 + 1) (by omega) (by omega)
                      exact L120 _ 1 0 (Nat.lt_succ_self _) (by omega)
                    · skip
                      refine K_aload_n (pc := 80) (i := 48) rfl rfl ?_
                      refine K_getR (pc := 81) (i := 49) (j := 3) (d := 187) rfl S_184 rfl (by decide) rfl fw_Model_16 ?_
                      refine K_bipush (pc := 84) (i := 50) rfl rfl ?_
                      refine K_iconst (pc := 86) (i := 51) rfl ?_
                      refine K_iload (pc := 87) (i := 52) rfl rfl ?_
                      refine K_imul (pc := 89) (i := 53) rfl ?_
                      refine K_iadd (pc := 90) (i := 54) rfl ?_
                      refine K_iconst (pc := 91) (i := 55) rfl ?_
                      refine K_iadd (pc := 92) (i := 56) rfl ?_
                      refine K_iconst (pc := 93) (i := 57) rfl ?_
                      refine K_iload (pc := 94) (i := 58) rfl rfl ?_
                      refine K_bipush (pc := 96) (i := 59) rfl rfl ?_
                      refine K_irem (pc := 98) (i := 60) rfl (by omega) (by omega) ?_
                      refine K_eq (kRem_eq (by omega) (by omega) (by omega) (by omega)) ?_
                      refine K_iadd (pc := 99) (i := 61) rfl ?_
                      refine K_iast (pc := 100) (i := 62) rfl S_187 (by omega) (by omega) (by decide) ?_
                      have hI := st_mkites hI (i := ((40 + (5 * x6)) + 3).toNat) (v := 1 + (x5 % 9)) (by unfold bK; omega) (fun _ a => a.hi (rd_many hI).2 (by omega))
                      have fx := Fx.st (c := 187) (i := ((40 + (5 * x6)) + 3).toNat) (v := 1 + (x5 % 9)) fx (by first | (dsimp only; omega) | omega | exact not_false)
                      have fk100 := FK.kH (o := 40) (i := ((40 + (5 * x6)) + 3).toNat) (v := 1 + (x5 % 9)) hV74.2.2 x6.toNat (by omega) (by omega)
                      refine K_iload (pc := 101) (i := 63) rfl rfl ?_
                      refine K_bipush (pc := 103) (i := 64) rfl rfl ?_
                      refine K_idiv (pc := 105) (i := 65) rfl (by omega) (by omega) ?_
                      refine K_eq (kDiv_eq (by omega) (by omega) (by omega) (by omega)) ?_
                      refine K_ist (pc := 106) (i := 66) (lo' := [(0, _), (1, _), (2, _), (3, _), (4, _), (5, _), (6, _)]) rfl rfl rfl rfl ?_
                      refine K_inc (pc := 108) (i := 67) (q := 6) (lo' := [(0, _), (1, _), (2, _), (3, _), (4, _), (5, _), (6, _)]) rfl rfl rfl rfl rfl ?_
                      refine K_goto 74 (pc := 111) (i := 68) rfl rfl ?_
                      exact ih74 (x5 / 9) (x6 + 1) _ (by omega) hI fx ⟨by omega, trivial, fk100⟩
                exact L74 _ x4 0 _ (Nat.lt_succ_self _) hI fx ⟨by omega, trivial, hV61.2⟩
          exact L61 _ 0 0 _ (Nat.lt_succ_self _) hI fx ⟨by omega, fk55⟩
        · skip
          refine K_iload_n (pc := 26) (i := 16) rfl rfl ?_
          refine K_bipush (pc := 27) (i := 17) rfl rfl ?_
          refine K_imul (pc := 29) (i := 18) rfl ?_
          refine K_ist_n (pc := 30) (i := 19) (lo' := [(0, _), (1, _), (2, _), (3, _)]) rfl rfl rfl rfl ?_
          refine K_aload_n (pc := 31) (i := 20) rfl rfl ?_
          refine K_getR (pc := 32) (i := 21) (j := 20) (d := 196) rfl S_184 rfl (by decide) rfl fw_Model_44 ?_
          refine K_iload_n (pc := 35) (i := 22) rfl rfl ?_
          refine K_bipush (pc := 36) (i := 23) rfl rfl ?_
          refine K_iast (pc := 38) (i := 24) rfl S_196 (by omega) (by omega) (by decide) ?_
          have hI := st_free (c := 196) hI (by decide +kernel) (by decide) (i := (x3).toNat) (v := 9)
          have fx := Fx.st (c := 196) (i := (x3).toNat) (v := 9) fx (by first | (dsimp only; omega) | omega | exact not_false)
          refine K_aload_n (pc := 39) (i := 25) rfl rfl ?_
          refine K_getR (pc := 40) (i := 26) (j := 21) (d := 197) rfl S_184 rfl (by decide) rfl fw_Model_47 ?_
          refine K_iload_n (pc := 43) (i := 27) rfl rfl ?_
          refine K_iconst (pc := 44) (i := 28) rfl ?_
          refine K_iast (pc := 45) (i := 29) rfl S_197 (by omega) (by omega) (by decide) ?_
          have hI := st_free (c := 197) hI (by decide +kernel) (by decide) (i := (x3).toNat) (v := 1)
          have fx := Fx.st (c := 197) (i := (x3).toNat) (v := 1) fx (by first | (dsimp only; omega) | omega | exact not_false)
          refine K_inc (pc := 46) (i := 30) (q := 3) (lo' := [(0, _), (1, _), (2, _), (3, _)]) rfl rfl rfl rfl rfl ?_
          refine K_goto 21 (pc := 49) (i := 31) rfl rfl ?_
          exact ih21 (x2 * 9) (x3 + 1) _ (by omega) hI fx (by omega)
    exact L21 _ 1 0 _ (Nat.lt_succ_self _) hI fx (by omega)
  · skip
    refine K_aload_n (pc := 8) (i := 4) rfl rfl ?_
    refine K_getI (pc := 9) (i := 5) (j := 4) rfl S_184 rfl (by decide) rfl fw_Model_59 ?_
    refine K_nm (fun v9 e9 => ?_)
    have r9 := rd_many hI
    rw [← e9] at r9
    have t9 : v9 = v1 := by rw [e9, e1]; try simp [kU]
    refine K_goto 16 (pc := 12) (i := 6) rfl rfl ?_
    refine K_ist_n (pc := 16) (i := 8) (lo' := [(0, _), (1, _)]) rfl rfl rfl rfl ?_
    refine K_iconst (pc := 17) (i := 9) rfl ?_
    refine K_ist_n (pc := 18) (i := 10) (lo' := [(0, _), (1, _), (2, _)]) rfl rfl rfl rfl ?_
    refine K_iconst (pc := 19) (i := 11) rfl ?_
    refine K_ist_n (pc := 20) (i := 12) (lo' := [(0, _), (1, _), (2, _), (3, _)]) rfl rfl rfl rfl ?_
    have L21 : ∀ (n : Nat) (x2 : Int) (x3 : Int) (ha : kH), (4 - x3).toNat < n → (Gd g ha) → (Fx (fun c i => (c = 187 ∧ 40 ≤ i) ∨ c = 196 ∨ c = 197) h ha) → ((x3 = 0 ∧ x2 = 1) ∨ (x3 = 1 ∧ x2 = 9) ∨ (x3 = 2 ∧ x2 = 81) ∨ (x3 = 3 ∧ x2 = 729) ∨ (x3 = 4 ∧ x2 = 6561)) → K X_Model_layFits G (kZm G 3 (kQi (fun z h' => Fx (fun c i => (c = 187 ∧ 40 ≤ i) ∨ c = 196 ∨ c = 197) h h' ∧ (Gd g h' ∧ kR z)))) 21 [(0, .ref (G.2.2.2 184)), (1, kI v9), (2, kI x2), (3, kI x3)] [] ha := by
      intro n
      induction n with
      | zero => intro x2 x3 ha hm; exact absurd hm (Nat.not_lt_zero _)
      | succ n ih21 =>
        intro x2 x3 ha hm21 hI fx hV21
        refine K_iload_n (pc := 21) (i := 13) rfl rfl ?_
        refine K_iload_n (pc := 22) (i := 14) rfl rfl ?_
        first | refine K_icmp_ge 52 (pc := 23) (i := 15) rfl rfl (by omega) (by omega) (fun b23 => ?_) (fun b23 => ?_) | refine K_icmp_ge_an 52 (pc := 23) (i := 15) rfl rfl (fun b23 => ?_) (fun b23 => ?_)
        · skip
          refine K_iconst (pc := 52) (i := 32) rfl ?_
          refine K_ist_n (pc := 53) (i := 33) (lo' := [(0, _), (1, _), (2, _), (3, _)]) rfl rfl rfl rfl ?_
          have hJ := hI
          refine K_aload_n (pc := 54) (i := 34) rfl rfl ?_
          refine K_cVV (pc := 55) (i := 35) rfl (c_Model_copy G (hI := hI)) S_184 rfl (lv_Model_165 rfl) rfl rfl rfl rfl rfl (fun h55 q55 => ?_)
          obtain ⟨fx55, q55⟩ := q55
          obtain ⟨hI, cp55⟩ := q55
          have fx := fx.tr fx55 (fun c i q => (by first | (dsimp only at q ⊢; omega) | omega))
          have fk55 : FK (kap h55 40) (h55 184 4) := by rw [fx55 184 4 (by first | (dsimp only; omega) | omega | exact not_false)]; exact FK.copy (hJ.2.2.2.2.2 hT).1 (rd_many hJ).2 cp55
          have m55 : h55 184 4 = h 184 4 := fx 184 4 (by first | (dsimp only; omega) | omega | exact not_false)
          rw [m55] at fk55
          refine K_iconst (pc := 58) (i := 36) rfl ?_
          refine K_ist (pc := 59) (i := 37) (lo' := [(0, _), (1, _), (2, _), (3, _), (4, _)]) rfl rfl rfl rfl ?_
          have L61 : ∀ (n : Nat) (x3 : Int) (x4 : Int) (hb : kH), (6561 - x4).toNat < n → (Gd g hb) → (Fx (fun c i => (c = 187 ∧ 40 ≤ i) ∨ c = 196 ∨ c = 197) h hb) → ((0 ≤ x4 ∧ x4 ≤ 6561) ∧ FK (kap hb 40) (h 184 4)) → K X_Model_layFits G (kZm G 3 (kQi (fun z h' => Fx (fun c i => (c = 187 ∧ 40 ≤ i) ∨ c = 196 ∨ c = 197) h h' ∧ (Gd g h' ∧ kR z)))) 61 [(0, .ref (G.2.2.2 184)), (1, kI v9), (2, kI x2), (3, kI x3), (4, kI x4)] [] hb := by
            intro n
            induction n with
            | zero => intro x3 x4 hb hm; exact absurd hm (Nat.not_lt_zero _)
            | succ n ih61 =>
              intro x3 x4 hb hm61 hI fx hV61
              refine K_iload (pc := 61) (i := 38) rfl rfl ?_
              refine K_iload_n (pc := 63) (i := 39) rfl rfl ?_
              first | refine K_icmp_ge 328 (pc := 64) (i := 40) rfl rfl (by omega) (by omega) (fun b64 => ?_) (fun b64 => ?_) | refine K_icmp_ge_an 328 (pc := 64) (i := 40) rfl rfl (fun b64 => ?_) (fun b64 => ?_)
              · skip
                refine K_iload_n (pc := 328) (i := 181) rfl rfl ?_
                refine K_any (fun v329 r329 => ?_)
                exact K_retI (pc := 329) (i := 182) rfl rfl ⟨fx, ⟨hI, by omega⟩⟩
              · skip
                refine K_iload (pc := 67) (i := 41) rfl rfl ?_
                refine K_ist (pc := 69) (i := 42) (lo' := [(0, _), (1, _), (2, _), (3, _), (4, _), (5, _)]) rfl rfl rfl rfl ?_
                refine K_iconst (pc := 71) (i := 43) rfl ?_
                refine K_ist (pc := 72) (i := 44) (lo' := [(0, _), (1, _), (2, _), (3, _), (4, _), (5, _), (6, _)]) rfl rfl rfl rfl ?_
                have L74 : ∀ (n : Nat) (x5 : Int) (x6 : Int) (hc : kH), (4 - x6).toNat < n → (Gd g hc) → (Fx (fun c i => (c = 187 ∧ 40 ≤ i) ∨ c = 196 ∨ c = 197) h hc) → (((0 ≤ x6 ∧ x6 ≤ 4) ∧ 0 ≤ x5 ∧ kR x5) ∧ True ∧ FK (kap hc 40) (h 184 4)) → K X_Model_layFits G (kZm G 3 (kQi (fun z h' => Fx (fun c i => (c = 187 ∧ 40 ≤ i) ∨ c = 196 ∨ c = 197) h h' ∧ (Gd g h' ∧ kR z)))) 74 [(0, .ref (G.2.2.2 184)), (1, kI v9), (2, kI x2), (3, kI x3), (4, kI x4), (5, kI x5), (6, kI x6)] [] hc := by
                  intro n
                  induction n with
                  | zero => intro x5 x6 hc hm; exact absurd hm (Nat.not_lt_zero _)
                  | succ n ih74 =>
                    intro x5 x6 hc hm74 hI fx hV74
                    refine K_iload (pc := 74) (i := 45) rfl rfl ?_
                    refine K_iload_n (pc := 76) (i := 46) rfl rfl ?_
                    first | refine K_icmp_ge 114 (pc := 77) (i := 47) rfl rfl (by omega) (by omega) (fun b77 => ?_) (fun b77 => ?_) | refine K_icmp_ge_an 114 (pc := 77) (i := 47) rfl rfl (fun b77 => ?_) (fun b77 => ?_)
                    · skip
                      refine K_iconst (pc := 114) (i := 69) rfl ?_
                      refine K_ist (pc := 115) (i := 70) (lo' := [(0, _), (1, _), (2, _), (3, _), (4, _), (5, _), (6, _)]) rfl rfl rfl rfl ?_
                      refine K_iconst (pc := 117) (i := 71) rfl ?_
                      refine K_ist (pc := 118) (i := 72) (lo' := [(0, _), (1, _), (2, _), (3, _), (4, _), (5, _), (6, _), (7, _)]) rfl rfl rfl rfl ?_
                      have L120 : ∀ (n : Nat) (x6 : Int) (x7 : Int), (8 - x7).toNat < n → (0 ≤ x7 ∧ x7 ≤ 8) → K X_Model_layFits G (kZm G 3 (kQi (fun z h' => Fx (fun c i => (c = 187 ∧ 40 ≤ i) ∨ c = 196 ∨ c = 197) h h' ∧ (Gd g h' ∧ kR z)))) 120 [(0, .ref (G.2.2.2 184)), (1, kI v9), (2, kI x2), (3, kI x3), (4, kI x4), (5, kI x5), (6, kI x6), (7, kI x7)] [] hc := by
                        intro n
                        induction n with
                        | zero => intro x6 x7 hm; exact absurd hm (Nat.not_lt_zero _)
                        | succ n ih120 =>
                          intro x6 x7 hm120 hV120
                          refine K_iload (pc := 120) (i := 73) rfl rfl ?_
                          refine K_aload_n (pc := 122) (i := 74) rfl rfl ?_
                          refine K_getI (pc := 123) (i := 75) (j := 16) rfl S_184 rfl (by decide) rfl fw_Model_192 ?_
                          refine K_nm (fun v123 e123 => ?_)
                          have r123 := rd_mseen hI
                          rw [← e123] at r123
                          first | refine K_icmp_ge 211 (pc := 126) (i := 76) rfl rfl (by omega) (by omega) (fun b126 => ?_) (fun b126 => ?_) | refine K_icmp_ge_an 211 (pc := 126) (i := 76) rfl rfl (fun b126 => ?_) (fun b126 => ?_)
                          · skip
                            refine K_iload_n (pc := 211) (i := 119) rfl rfl ?_
                            refine K_iload (pc := 212) (i := 120) rfl rfl ?_
                            first | refine K_if_eq 221 (pc := 214) (i := 121) rfl rfl (by omega) (fun b214 => ?_) (fun b214 => ?_) | refine K_if_eq_an 221 (pc := 214) (i := 121) rfl rfl (fun b214 => ?_) (fun b214 => ?_)
                            · skip
                              refine K_iconst (pc := 221) (i := 124) rfl ?_
                              refine K_iadd (pc := 222) (i := 125) rfl ?_
                              refine K_ist_n (pc := 223) (i := 126) (lo' := [(0, _), (1, _), (2, _), (3, _), (4, _), (5, _), (6, _), (7, _)]) rfl rfl rfl rfl ?_
                              refine K_iconst (pc := 224) (i := 127) rfl ?_
                              refine K_ist (pc := 225) (i := 128) (lo' := [(0, _), (1, _), (2, _), (3, _), (4, _), (5, _), (6, _), (7, _)]) rfl rfl rfl rfl ?_
                              have L227 : ∀ (n : Nat) (x7 : Int) (hd : kH), (4 - x7).toNat < n → (Gd g hd) → (Fx (fun c i => (c = 187 ∧ 40 ≤ i) ∨ c = 196 ∨ c = 197) h hd) → ((0 ≤ x7 ∧ x7 ≤ 4) ∧ hd 187 = hc 187) → K X_Model_layFits G (kZm G 3 (kQi (fun z h' => Fx (fun c i => (c = 187 ∧ 40 ≤ i) ∨ c = 196 ∨ c = 197) h h' ∧ (Gd g h' ∧ kR z)))) 227 [(0, .ref (G.2.2.2 184)), (1, kI v9), (2, kI x2), (3, kI (x3 + 0)), (4, kI x4), (5, kI x5), (6, kI x6), (7, kI x7)] [] hd := by
                                intro n
                                induction n with
                                | zero => intro x7 hd hm; exact absurd hm (Nat.not_lt_zero _)
                                | succ n ih227 =>
                                  intro x7 hd hm227 hI fx hV227
                                  refine K_iload (pc := 227) (i := 129) rfl rfl ?_
                                  refine K_iload_n (pc := 229) (i := 130) rfl rfl ?_
                                  first | refine K_icmp_ge 322 (pc := 230) (i := 131) rfl rfl (by omega) (by omega) (fun b230 => ?_) (fun b230 => ?_) | refine K_icmp_ge_an 322 (pc := 230) (i := 131) rfl rfl (fun b230 => ?_) (fun b230 => ?_)
                                  · skip
                                    refine K_inc (pc := 322) (i := 179) (q := 4) (lo' := [(0, _), (1, _), (2, _), (3, _), (4, _), (5, _), (6, _), (7, _)]) rfl rfl rfl rfl rfl ?_
                                    refine K_goto 61 (pc := 325) (i := 180) rfl rfl ?_
                                    refine K_drop (lo' := [(0, .ref (G.2.2.2 184)), (1, kI v9), (2, kI x2), (3, kI (x3 + 0)), (4, kI (x4 + 1))]) [0, 1, 2, 3, 4] rfl ?_
                                    exact ih61 (x3 + 0) (x4 + 1) _ (by omega) hI fx ⟨by omega, by rw [kap_of hV227.2]; exact hV74.2.2⟩
                                  · skip
                                    refine K_iload (pc := 233) (i := 132) rfl rfl ?_
                                    first | refine K_if_eq 322 (pc := 235) (i := 133) rfl rfl (by omega) (fun b235 => ?_) (fun b235 => ?_) | refine K_if_eq_an 322 (pc := 235) (i := 133) rfl rfl (fun b235 => ?_) (fun b235 => ?_)
                                    · skip
                                      refine K_inc (pc := 322) (i := 179) (q := 4) (lo' := [(0, _), (1, _), (2, _), (3, _), (4, _), (5, _), (6, _), (7, _)]) rfl rfl rfl rfl rfl ?_
                                      refine K_goto 61 (pc := 325) (i := 180) rfl rfl ?_
                                      refine K_drop (lo' := [(0, .ref (G.2.2.2 184)), (1, kI v9), (2, kI x2), (3, kI (x3 + 0)), (4, kI (x4 + 1))]) [0, 1, 2, 3, 4] rfl ?_
                                      exact ih61 (x3 + 0) (x4 + 1) _ (by omega) hI fx ⟨by omega, by rw [kap_of hV227.2]; exact hV74.2.2⟩
                                    · skip
                                      refine K_aload_n (pc := 238) (i := 134) rfl rfl ?_
                                      refine K_getR (pc := 239) (i := 135) (j := 3) (d := 187) rfl S_184 rfl (by decide) rfl fw_Model_16 ?_
                                      refine K_bipush (pc := 242) (i := 136) rfl rfl ?_
                                      refine K_iconst (pc := 244) (i := 137) rfl ?_
                                      refine K_iload (pc := 245) (i := 138) rfl rfl ?_
                                      refine K_imul (pc := 247) (i := 139) rfl ?_
                                      refine K_iadd (pc := 248) (i := 140) rfl ?_
                                      refine K_iconst (pc := 249) (i := 141) rfl ?_
                                      refine K_iadd (pc := 250) (i := 142) rfl ?_
                                      refine K_iald (pc := 251) (i := 143) rfl S_187 (by omega) (by omega) (by decide) ?_
                                      refine K_nm (fun v251 e251 => ?_)
                                      have r251 := (rd_mkites hI ((40 + (5 * x7)) + 3).toNat).2.1 (by omega)
                                      rw [← e251] at r251
                                      refine K_ist (pc := 252) (i := 144) (lo' := [(0, _), (1, _), (2, _), (3, _), (4, _), (5, _), (6, _), (7, _), (8, _)]) rfl rfl rfl rfl ?_
                                      refine K_aload_n (pc := 254) (i := 145) rfl rfl ?_
                                      refine K_getR (pc := 255) (i := 146) (j := 20) (d := 196) rfl S_184 rfl (by decide) rfl fw_Model_44 ?_
                                      refine K_iload (pc := 258) (i := 147) rfl rfl ?_
                                      refine K_iload (pc := 260) (i := 148) rfl rfl ?_
                                      refine K_aload_n (pc := 262) (i := 149) rfl rfl ?_
                                      refine K_getR (pc := 263) (i := 150) (j := 20) (d := 196) rfl S_184 rfl (by decide) rfl fw_Model_44 ?_
                                      refine K_iload (pc := 266) (i := 151) rfl rfl ?_
                                      refine K_iald (pc := 268) (i := 152) rfl S_196 (by omega) (by omega) (by decide) ?_
                                      refine K_any (fun v268 r268 => ?_)
                                      first | refine K_icmp_ge 277 (pc := 269) (i := 153) rfl rfl (by omega) (by omega) (fun b269 => ?_) (fun b269 => ?_) | refine K_icmp_ge_an 277 (pc := 269) (i := 153) rfl rfl (fun b269 => ?_) (fun b269 => ?_)
                                      · skip
                                        refine K_aload_n (pc := 277) (i := 156) rfl rfl ?_
                                        refine K_getR (pc := 278) (i := 157) (j := 20) (d := 196) rfl S_184 rfl (by decide) rfl fw_Model_44 ?_
                                        refine K_iload (pc := 281) (i := 158) rfl rfl ?_
                                        refine K_iald (pc := 283) (i := 159) rfl S_196 (by omega) (by omega) (by decide) ?_
                                        refine K_any (fun v283 r283 => ?_)
                                        refine K_iast (pc := 284) (i := 160) rfl S_196 (by omega) (by omega) (by decide) ?_
                                        have hI := st_free (c := 196) hI (by decide +kernel) (by decide) (i := (x7).toNat) (v := v283)
                                        have fx := Fx.st (c := 196) (i := (x7).toNat) (v := v283) fx (by first | (dsimp only; omega) | omega | exact not_false)
                                        refine K_aload_n (pc := 285) (i := 161) rfl rfl ?_
                                        refine K_getR (pc := 286) (i := 162) (j := 21) (d := 197) rfl S_184 rfl (by decide) rfl fw_Model_47 ?_
                                        refine K_iload (pc := 289) (i := 163) rfl rfl ?_
                                        refine K_iload (pc := 291) (i := 164) rfl rfl ?_
                                        refine K_aload_n (pc := 293) (i := 165) rfl rfl ?_
                                        refine K_getR (pc := 294) (i := 166) (j := 21) (d := 197) rfl S_184 rfl (by decide) rfl fw_Model_47 ?_
                                        refine K_iload (pc := 297) (i := 167) rfl rfl ?_
                                        refine K_iald (pc := 299) (i := 168) rfl S_197 (by omega) (by omega) (by decide) ?_
                                        refine K_any (fun v299 r299 => ?_)
                                        first | refine K_icmp_le 308 (pc := 300) (i := 169) rfl rfl (by omega) (by omega) (fun b300 => ?_) (fun b300 => ?_) | refine K_icmp_le_an 308 (pc := 300) (i := 169) rfl rfl (fun b300 => ?_) (fun b300 => ?_)
                                        · skip
                                          refine K_aload_n (pc := 308) (i := 172) rfl rfl ?_
                                          refine K_getR (pc := 309) (i := 173) (j := 21) (d := 197) rfl S_184 rfl (by decide) rfl fw_Model_47 ?_
                                          refine K_iload (pc := 312) (i := 174) rfl rfl ?_
                                          refine K_iald (pc := 314) (i := 175) rfl S_197 (by omega) (by omega) (by decide) ?_
                                          refine K_any (fun v314 r314 => ?_)
                                          refine K_iast (pc := 315) (i := 176) rfl S_197 (by omega) (by omega) (by decide) ?_
                                          have hI := st_free (c := 197) hI (by decide +kernel) (by decide) (i := (x7).toNat) (v := v314)
                                          have fx := Fx.st (c := 197) (i := (x7).toNat) (v := v314) fx (by first | (dsimp only; omega) | omega | exact not_false)
                                          refine K_inc (pc := 316) (i := 177) (q := 7) (lo' := [(0, _), (1, _), (2, _), (3, _), (4, _), (5, _), (6, _), (7, _), (8, _)]) rfl rfl rfl rfl rfl ?_
                                          refine K_goto 227 (pc := 319) (i := 178) rfl rfl ?_
                                          refine K_drop (lo' := [(0, .ref (G.2.2.2 184)), (1, kI v9), (2, kI x2), (3, kI (x3 + 0)), (4, kI x4), (5, kI x5), (6, kI x6), (7, kI (x7 + 1))]) [0, 1, 2, 3, 4, 5, 6, 7] rfl ?_
                                          exact ih227 (x7 + 1) _ (by omega) hI fx ⟨by omega, ((kU_c _ _ _ _ (by decide)).trans (kU_c _ _ _ _ (by decide))).trans hV227.2⟩
                                        · skip
                                          refine K_iload (pc := 303) (i := 170) rfl rfl ?_
                                          refine K_goto 315 (pc := 305) (i := 171) rfl rfl ?_
                                          refine K_iast (pc := 315) (i := 176) rfl S_197 (by omega) (by omega) (by decide) ?_
                                          have hI := st_free (c := 197) hI (by decide +kernel) (by decide) (i := (x7).toNat) (v := v251)
                                          have fx := Fx.st (c := 197) (i := (x7).toNat) (v := v251) fx (by first | (dsimp only; omega) | omega | exact not_false)
                                          refine K_inc (pc := 316) (i := 177) (q := 7) (lo' := [(0, _), (1, _), (2, _), (3, _), (4, _), (5, _), (6, _), (7, _), (8, _)]) rfl rfl rfl rfl rfl ?_
                                          refine K_goto 227 (pc := 319) (i := 178) rfl rfl ?_
                                          refine K_drop (lo' := [(0, .ref (G.2.2.2 184)), (1, kI v9), (2, kI x2), (3, kI (x3 + 0)), (4, kI x4), (5, kI x5), (6, kI x6), (7, kI (x7 + 1))]) [0, 1, 2, 3, 4, 5, 6, 7] rfl ?_
                                          exact ih227 (x7 + 1) _ (by omega) hI fx ⟨by omega, ((kU_c _ _ _ _ (by decide)).trans (kU_c _ _ _ _ (by decide))).trans hV227.2⟩
                                      · skip
                                        refine K_iload (pc := 272) (i := 154) rfl rfl ?_
                                        refine K_goto 284 (pc := 274) (i := 155) rfl rfl ?_
                                        refine K_iast (pc := 284) (i := 160) rfl S_196 (by omega) (by omega) (by decide) ?_
                                        have hI := st_free (c := 196) hI (by decide +kernel) (by decide) (i := (x7).toNat) (v := v251)
                                        have fx := Fx.st (c := 196) (i := (x7).toNat) (v := v251) fx (by first | (dsimp only; omega) | omega | exact not_false)
                                        refine K_aload_n (pc := 285) (i := 161) rfl rfl ?_
                                        refine K_getR (pc := 286) (i := 162) (j := 21) (d := 197) rfl S_184 rfl (by decide) rfl fw_Model_47 ?_
                                        refine K_iload (pc := 289) (i := 163) rfl rfl ?_
                                        refine K_iload (pc := 291) (i := 164) rfl rfl ?_
                                        refine K_aload_n (pc := 293) (i := 165) rfl rfl ?_
                                        refine K_getR (pc := 294) (i := 166) (j := 21) (d := 197) rfl S_184 rfl (by decide) rfl fw_Model_47 ?_
                                        refine K_iload (pc := 297) (i := 167) rfl rfl ?_
                                        refine K_iald (pc := 299) (i := 168) rfl S_197 (by omega) (by omega) (by decide) ?_
                                        refine K_any (fun v299 r299 => ?_)
                                        first | refine K_icmp_le 308 (pc := 300) (i := 169) rfl rfl (by omega) (by omega) (fun b300 => ?_) (fun b300 => ?_) | refine K_icmp_le_an 308 (pc := 300) (i := 169) rfl rfl (fun b300 => ?_) (fun b300 => ?_)
                                        · skip
                                          refine K_aload_n (pc := 308) (i := 172) rfl rfl ?_
                                          refine K_getR (pc := 309) (i := 173) (j := 21) (d := 197) rfl S_184 rfl (by decide) rfl fw_Model_47 ?_
                                          refine K_iload (pc := 312) (i := 174) rfl rfl ?_
                                          refine K_iald (pc := 314) (i := 175) rfl S_197 (by omega) (by omega) (by decide) ?_
                                          refine K_any (fun v314 r314 => ?_)
                                          refine K_iast (pc := 315) (i := 176) rfl S_197 (by omega) (by omega) (by decide) ?_
                                          have hI := st_free (c := 197) hI (by decide +kernel) (by decide) (i := (x7).toNat) (v := v314)
                                          have fx := Fx.st (c := 197) (i := (x7).toNat) (v := v314) fx (by first | (dsimp only; omega) | omega | exact not_false)
                                          refine K_inc (pc := 316) (i := 177) (q := 7) (lo' := [(0, _), (1, _), (2, _), (3, _), (4, _), (5, _), (6, _), (7, _), (8, _)]) rfl rfl rfl rfl rfl ?_
                                          refine K_goto 227 (pc := 319) (i := 178) rfl rfl ?_
                                          refine K_drop (lo' := [(0, .ref (G.2.2.2 184)), (1, kI v9), (2, kI x2), (3, kI (x3 + 0)), (4, kI x4), (5, kI x5), (6, kI x6), (7, kI (x7 + 1))]) [0, 1, 2, 3, 4, 5, 6, 7] rfl ?_
                                          exact ih227 (x7 + 1) _ (by omega) hI fx ⟨by omega, ((kU_c _ _ _ _ (by decide)).trans (kU_c _ _ _ _ (by decide))).trans hV227.2⟩
                                        · skip
                                          refine K_iload (pc := 303) (i := 170) rfl rfl ?_
                                          refine K_goto 315 (pc := 305) (i := 171) rfl rfl ?_
                                          refine K_iast (pc := 315) (i := 176) rfl S_197 (by omega) (by omega) (by decide) ?_
                                          have hI := st_free (c := 197) hI (by decide +kernel) (by decide) (i := (x7).toNat) (v := v251)
                                          have fx := Fx.st (c := 197) (i := (x7).toNat) (v := v251) fx (by first | (dsimp only; omega) | omega | exact not_false)
                                          refine K_inc (pc := 316) (i := 177) (q := 7) (lo' := [(0, _), (1, _), (2, _), (3, _), (4, _), (5, _), (6, _), (7, _), (8, _)]) rfl rfl rfl rfl rfl ?_
                                          refine K_goto 227 (pc := 319) (i := 178) rfl rfl ?_
                                          refine K_drop (lo' := [(0, .ref (G.2.2.2 184)), (1, kI v9), (2, kI x2), (3, kI (x3 + 0)), (4, kI x4), (5, kI x5), (6, kI x6), (7, kI (x7 + 1))]) [0, 1, 2, 3, 4, 5, 6, 7] rfl ?_
                                          exact ih227 (x7 + 1) _ (by omega) hI fx ⟨by omega, ((kU_c _ _ _ _ (by decide)).trans (kU_c _ _ _ _ (by decide))).trans hV227.2⟩
                              exact L227 _ 0 _ (Nat.lt_succ_self _) hI fx ⟨by omega, rfl⟩
                            · skip
                              refine K_iconst (pc := 217) (i := 122) rfl ?_
                              refine K_goto 222 (pc := 218) (i := 123) rfl rfl ?_
                              refine K_iadd (pc := 222) (i := 125) rfl ?_
                              refine K_ist_n (pc := 223) (i := 126) (lo' := [(0, _), (1, _), (2, _), (3, _), (4, _), (5, _), (6, _), (7, _)]) rfl rfl rfl rfl ?_
                              refine K_iconst (pc := 224) (i := 127) rfl ?_
                              refine K_ist (pc := 225) (i := 128) (lo' := [(0, _), (1, _), (2, _), (3, _), (4, _), (5, _), (6, _), (7, _)]) rfl rfl rfl rfl ?_
                              have L227 : ∀ (n : Nat) (x7 : Int) (hd : kH), (4 - x7).toNat < n → (Gd g hd) → (Fx (fun c i => (c = 187 ∧ 40 ≤ i) ∨ c = 196 ∨ c = 197) h hd) → ((0 ≤ x7 ∧ x7 ≤ 4) ∧ hd 187 = hc 187) → K X_Model_layFits G (kZm G 3 (kQi (fun z h' => Fx (fun c i => (c = 187 ∧ 40 ≤ i) ∨ c = 196 ∨ c = 197) h h' ∧ (Gd g h' ∧ kR z)))) 227 [(0, .ref (G.2.2.2 184)), (1, kI v9), (2, kI x2), (3, kI (x3 + 1)), (4, kI x4), (5, kI x5), (6, kI x6), (7, kI x7)] [] hd := by
                                intro n
                                induction n with
                                | zero => intro x7 hd hm; exact absurd hm (Nat.not_lt_zero _)
                                | succ n ih227 =>
                                  intro x7 hd hm227 hI fx hV227
                                  refine K_iload (pc := 227) (i := 129) rfl rfl ?_
                                  refine K_iload_n (pc := 229) (i := 130) rfl rfl ?_
                                  first | refine K_icmp_ge 322 (pc := 230) (i := 131) rfl rfl (by omega) (by omega) (fun b230 => ?_) (fun b230 => ?_) | refine K_icmp_ge_an 322 (pc := 230) (i := 131) rfl rfl (fun b230 => ?_) (fun b230 => ?_)
                                  · skip
                                    refine K_inc (pc := 322) (i := 179) (q := 4) (lo' := [(0, _), (1, _), (2, _), (3, _), (4, _), (5, _), (6, _), (7, _)]) rfl rfl rfl rfl rfl ?_
                                    refine K_goto 61 (pc := 325) (i := 180) rfl rfl ?_
                                    refine K_drop (lo' := [(0, .ref (G.2.2.2 184)), (1, kI v9), (2, kI x2), (3, kI (x3 + 1)), (4, kI (x4 + 1))]) [0, 1, 2, 3, 4] rfl ?_
                                    exact ih61 (x3 + 1) (x4 + 1) _ (by omega) hI fx ⟨by omega, by rw [kap_of hV227.2]; exact hV74.2.2⟩
                                  · skip
                                    refine K_iload (pc := 233) (i := 132) rfl rfl ?_
                                    first | refine K_if_eq 322 (pc := 235) (i := 133) rfl rfl (by omega) (fun b235 => ?_) (fun b235 => ?_) | refine K_if_eq_an 322 (pc := 235) (i := 133) rfl rfl (fun b235 => ?_) (fun b235 => ?_)
                                    · skip
                                      refine K_inc (pc := 322) (i := 179) (q := 4) (lo' := [(0, _), (1, _), (2, _), (3, _), (4, _), (5, _), (6, _), (7, _)]) rfl rfl rfl rfl rfl ?_
                                      refine K_goto 61 (pc := 325) (i := 180) rfl rfl ?_
                                      refine K_drop (lo' := [(0, .ref (G.2.2.2 184)), (1, kI v9), (2, kI x2), (3, kI (x3 + 1)), (4, kI (x4 + 1))]) [0, 1, 2, 3, 4] rfl ?_
                                      exact ih61 (x3 + 1) (x4 + 1) _ (by omega) hI fx ⟨by omega, by rw [kap_of hV227.2]; exact hV74.2.2⟩
                                    · skip
                                      refine K_aload_n (pc := 238) (i := 134) rfl rfl ?_
                                      refine K_getR (pc := 239) (i := 135) (j := 3) (d := 187) rfl S_184 rfl (by decide) rfl fw_Model_16 ?_
                                      refine K_bipush (pc := 242) (i := 136) rfl rfl ?_
                                      refine K_iconst (pc := 244) (i := 137) rfl ?_
                                      refine K_iload (pc := 245) (i := 138) rfl rfl ?_
                                      refine K_imul (pc := 247) (i := 139) rfl ?_
                                      refine K_iadd (pc := 248) (i := 140) rfl ?_
                                      refine K_iconst (pc := 249) (i := 141) rfl ?_
                                      refine K_iadd (pc := 250) (i := 142) rfl ?_
                                      refine K_iald (pc := 251) (i := 143) rfl S_187 (by omega) (by omega) (by decide) ?_
                                      refine K_nm (fun v251 e251 => ?_)
                                      have r251 := (rd_mkites hI ((40 + (5 * x7)) + 3).toNat).2.1 (by omega)
                                      rw [← e251] at r251
                                      refine K_ist (pc := 252) (i := 144) (lo' := [(0, _), (1, _), (2, _), (3, _), (4, _), (5, _), (6, _), (7, _), (8, _)]) rfl rfl rfl rfl ?_
                                      refine K_aload_n (pc := 254) (i := 145) rfl rfl ?_
                                      refine K_getR (pc := 255) (i := 146) (j := 20) (d := 196) rfl S_184 rfl (by decide) rfl fw_Model_44 ?_
                                      refine K_iload (pc := 258) (i := 147) rfl rfl ?_
                                      refine K_iload (pc := 260) (i := 148) rfl rfl ?_
                                      refine K_aload_n (pc := 262) (i := 149) rfl rfl ?_
                                      refine K_getR (pc := 263) (i := 150) (j := 20) (d := 196) rfl S_184 rfl (by decide) rfl fw_Model_44 ?_
                                      refine K_iload (pc := 266) (i := 151) rfl rfl ?_
                                      refine K_iald (pc := 268) (i := 152) rfl S_196 (by omega) (by omega) (by decide) ?_
                                      refine K_any (fun v268 r268 => ?_)
                                      first | refine K_icmp_ge 277 (pc := 269) (i := 153) rfl rfl (by omega) (by omega) (fun b269 => ?_) (fun b269 => ?_) | refine K_icmp_ge_an 277 (pc := 269) (i := 153) rfl rfl (fun b269 => ?_) (fun b269 => ?_)
                                      · skip
                                        refine K_aload_n (pc := 277) (i := 156) rfl rfl ?_
                                        refine K_getR (pc := 278) (i := 157) (j := 20) (d := 196) rfl S_184 rfl (by decide) rfl fw_Model_44 ?_
                                        refine K_iload (pc := 281) (i := 158) rfl rfl ?_
                                        refine K_iald (pc := 283) (i := 159) rfl S_196 (by omega) (by omega) (by decide) ?_
                                        refine K_any (fun v283 r283 => ?_)
                                        refine K_iast (pc := 284) (i := 160) rfl S_196 (by omega) (by omega) (by decide) ?_
                                        have hI := st_free (c := 196) hI (by decide +kernel) (by decide) (i := (x7).toNat) (v := v283)
                                        have fx := Fx.st (c := 196) (i := (x7).toNat) (v := v283) fx (by first | (dsimp only; omega) | omega | exact not_false)
                                        refine K_aload_n (pc := 285) (i := 161) rfl rfl ?_
                                        refine K_getR (pc := 286) (i := 162) (j := 21) (d := 197) rfl S_184 rfl (by decide) rfl fw_Model_47 ?_
                                        refine K_iload (pc := 289) (i := 163) rfl rfl ?_
                                        refine K_iload (pc := 291) (i := 164) rfl rfl ?_
                                        refine K_aload_n (pc := 293) (i := 165) rfl rfl ?_
                                        refine K_getR (pc := 294) (i := 166) (j := 21) (d := 197) rfl S_184 rfl (by decide) rfl fw_Model_47 ?_
                                        refine K_iload (pc := 297) (i := 167) rfl rfl ?_
                                        refine K_iald (pc := 299) (i := 168) rfl S_197 (by omega) (by omega) (by decide) ?_
                                        refine K_any (fun v299 r299 => ?_)
                                        first | refine K_icmp_le 308 (pc := 300) (i := 169) rfl rfl (by omega) (by omega) (fun b300 => ?_) (fun b300 => ?_) | refine K_icmp_le_an 308 (pc := 300) (i := 169) rfl rfl (fun b300 => ?_) (fun b300 => ?_)
                                        · skip
                                          refine K_aload_n (pc := 308) (i := 172) rfl rfl ?_
                                          refine K_getR (pc := 309) (i := 173) (j := 21) (d := 197) rfl S_184 rfl (by decide) rfl fw_Model_47 ?_
                                          refine K_iload (pc := 312) (i := 174) rfl rfl ?_
                                          refine K_iald (pc := 314) (i := 175) rfl S_197 (by omega) (by omega) (by decide) ?_
                                          refine K_any (fun v314 r314 => ?_)
                                          refine K_iast (pc := 315) (i := 176) rfl S_197 (by omega) (by omega) (by decide) ?_
                                          have hI := st_free (c := 197) hI (by decide +kernel) (by decide) (i := (x7).toNat) (v := v314)
                                          have fx := Fx.st (c := 197) (i := (x7).toNat) (v := v314) fx (by first | (dsimp only; omega) | omega | exact not_false)
                                          refine K_inc (pc := 316) (i := 177) (q := 7) (lo' := [(0, _), (1, _), (2, _), (3, _), (4, _), (5, _), (6, _), (7, _), (8, _)]) rfl rfl rfl rfl rfl ?_
                                          refine K_goto 227 (pc := 319) (i := 178) rfl rfl ?_
                                          refine K_drop (lo' := [(0, .ref (G.2.2.2 184)), (1, kI v9), (2, kI x2), (3, kI (x3 + 1)), (4, kI x4), (5, kI x5), (6, kI x6), (7, kI (x7 + 1))]) [0, 1, 2, 3, 4, 5, 6, 7] rfl ?_
                                          exact ih227 (x7 + 1) _ (by omega) hI fx ⟨by omega, ((kU_c _ _ _ _ (by decide)).trans (kU_c _ _ _ _ (by decide))).trans hV227.2⟩
                                        · skip
                                          refine K_iload (pc := 303) (i := 170) rfl rfl ?_
                                          refine K_goto 315 (pc := 305) (i := 171) rfl rfl ?_
                                          refine K_iast (pc := 315) (i := 176) rfl S_197 (by omega) (by omega) (by decide) ?_
                                          have hI := st_free (c := 197) hI (by decide +kernel) (by decide) (i := (x7).toNat) (v := v251)
                                          have fx := Fx.st (c := 197) (i := (x7).toNat) (v := v251) fx (by first | (dsimp only; omega) | omega | exact not_false)
                                          refine K_inc (pc := 316) (i := 177) (q := 7) (lo' := [(0, _), (1, _), (2, _), (3, _), (4, _), (5, _), (6, _), (7, _), (8, _)]) rfl rfl rfl rfl rfl ?_
                                          refine K_goto 227 (pc := 319) (i := 178) rfl rfl ?_
                                          refine K_drop (lo' := [(0, .ref (G.2.2.2 184)), (1, kI v9), (2, kI x2), (3, kI (x3 + 1)), (4, kI x4), (5, kI x5), (6, kI x6), (7, kI (x7 + 1))]) [0, 1, 2, 3, 4, 5, 6, 7] rfl ?_
                                          exact ih227 (x7 + 1) _ (by omega) hI fx ⟨by omega, ((kU_c _ _ _ _ (by decide)).trans (kU_c _ _ _ _ (by decide))).trans hV227.2⟩
                                      · skip
                                        refine K_iload (pc := 272) (i := 154) rfl rfl ?_
                                        refine K_goto 284 (pc := 274) (i := 155) rfl rfl ?_
                                        refine K_iast (pc := 284) (i := 160) rfl S_196 (by omega) (by omega) (by decide) ?_
                                        have hI := st_free (c := 196) hI (by decide +kernel) (by decide) (i := (x7).toNat) (v := v251)
                                        have fx := Fx.st (c := 196) (i := (x7).toNat) (v := v251) fx (by first | (dsimp only; omega) | omega | exact not_false)
                                        refine K_aload_n (pc := 285) (i := 161) rfl rfl ?_
                                        refine K_getR (pc := 286) (i := 162) (j := 21) (d := 197) rfl S_184 rfl (by decide) rfl fw_Model_47 ?_
                                        refine K_iload (pc := 289) (i := 163) rfl rfl ?_
                                        refine K_iload (pc := 291) (i := 164) rfl rfl ?_
                                        refine K_aload_n (pc := 293) (i := 165) rfl rfl ?_
                                        refine K_getR (pc := 294) (i := 166) (j := 21) (d := 197) rfl S_184 rfl (by decide) rfl fw_Model_47 ?_
                                        refine K_iload (pc := 297) (i := 167) rfl rfl ?_
                                        refine K_iald (pc := 299) (i := 168) rfl S_197 (by omega) (by omega) (by decide) ?_
                                        refine K_any (fun v299 r299 => ?_)
                                        first | refine K_icmp_le 308 (pc := 300) (i := 169) rfl rfl (by omega) (by omega) (fun b300 => ?_) (fun b300 => ?_) | refine K_icmp_le_an 308 (pc := 300) (i := 169) rfl rfl (fun b300 => ?_) (fun b300 => ?_)
                                        · skip
                                          refine K_aload_n (pc := 308) (i := 172) rfl rfl ?_
                                          refine K_getR (pc := 309) (i := 173) (j := 21) (d := 197) rfl S_184 rfl (by decide) rfl fw_Model_47 ?_
                                          refine K_iload (pc := 312) (i := 174) rfl rfl ?_
                                          refine K_iald (pc := 314) (i := 175) rfl S_197 (by omega) (by omega) (by decide) ?_
                                          refine K_any (fun v314 r314 => ?_)
                                          refine K_iast (pc := 315) (i := 176) rfl S_197 (by omega) (by omega) (by decide) ?_
                                          have hI := st_free (c := 197) hI (by decide +kernel) (by decide) (i := (x7).toNat) (v := v314)
                                          have fx := Fx.st (c := 197) (i := (x7).toNat) (v := v314) fx (by first | (dsimp only; omega) | omega | exact not_false)
                                          refine K_inc (pc := 316) (i := 177) (q := 7) (lo' := [(0, _), (1, _), (2, _), (3, _), (4, _), (5, _), (6, _), (7, _), (8, _)]) rfl rfl rfl rfl rfl ?_
                                          refine K_goto 227 (pc := 319) (i := 178) rfl rfl ?_
                                          refine K_drop (lo' := [(0, .ref (G.2.2.2 184)), (1, kI v9), (2, kI x2), (3, kI (x3 + 1)), (4, kI x4), (5, kI x5), (6, kI x6), (7, kI (x7 + 1))]) [0, 1, 2, 3, 4, 5, 6, 7] rfl ?_
                                          exact ih227 (x7 + 1) _ (by omega) hI fx ⟨by omega, ((kU_c _ _ _ _ (by decide)).trans (kU_c _ _ _ _ (by decide))).trans hV227.2⟩
                                        · skip
                                          refine K_iload (pc := 303) (i := 170) rfl rfl ?_
                                          refine K_goto 315 (pc := 305) (i := 171) rfl rfl ?_
                                          refine K_iast (pc := 315) (i := 176) rfl S_197 (by omega) (by omega) (by decide) ?_
                                          have hI := st_free (c := 197) hI (by decide +kernel) (by decide) (i := (x7).toNat) (v := v251)
                                          have fx := Fx.st (c := 197) (i := (x7).toNat) (v := v251) fx (by first | (dsimp only; omega) | omega | exact not_false)
                                          refine K_inc (pc := 316) (i := 177) (q := 7) (lo' := [(0, _), (1, _), (2, _), (3, _), (4, _), (5, _), (6, _), (7, _), (8, _)]) rfl rfl rfl rfl rfl ?_
                                          refine K_goto 227 (pc := 319) (i := 178) rfl rfl ?_
                                          refine K_drop (lo' := [(0, .ref (G.2.2.2 184)), (1, kI v9), (2, kI x2), (3, kI (x3 + 1)), (4, kI x4), (5, kI x5), (6, kI x6), (7, kI (x7 + 1))]) [0, 1, 2, 3, 4, 5, 6, 7] rfl ?_
                                          exact ih227 (x7 + 1) _ (by omega) hI fx ⟨by omega, ((kU_c _ _ _ _ (by decide)).trans (kU_c _ _ _ _ (by decide))).trans hV227.2⟩
                              exact L227 _ 0 _ (Nat.lt_succ_self _) hI fx ⟨by omega, rfl⟩
                          · skip
                            refine K_iload (pc := 129) (i := 77) rfl rfl ?_
                            first | refine K_if_eq 211 (pc := 131) (i := 78) rfl rfl (by omega) (fun b131 => ?_) (fun b131 => ?_) | refine K_if_eq_an 211 (pc := 131) (i := 78) rfl rfl (fun b131 => ?_) (fun b131 => ?_)
                            · skip
                              refine K_iload_n (pc := 211) (i := 119) rfl rfl ?_
                              refine K_iload (pc := 212) (i := 120) rfl rfl ?_
                              first | refine K_if_eq 221 (pc := 214) (i := 121) rfl rfl (by omega) (fun b214 => ?_) (fun b214 => ?_) | refine K_if_eq_an 221 (pc := 214) (i := 121) rfl rfl (fun b214 => ?_) (fun b214 => ?_)
                              · skip
                                refine K_iconst (pc := 221) (i := 124) rfl ?_
                                refine K_iadd (pc := 222) (i := 125) rfl ?_
                                refine K_ist_n (pc := 223) (i := 126) (lo' := [(0, _), (1, _), (2, _), (3, _), (4, _), (5, _), (6, _), (7, _)]) rfl rfl rfl rfl ?_
                                refine K_iconst (pc := 224) (i := 127) rfl ?_
                                refine K_ist (pc := 225) (i := 128) (lo' := [(0, _), (1, _), (2, _), (3, _), (4, _), (5, _), (6, _), (7, _)]) rfl rfl rfl rfl ?_
                                have L227 : ∀ (n : Nat) (x7 : Int) (hd : kH), (4 - x7).toNat < n → (Gd g hd) → (Fx (fun c i => (c = 187 ∧ 40 ≤ i) ∨ c = 196 ∨ c = 197) h hd) → ((0 ≤ x7 ∧ x7 ≤ 4) ∧ hd 187 = hc 187) → K X_Model_layFits G (kZm G 3 (kQi (fun z h' => Fx (fun c i => (c = 187 ∧ 40 ≤ i) ∨ c = 196 ∨ c = 197) h h' ∧ (Gd g h' ∧ kR z)))) 227 [(0, .ref (G.2.2.2 184)), (1, kI v9), (2, kI x2), (3, kI (x3 + 0)), (4, kI x4), (5, kI x5), (6, kI x6), (7, kI x7)] [] hd := by
                                  intro n
                                  induction n with
                                  | zero => intro x7 hd hm; exact absurd hm (Nat.not_lt_zero _)
                                  | succ n ih227 =>
                                    intro x7 hd hm227 hI fx hV227
                                    refine K_iload (pc := 227) (i := 129) rfl rfl ?_
                                    refine K_iload_n (pc := 229) (i := 130) rfl rfl ?_
                                    first | refine K_icmp_ge 322 (pc := 230) (i := 131) rfl rfl (by omega) (by omega) (fun b230 => ?_) (fun b230 => ?_) | refine K_icmp_ge_an 322 (pc := 230) (i := 131) rfl rfl (fun b230 => ?_) (fun b230 => ?_)
                                    · skip
                                      refine K_inc (pc := 322) (i := 179) (q := 4) (lo' := [(0, _), (1, _), (2, _), (3, _), (4, _), (5, _), (6, _), (7, _)]) rfl rfl rfl rfl rfl ?_
                                      refine K_goto 61 (pc := 325) (i := 180) rfl rfl ?_
                                      refine K_drop (lo' := [(0, .ref (G.2.2.2 184)), (1, kI v9), (2, kI x2), (3, kI (x3 + 0)), (4, kI (x4 + 1))]) [0, 1, 2, 3, 4] rfl ?_
                                      exact ih61 (x3 + 0) (x4 + 1) _ (by omega) hI fx ⟨by omega, by rw [kap_of hV227.2]; exact hV74.2.2⟩
                                    · skip
                                      refine K_iload (pc := 233) (i := 132) rfl rfl ?_
                                      first | refine K_if_eq 322 (pc := 235) (i := 133) rfl rfl (by omega) (fun b235 => ?_) (fun b235 => ?_) | refine K_if_eq_an 322 (pc := 235) (i := 133) rfl rfl (fun b235 => ?_) (fun b235 => ?_)
                                      · skip
                                        refine K_inc (pc := 322) (i := 179) (q := 4) (lo' := [(0, _), (1, _), (2, _), (3, _), (4, _), (5, _), (6, _), (7, _)]) rfl rfl rfl rfl rfl ?_
                                        refine K_goto 61 (pc := 325) (i := 180) rfl rfl ?_
                                        refine K_drop (lo' := [(0, .ref (G.2.2.2 184)), (1, kI v9), (2, kI x2), (3, kI (x3 + 0)), (4, kI (x4 + 1))]) [0, 1, 2, 3, 4] rfl ?_
                                        exact ih61 (x3 + 0) (x4 + 1) _ (by omega) hI fx ⟨by omega, by rw [kap_of hV227.2]; exact hV74.2.2⟩
                                      · skip
                                        refine K_aload_n (pc := 238) (i := 134) rfl rfl ?_
                                        refine K_getR (pc := 239) (i := 135) (j := 3) (d := 187) rfl S_184 rfl (by decide) rfl fw_Model_16 ?_
                                        refine K_bipush (pc := 242) (i := 136) rfl rfl ?_
                                        refine K_iconst (pc := 244) (i := 137) rfl ?_
                                        refine K_iload (pc := 245) (i := 138) rfl rfl ?_
                                        refine K_imul (pc := 247) (i := 139) rfl ?_
                                        refine K_iadd (pc := 248) (i := 140) rfl ?_
                                        refine K_iconst (pc := 249) (i := 141) rfl ?_
                                        refine K_iadd (pc := 250) (i := 142) rfl ?_
                                        refine K_iald (pc := 251) (i := 143) rfl S_187 (by omega) (by omega) (by decide) ?_
                                        refine K_nm (fun v251 e251 => ?_)
                                        have r251 := (rd_mkites hI ((40 + (5 * x7)) + 3).toNat).2.1 (by omega)
                                        rw [← e251] at r251
                                        refine K_ist (pc := 252) (i := 144) (lo' := [(0, _), (1, _), (2, _), (3, _), (4, _), (5, _), (6, _), (7, _), (8, _)]) rfl rfl rfl rfl ?_
                                        refine K_aload_n (pc := 254) (i := 145) rfl rfl ?_
                                        refine K_getR (pc := 255) (i := 146) (j := 20) (d := 196) rfl S_184 rfl (by decide) rfl fw_Model_44 ?_
                                        refine K_iload (pc := 258) (i := 147) rfl rfl ?_
                                        refine K_iload (pc := 260) (i := 148) rfl rfl ?_
                                        refine K_aload_n (pc := 262) (i := 149) rfl rfl ?_
                                        refine K_getR (pc := 263) (i := 150) (j := 20) (d := 196) rfl S_184 rfl (by decide) rfl fw_Model_44 ?_
                                        refine K_iload (pc := 266) (i := 151) rfl rfl ?_
                                        refine K_iald (pc := 268) (i := 152) rfl S_196 (by omega) (by omega) (by decide) ?_
                                        refine K_any (fun v268 r268 => ?_)
                                        first | refine K_icmp_ge 277 (pc := 269) (i := 153) rfl rfl (by omega) (by omega) (fun b269 => ?_) (fun b269 => ?_) | refine K_icmp_ge_an 277 (pc := 269) (i := 153) rfl rfl (fun b269 => ?_) (fun b269 => ?_)
                                        · skip
                                          refine K_aload_n (pc := 277) (i := 156) rfl rfl ?_
                                          refine K_getR (pc := 278) (i := 157) (j := 20) (d := 196) rfl S_184 rfl (by decide) rfl fw_Model_44 ?_
                                          refine K_iload (pc := 281) (i := 158) rfl rfl ?_
                                          refine K_iald (pc := 283) (i := 159) rfl S_196 (by omega) (by omega) (by decide) ?_
                                          refine K_any (fun v283 r283 => ?_)
                                          refine K_iast (pc := 284) (i := 160) rfl S_196 (by omega) (by omega) (by decide) ?_
                                          have hI := st_free (c := 196) hI (by decide +kernel) (by decide) (i := (x7).toNat) (v := v283)
                                          have fx := Fx.st (c := 196) (i := (x7).toNat) (v := v283) fx (by first | (dsimp only; omega) | omega | exact not_false)
                                          refine K_aload_n (pc := 285) (i := 161) rfl rfl ?_
                                          refine K_getR (pc := 286) (i := 162) (j := 21) (d := 197) rfl S_184 rfl (by decide) rfl fw_Model_47 ?_
                                          refine K_iload (pc := 289) (i := 163) rfl rfl ?_
                                          refine K_iload (pc := 291) (i := 164) rfl rfl ?_
                                          refine K_aload_n (pc := 293) (i := 165) rfl rfl ?_
                                          refine K_getR (pc := 294) (i := 166) (j := 21) (d := 197) rfl S_184 rfl (by decide) rfl fw_Model_47 ?_
                                          refine K_iload (pc := 297) (i := 167) rfl rfl ?_
                                          refine K_iald (pc := 299) (i := 168) rfl S_197 (by omega) (by omega) (by decide) ?_
                                          refine K_any (fun v299 r299 => ?_)
                                          first | refine K_icmp_le 308 (pc := 300) (i := 169) rfl rfl (by omega) (by omega) (fun b300 => ?_) (fun b300 => ?_) | refine K_icmp_le_an 308 (pc := 300) (i := 169) rfl rfl (fun b300 => ?_) (fun b300 => ?_)
                                          · skip
                                            refine K_aload_n (pc := 308) (i := 172) rfl rfl ?_
                                            refine K_getR (pc := 309) (i := 173) (j := 21) (d := 197) rfl S_184 rfl (by decide) rfl fw_Model_47 ?_
                                            refine K_iload (pc := 312) (i := 174) rfl rfl ?_
                                            refine K_iald (pc := 314) (i := 175) rfl S_197 (by omega) (by omega) (by decide) ?_
                                            refine K_any (fun v314 r314 => ?_)
                                            refine K_iast (pc := 315) (i := 176) rfl S_197 (by omega) (by omega) (by decide) ?_
                                            have hI := st_free (c := 197) hI (by decide +kernel) (by decide) (i := (x7).toNat) (v := v314)
                                            have fx := Fx.st (c := 197) (i := (x7).toNat) (v := v314) fx (by first | (dsimp only; omega) | omega | exact not_false)
                                            refine K_inc (pc := 316) (i := 177) (q := 7) (lo' := [(0, _), (1, _), (2, _), (3, _), (4, _), (5, _), (6, _), (7, _), (8, _)]) rfl rfl rfl rfl rfl ?_
                                            refine K_goto 227 (pc := 319) (i := 178) rfl rfl ?_
                                            refine K_drop (lo' := [(0, .ref (G.2.2.2 184)), (1, kI v9), (2, kI x2), (3, kI (x3 + 0)), (4, kI x4), (5, kI x5), (6, kI x6), (7, kI (x7 + 1))]) [0, 1, 2, 3, 4, 5, 6, 7] rfl ?_
                                            exact ih227 (x7 + 1) _ (by omega) hI fx ⟨by omega, ((kU_c _ _ _ _ (by decide)).trans (kU_c _ _ _ _ (by decide))).trans hV227.2⟩
                                          · skip
                                            refine K_iload (pc := 303) (i := 170) rfl rfl ?_
                                            refine K_goto 315 (pc := 305) (i := 171) rfl rfl ?_
                                            refine K_iast (pc := 315) (i := 176) rfl S_197 (by omega) (by omega) (by decide) ?_
                                            have hI := st_free (c := 197) hI (by decide +kernel) (by decide) (i := (x7).toNat) (v := v251)
                                            have fx := Fx.st (c := 197) (i := (x7).toNat) (v := v251) fx (by first | (dsimp only; omega) | omega | exact not_false)
                                            refine K_inc (pc := 316) (i := 177) (q := 7) (lo' := [(0, _), (1, _), (2, _), (3, _), (4, _), (5, _), (6, _), (7, _), (8, _)]) rfl rfl rfl rfl rfl ?_
                                            refine K_goto 227 (pc := 319) (i := 178) rfl rfl ?_
                                            refine K_drop (lo' := [(0, .ref (G.2.2.2 184)), (1, kI v9), (2, kI x2), (3, kI (x3 + 0)), (4, kI x4), (5, kI x5), (6, kI x6), (7, kI (x7 + 1))]) [0, 1, 2, 3, 4, 5, 6, 7] rfl ?_
                                            exact ih227 (x7 + 1) _ (by omega) hI fx ⟨by omega, ((kU_c _ _ _ _ (by decide)).trans (kU_c _ _ _ _ (by decide))).trans hV227.2⟩
                                        · skip
                                          refine K_iload (pc := 272) (i := 154) rfl rfl ?_
                                          refine K_goto 284 (pc := 274) (i := 155) rfl rfl ?_
                                          refine K_iast (pc := 284) (i := 160) rfl S_196 (by omega) (by omega) (by decide) ?_
                                          have hI := st_free (c := 196) hI (by decide +kernel) (by decide) (i := (x7).toNat) (v := v251)
                                          have fx := Fx.st (c := 196) (i := (x7).toNat) (v := v251) fx (by first | (dsimp only; omega) | omega | exact not_false)
                                          refine K_aload_n (pc := 285) (i := 161) rfl rfl ?_
                                          refine K_getR (pc := 286) (i := 162) (j := 21) (d := 197) rfl S_184 rfl (by decide) rfl fw_Model_47 ?_
                                          refine K_iload (pc := 289) (i := 163) rfl rfl ?_
                                          refine K_iload (pc := 291) (i := 164) rfl rfl ?_
                                          refine K_aload_n (pc := 293) (i := 165) rfl rfl ?_
                                          refine K_getR (pc := 294) (i := 166) (j := 21) (d := 197) rfl S_184 rfl (by decide) rfl fw_Model_47 ?_
                                          refine K_iload (pc := 297) (i := 167) rfl rfl ?_
                                          refine K_iald (pc := 299) (i := 168) rfl S_197 (by omega) (by omega) (by decide) ?_
                                          refine K_any (fun v299 r299 => ?_)
                                          first | refine K_icmp_le 308 (pc := 300) (i := 169) rfl rfl (by omega) (by omega) (fun b300 => ?_) (fun b300 => ?_) | refine K_icmp_le_an 308 (pc := 300) (i := 169) rfl rfl (fun b300 => ?_) (fun b300 => ?_)
                                          · skip
                                            refine K_aload_n (pc := 308) (i := 172) rfl rfl ?_
                                            refine K_getR (pc := 309) (i := 173) (j := 21) (d := 197) rfl S_184 rfl (by decide) rfl fw_Model_47 ?_
                                            refine K_iload (pc := 312) (i := 174) rfl rfl ?_
                                            refine K_iald (pc := 314) (i := 175) rfl S_197 (by omega) (by omega) (by decide) ?_
                                            refine K_any (fun v314 r314 => ?_)
                                            refine K_iast (pc := 315) (i := 176) rfl S_197 (by omega) (by omega) (by decide) ?_
                                            have hI := st_free (c := 197) hI (by decide +kernel) (by decide) (i := (x7).toNat) (v := v314)
                                            have fx := Fx.st (c := 197) (i := (x7).toNat) (v := v314) fx (by first | (dsimp only; omega) | omega | exact not_false)
                                            refine K_inc (pc := 316) (i := 177) (q := 7) (lo' := [(0, _), (1, _), (2, _), (3, _), (4, _), (5, _), (6, _), (7, _), (8, _)]) rfl rfl rfl rfl rfl ?_
                                            refine K_goto 227 (pc := 319) (i := 178) rfl rfl ?_
                                            refine K_drop (lo' := [(0, .ref (G.2.2.2 184)), (1, kI v9), (2, kI x2), (3, kI (x3 + 0)), (4, kI x4), (5, kI x5), (6, kI x6), (7, kI (x7 + 1))]) [0, 1, 2, 3, 4, 5, 6, 7] rfl ?_
                                            exact ih227 (x7 + 1) _ (by omega) hI fx ⟨by omega, ((kU_c _ _ _ _ (by decide)).trans (kU_c _ _ _ _ (by decide))).trans hV227.2⟩
                                          · skip
                                            refine K_iload (pc := 303) (i := 170) rfl rfl ?_
                                            refine K_goto 315 (pc := 305) (i := 171) rfl rfl ?_
                                            refine K_iast (pc := 315) (i := 176) rfl S_197 (by omega) (by omega) (by decide) ?_
                                            have hI := st_free (c := 197) hI (by decide +kernel) (by decide) (i := (x7).toNat) (v := v251)
                                            have fx := Fx.st (c := 197) (i := (x7).toNat) (v := v251) fx (by first | (dsimp only; omega) | omega | exact not_false)
                                            refine K_inc (pc := 316) (i := 177) (q := 7) (lo' := [(0, _), (1, _), (2, _), (3, _), (4, _), (5, _), (6, _), (7, _), (8, _)]) rfl rfl rfl rfl rfl ?_
                                            refine K_goto 227 (pc := 319) (i := 178) rfl rfl ?_
                                            refine K_drop (lo' := [(0, .ref (G.2.2.2 184)), (1, kI v9), (2, kI x2), (3, kI (x3 + 0)), (4, kI x4), (5, kI x5), (6, kI x6), (7, kI (x7 + 1))]) [0, 1, 2, 3, 4, 5, 6, 7] rfl ?_
                                            exact ih227 (x7 + 1) _ (by omega) hI fx ⟨by omega, ((kU_c _ _ _ _ (by decide)).trans (kU_c _ _ _ _ (by decide))).trans hV227.2⟩
                                exact L227 _ 0 _ (Nat.lt_succ_self _) hI fx ⟨by omega, rfl⟩
                              · skip
                                refine K_iconst (pc := 217) (i := 122) rfl ?_
                                refine K_goto 222 (pc := 218) (i := 123) rfl rfl ?_
                                refine K_iadd (pc := 222) (i := 125) rfl ?_
                                refine K_ist_n (pc := 223) (i := 126) (lo' := [(0, _), (1, _), (2, _), (3, _), (4, _), (5, _), (6, _), (7, _)]) rfl rfl rfl rfl ?_
                                refine K_iconst (pc := 224) (i := 127) rfl ?_
                                refine K_ist (pc := 225) (i := 128) (lo' := [(0, _), (1, _), (2, _), (3, _), (4, _), (5, _), (6, _), (7, _)]) rfl rfl rfl rfl ?_
                                have L227 : ∀ (n : Nat) (x7 : Int) (hd : kH), (4 - x7).toNat < n → (Gd g hd) → (Fx (fun c i => (c = 187 ∧ 40 ≤ i) ∨ c = 196 ∨ c = 197) h hd) → ((0 ≤ x7 ∧ x7 ≤ 4) ∧ hd 187 = hc 187) → K X_Model_layFits G (kZm G 3 (kQi (fun z h' => Fx (fun c i => (c = 187 ∧ 40 ≤ i) ∨ c = 196 ∨ c = 197) h h' ∧ (Gd g h' ∧ kR z)))) 227 [(0, .ref (G.2.2.2 184)), (1, kI v9), (2, kI x2), (3, kI (x3 + 1)), (4, kI x4), (5, kI x5), (6, kI x6), (7, kI x7)] [] hd := by
                                  intro n
                                  induction n with
                                  | zero => intro x7 hd hm; exact absurd hm (Nat.not_lt_zero _)
                                  | succ n ih227 =>
                                    intro x7 hd hm227 hI fx hV227
                                    refine K_iload (pc := 227) (i := 129) rfl rfl ?_
                                    refine K_iload_n (pc := 229) (i := 130) rfl rfl ?_
                                    first | refine K_icmp_ge 322 (pc := 230) (i := 131) rfl rfl (by omega) (by omega) (fun b230 => ?_) (fun b230 => ?_) | refine K_icmp_ge_an 322 (pc := 230) (i := 131) rfl rfl (fun b230 => ?_) (fun b230 => ?_)
                                    · skip
                                      refine K_inc (pc := 322) (i := 179) (q := 4) (lo' := [(0, _), (1, _), (2, _), (3, _), (4, _), (5, _), (6, _), (7, _)]) rfl rfl rfl rfl rfl ?_
                                      refine K_goto 61 (pc := 325) (i := 180) rfl rfl ?_
                                      refine K_drop (lo' := [(0, .ref (G.2.2.2 184)), (1, kI v9), (2, kI x2), (3, kI (x3 + 1)), (4, kI (x4 + 1))]) [0, 1, 2, 3, 4] rfl ?_
                                      exact ih61 (x3 + 1) (x4 + 1) _ (by omega) hI fx ⟨by omega, by rw [kap_of hV227.2]; exact hV74.2.2⟩
                                    · skip
                                      refine K_iload (pc := 233) (i := 132) rfl rfl ?_
                                      first | refine K_if_eq 322 (pc := 235) (i := 133) rfl rfl (by omega) (fun b235 => ?_) (fun b235 => ?_) | refine K_if_eq_an 322 (pc := 235) (i := 133) rfl rfl (fun b235 => ?_) (fun b235 => ?_)
                                      · skip
                                        refine K_inc (pc := 322) (i := 179) (q := 4) (lo' := [(0, _), (1, _), (2, _), (3, _), (4, _), (5, _), (6, _), (7, _)]) rfl rfl rfl rfl rfl ?_
                                        refine K_goto 61 (pc := 325) (i := 180) rfl rfl ?_
                                        refine K_drop (lo' := [(0, .ref (G.2.2.2 184)), (1, kI v9), (2, kI x2), (3, kI (x3 + 1)), (4, kI (x4 + 1))]) [0, 1, 2, 3, 4] rfl ?_
                                        exact ih61 (x3 + 1) (x4 + 1) _ (by omega) hI fx ⟨by omega, by rw [kap_of hV227.2]; exact hV74.2.2⟩
                                      · skip
                                        refine K_aload_n (pc := 238) (i := 134) rfl rfl ?_
                                        refine K_getR (pc := 239) (i := 135) (j := 3) (d := 187) rfl S_184 rfl (by decide) rfl fw_Model_16 ?_
                                        refine K_bipush (pc := 242) (i := 136) rfl rfl ?_
                                        refine K_iconst (pc := 244) (i := 137) rfl ?_
                                        refine K_iload (pc := 245) (i := 138) rfl rfl ?_
                                        refine K_imul (pc := 247) (i := 139) rfl ?_
                                        refine K_iadd (pc := 248) (i := 140) rfl ?_
                                        refine K_iconst (pc := 249) (i := 141) rfl ?_
                                        refine K_iadd (pc := 250) (i := 142) rfl ?_
                                        refine K_iald (pc := 251) (i := 143) rfl S_187 (by omega) (by omega) (by decide) ?_
                                        refine K_nm (fun v251 e251 => ?_)
                                        have r251 := (rd_mkites hI ((40 + (5 * x7)) + 3).toNat).2.1 (by omega)
                                        rw [← e251] at r251
                                        refine K_ist (pc := 252) (i := 144) (lo' := [(0, _), (1, _), (2, _), (3, _), (4, _), (5, _), (6, _), (7, _), (8, _)]) rfl rfl rfl rfl ?_
                                        refine K_aload_n (pc := 254) (i := 145) rfl rfl ?_
                                        refine K_getR (pc := 255) (i := 146) (j := 20) (d := 196) rfl S_184 rfl (by decide) rfl fw_Model_44 ?_
                                        refine K_iload (pc := 258) (i := 147) rfl rfl ?_
                                        refine K_iload (pc := 260) (i := 148) rfl rfl ?_
                                        refine K_aload_n (pc := 262) (i := 149) rfl rfl ?_
                                        refine K_getR (pc := 263) (i := 150) (j := 20) (d := 196) rfl S_184 rfl (by decide) rfl fw_Model_44 ?_
                                        refine K_iload (pc := 266) (i := 151) rfl rfl ?_
                                        refine K_iald (pc := 268) (i := 152) rfl S_196 (by omega) (by omega) (by decide) ?_
                                        refine K_any (fun v268 r268 => ?_)
                                        first | refine K_icmp_ge 277 (pc := 269) (i := 153) rfl rfl (by omega) (by omega) (fun b269 => ?_) (fun b269 => ?_) | refine K_icmp_ge_an 277 (pc := 269) (i := 153) rfl rfl (fun b269 => ?_) (fun b269 => ?_)
                                        · skip
                                          refine K_aload_n (pc := 277) (i := 156) rfl rfl ?_
                                          refine K_getR (pc := 278) (i := 157) (j := 20) (d := 196) rfl S_184 rfl (by decide) rfl fw_Model_44 ?_
                                          refine K_iload (pc := 281) (i := 158) rfl rfl ?_
                                          refine K_iald (pc := 283) (i := 159) rfl S_196 (by omega) (by omega) (by decide) ?_
                                          refine K_any (fun v283 r283 => ?_)
                                          refine K_iast (pc := 284) (i := 160) rfl S_196 (by omega) (by omega) (by decide) ?_
                                          have hI := st_free (c := 196) hI (by decide +kernel) (by decide) (i := (x7).toNat) (v := v283)
                                          have fx := Fx.st (c := 196) (i := (x7).toNat) (v := v283) fx (by first | (dsimp only; omega) | omega | exact not_false)
                                          refine K_aload_n (pc := 285) (i := 161) rfl rfl ?_
                                          refine K_getR (pc := 286) (i := 162) (j := 21) (d := 197) rfl S_184 rfl (by decide) rfl fw_Model_47 ?_
                                          refine K_iload (pc := 289) (i := 163) rfl rfl ?_
                                          refine K_iload (pc := 291) (i := 164) rfl rfl ?_
                                          refine K_aload_n (pc := 293) (i := 165) rfl rfl ?_
                                          refine K_getR (pc := 294) (i := 166) (j := 21) (d := 197) rfl S_184 rfl (by decide) rfl fw_Model_47 ?_
                                          refine K_iload (pc := 297) (i := 167) rfl rfl ?_
                                          refine K_iald (pc := 299) (i := 168) rfl S_197 (by omega) (by omega) (by decide) ?_
                                          refine K_any (fun v299 r299 => ?_)
                                          first | refine K_icmp_le 308 (pc := 300) (i := 169) rfl rfl (by omega) (by omega) (fun b300 => ?_) (fun b300 => ?_) | refine K_icmp_le_an 308 (pc := 300) (i := 169) rfl rfl (fun b300 => ?_) (fun b300 => ?_)
                                          · skip
                                            refine K_aload_n (pc := 308) (i := 172) rfl rfl ?_
                                            refine K_getR (pc := 309) (i := 173) (j := 21) (d := 197) rfl S_184 rfl (by decide) rfl fw_Model_47 ?_
                                            refine K_iload (pc := 312) (i := 174) rfl rfl ?_
                                            refine K_iald (pc := 314) (i := 175) rfl S_197 (by omega) (by omega) (by decide) ?_
                                            refine K_any (fun v314 r314 => ?_)
                                            refine K_iast (pc := 315) (i := 176) rfl S_197 (by omega) (by omega) (by decide) ?_
                                            have hI := st_free (c := 197) hI (by decide +kernel) (by decide) (i := (x7).toNat) (v := v314)
                                            have fx := Fx.st (c := 197) (i := (x7).toNat) (v := v314) fx (by first | (dsimp only; omega) | omega | exact not_false)
                                            refine K_inc (pc := 316) (i := 177) (q := 7) (lo' := [(0, _), (1, _), (2, _), (3, _), (4, _), (5, _), (6, _), (7, _), (8, _)]) rfl rfl rfl rfl rfl ?_
                                            refine K_goto 227 (pc := 319) (i := 178) rfl rfl ?_
                                            refine K_drop (lo' := [(0, .ref (G.2.2.2 184)), (1, kI v9), (2, kI x2), (3, kI (x3 + 1)), (4, kI x4), (5, kI x5), (6, kI x6), (7, kI (x7 + 1))]) [0, 1, 2, 3, 4, 5, 6, 7] rfl ?_
                                            exact ih227 (x7 + 1) _ (by omega) hI fx ⟨by omega, ((kU_c _ _ _ _ (by decide)).trans (kU_c _ _ _ _ (by decide))).trans hV227.2⟩
                                          · skip
                                            refine K_iload (pc := 303) (i := 170) rfl rfl ?_
                                            refine K_goto 315 (pc := 305) (i := 171) rfl rfl ?_
                                            refine K_iast (pc := 315) (i := 176) rfl S_197 (by omega) (by omega) (by decide) ?_
                                            have hI := st_free (c := 197) hI (by decide +kernel) (by decide) (i := (x7).toNat) (v := v251)
                                            have fx := Fx.st (c := 197) (i := (x7).toNat) (v := v251) fx (by first | (dsimp only; omega) | omega | exact not_false)
                                            refine K_inc (pc := 316) (i := 177) (q := 7) (lo' := [(0, _), (1, _), (2, _), (3, _), (4, _), (5, _), (6, _), (7, _), (8, _)]) rfl rfl rfl rfl rfl ?_
                                            refine K_goto 227 (pc := 319) (i := 178) rfl rfl ?_
                                            refine K_drop (lo' := [(0, .ref (G.2.2.2 184)), (1, kI v9), (2, kI x2), (3, kI (x3 + 1)), (4, kI x4), (5, kI x5), (6, kI x6), (7, kI (x7 + 1))]) [0, 1, 2, 3, 4, 5, 6, 7] rfl ?_
                                            exact ih227 (x7 + 1) _ (by omega) hI fx ⟨by omega, ((kU_c _ _ _ _ (by decide)).trans (kU_c _ _ _ _ (by decide))).trans hV227.2⟩
                                        · skip
                                          refine K_iload (pc := 272) (i := 154) rfl rfl ?_
                                          refine K_goto 284 (pc := 274) (i := 155) rfl rfl ?_
                                          refine K_iast (pc := 284) (i := 160) rfl S_196 (by omega) (by omega) (by decide) ?_
                                          have hI := st_free (c := 196) hI (by decide +kernel) (by decide) (i := (x7).toNat) (v := v251)
                                          have fx := Fx.st (c := 196) (i := (x7).toNat) (v := v251) fx (by first | (dsimp only; omega) | omega | exact not_false)
                                          refine K_aload_n (pc := 285) (i := 161) rfl rfl ?_
                                          refine K_getR (pc := 286) (i := 162) (j := 21) (d := 197) rfl S_184 rfl (by decide) rfl fw_Model_47 ?_
                                          refine K_iload (pc := 289) (i := 163) rfl rfl ?_
                                          refine K_iload (pc := 291) (i := 164) rfl rfl ?_
                                          refine K_aload_n (pc := 293) (i := 165) rfl rfl ?_
                                          refine K_getR (pc := 294) (i := 166) (j := 21) (d := 197) rfl S_184 rfl (by decide) rfl fw_Model_47 ?_
                                          refine K_iload (pc := 297) (i := 167) rfl rfl ?_
                                          refine K_iald (pc := 299) (i := 168) rfl S_197 (by omega) (by omega) (by decide) ?_
                                          refine K_any (fun v299 r299 => ?_)
                                          first | refine K_icmp_le 308 (pc := 300) (i := 169) rfl rfl (by omega) (by omega) (fun b300 => ?_) (fun b300 => ?_) | refine K_icmp_le_an 308 (pc := 300) (i := 169) rfl rfl (fun b300 => ?_) (fun b300 => ?_)
                                          · skip
                                            refine K_aload_n (pc := 308) (i := 172) rfl rfl ?_
                                            refine K_getR (pc := 309) (i := 173) (j := 21) (d := 197) rfl S_184 rfl (by decide) rfl fw_Model_47 ?_
                                            refine K_iload (pc := 312) (i := 174) rfl rfl ?_
                                            refine K_iald (pc := 314) (i := 175) rfl S_197 (by omega) (by omega) (by decide) ?_
                                            refine K_any (fun v314 r314 => ?_)
                                            refine K_iast (pc := 315) (i := 176) rfl S_197 (by omega) (by omega) (by decide) ?_
                                            have hI := st_free (c := 197) hI (by decide +kernel) (by decide) (i := (x7).toNat) (v := v314)
                                            have fx := Fx.st (c := 197) (i := (x7).toNat) (v := v314) fx (by first | (dsimp only; omega) | omega | exact not_false)
                                            refine K_inc (pc := 316) (i := 177) (q := 7) (lo' := [(0, _), (1, _), (2, _), (3, _), (4, _), (5, _), (6, _), (7, _), (8, _)]) rfl rfl rfl rfl rfl ?_
                                            refine K_goto 227 (pc := 319) (i := 178) rfl rfl ?_
                                            refine K_drop (lo' := [(0, .ref (G.2.2.2 184)), (1, kI v9), (2, kI x2), (3, kI (x3 + 1)), (4, kI x4), (5, kI x5), (6, kI x6), (7, kI (x7 + 1))]) [0, 1, 2, 3, 4, 5, 6, 7] rfl ?_
                                            exact ih227 (x7 + 1) _ (by omega) hI fx ⟨by omega, ((kU_c _ _ _ _ (by decide)).trans (kU_c _ _ _ _ (by decide))).trans hV227.2⟩
                                          · skip
                                            refine K_iload (pc := 303) (i := 170) rfl rfl ?_
                                            refine K_goto 315 (pc := 305) (i := 171) rfl rfl ?_
                                            refine K_iast (pc := 315) (i := 176) rfl S_197 (by omega) (by omega) (by decide) ?_
                                            have hI := st_free (c := 197) hI (by decide +kernel) (by decide) (i := (x7).toNat) (v := v251)
                                            have fx := Fx.st (c := 197) (i := (x7).toNat) (v := v251) fx (by first | (dsimp only; omega) | omega | exact not_false)
                                            refine K_inc (pc := 316) (i := 177) (q := 7) (lo' := [(0, _), (1, _), (2, _), (3, _), (4, _), (5, _), (6, _), (7, _), (8, _)]) rfl rfl rfl rfl rfl ?_
                                            refine K_goto 227 (pc := 319) (i := 178) rfl rfl ?_
                                            refine K_drop (lo' := [(0, .ref (G.2.2.2 184)), (1, kI v9), (2, kI x2), (3, kI (x3 + 1)), (4, kI x4), (5, kI x5), (6, kI x6), (7, kI (x7 + 1))]) [0, 1, 2, 3, 4, 5, 6, 7] rfl ?_
                                            exact ih227 (x7 + 1) _ (by omega) hI fx ⟨by omega, ((kU_c _ _ _ _ (by decide)).trans (kU_c _ _ _ _ (by decide))).trans hV227.2⟩
                                exact L227 _ 0 _ (Nat.lt_succ_self _) hI fx ⟨by omega, rfl⟩
                            · skip
                              refine K_aload_n (pc := 134) (i := 79) rfl rfl ?_
                              refine K_getR (pc := 135) (i := 80) (j := 17) (d := 193) rfl S_184 rfl (by decide) rfl fw_Model_34 ?_
                              refine K_iload (pc := 138) (i := 81) rfl rfl ?_
                              refine K_iald (pc := 140) (i := 82) rfl S_193 (by omega) (by omega) (by decide) ?_
                              refine K_nm (fun v140 e140 => ?_)
                              have r140 := rd_mseenone hI (x7).toNat
                              rw [← e140] at r140
                              refine K_iload_n (pc := 141) (i := 83) rfl rfl ?_
                              first | refine K_icmp_ge 160 (pc := 142) (i := 84) rfl rfl (by omega) (by omega) (fun b142 => ?_) (fun b142 => ?_) | refine K_icmp_ge_an 160 (pc := 142) (i := 84) rfl rfl (fun b142 => ?_) (fun b142 => ?_)
                              · skip
                                refine K_iconst (pc := 160) (i := 93) rfl ?_
                                refine K_ist (pc := 161) (i := 94) (lo' := [(0, _), (1, _), (2, _), (3, _), (4, _), (5, _), (6, _), (7, _), (8, _)]) rfl rfl rfl rfl ?_
                                refine K_iload (pc := 163) (i := 95) rfl rfl ?_
                                refine K_if_eq 198 (pc := 165) (i := 96) rfl rfl (by omega) (fun _ => ?_) (fun b165 => False.elim (by omega))
                                refine K_iconst (pc := 198) (i := 113) rfl ?_
                                refine K_goto 203 (pc := 199) (i := 114) rfl rfl ?_
                                refine K_ist (pc := 203) (i := 116) (lo' := [(0, _), (1, _), (2, _), (3, _), (4, _), (5, _), (6, _), (7, _), (8, _)]) rfl rfl rfl rfl ?_
                                refine K_inc (pc := 205) (i := 117) (q := 7) (lo' := [(0, _), (1, _), (2, _), (3, _), (4, _), (5, _), (6, _), (7, _), (8, _)]) rfl rfl rfl rfl rfl ?_
                                refine K_goto 120 (pc := 208) (i := 118) rfl rfl ?_
                                refine K_drop (lo' := [(0, .ref (G.2.2.2 184)), (1, kI v9), (2, kI x2), (3, kI x3), (4, kI x4), (5, kI x5), (6, kI 1), (7, kI (x7 + 1))]) [0, 1, 2, 3, 4, 5, 6, 7] rfl ?_
                                exact ih120 1 (x7 + 1) (by omega) (by omega)
                              · skip
                                refine K_aload_n (pc := 145) (i := 85) rfl rfl ?_
                                refine K_getR (pc := 146) (i := 86) (j := 18) (d := 194) rfl S_184 rfl (by decide) rfl fw_Model_37 ?_
                                refine K_iload (pc := 149) (i := 87) rfl rfl ?_
                                refine K_iald (pc := 151) (i := 88) rfl S_194 (by omega) (by omega) (by decide) ?_
                                refine K_nm (fun v151 e151 => ?_)
                                have r151 := rd_mseenother hI (x7).toNat
                                rw [← e151] at r151
                                refine K_iload_n (pc := 152) (i := 89) rfl rfl ?_
                                first | refine K_icmp_ge 160 (pc := 153) (i := 90) rfl rfl (by omega) (by omega) (fun b153 => ?_) (fun b153 => ?_) | refine K_icmp_ge_an 160 (pc := 153) (i := 90) rfl rfl (fun b153 => ?_) (fun b153 => ?_)
                                · skip
                                  refine K_iconst (pc := 160) (i := 93) rfl ?_
                                  refine K_ist (pc := 161) (i := 94) (lo' := [(0, _), (1, _), (2, _), (3, _), (4, _), (5, _), (6, _), (7, _), (8, _)]) rfl rfl rfl rfl ?_
                                  refine K_iload (pc := 163) (i := 95) rfl rfl ?_
                                  refine K_if_eq 198 (pc := 165) (i := 96) rfl rfl (by omega) (fun _ => ?_) (fun b165 => False.elim (by omega))
                                  refine K_iconst (pc := 198) (i := 113) rfl ?_
                                  refine K_goto 203 (pc := 199) (i := 114) rfl rfl ?_
                                  refine K_ist (pc := 203) (i := 116) (lo' := [(0, _), (1, _), (2, _), (3, _), (4, _), (5, _), (6, _), (7, _), (8, _)]) rfl rfl rfl rfl ?_
                                  refine K_inc (pc := 205) (i := 117) (q := 7) (lo' := [(0, _), (1, _), (2, _), (3, _), (4, _), (5, _), (6, _), (7, _), (8, _)]) rfl rfl rfl rfl rfl ?_
                                  refine K_goto 120 (pc := 208) (i := 118) rfl rfl ?_
                                  refine K_drop (lo' := [(0, .ref (G.2.2.2 184)), (1, kI v9), (2, kI x2), (3, kI x3), (4, kI x4), (5, kI x5), (6, kI 1), (7, kI (x7 + 1))]) [0, 1, 2, 3, 4, 5, 6, 7] rfl ?_
                                  exact ih120 1 (x7 + 1) (by omega) (by omega)
                                · skip
                                  refine K_iconst (pc := 156) (i := 91) rfl ?_
                                  refine K_goto 161 (pc := 157) (i := 92) rfl rfl ?_
                                  refine K_ist (pc := 161) (i := 94) (lo' := [(0, _), (1, _), (2, _), (3, _), (4, _), (5, _), (6, _), (7, _), (8, _)]) rfl rfl rfl rfl ?_
                                  refine K_iload (pc := 163) (i := 95) rfl rfl ?_
                                  refine K_if_eq 198 (pc := 165) (i := 96) rfl rfl (by omega) (fun b165 => False.elim (by omega)) (fun _ => ?_)
                                  refine K_aload_n (pc := 168) (i := 97) rfl rfl ?_
                                  refine K_bipush (pc := 169) (i := 98) rfl rfl ?_
                                  refine K_aload_n (pc := 171) (i := 99) rfl rfl ?_
                                  refine K_getR (pc := 172) (i := 100) (j := 17) (d := 193) rfl S_184 rfl (by decide) rfl fw_Model_34 ?_
                                  refine K_iload (pc := 175) (i := 101) rfl rfl ?_
                                  refine K_iald (pc := 177) (i := 102) rfl S_193 (by omega) (by omega) (by decide) ?_
                                  refine K_nm (fun v177 e177 => ?_)
                                  have r177 := rd_mseenone hI (x7).toNat
                                  rw [← e177] at r177
                                  refine K_aload_n (pc := 178) (i := 103) rfl rfl ?_
                                  refine K_getR (pc := 179) (i := 104) (j := 18) (d := 194) rfl S_184 rfl (by decide) rfl fw_Model_37 ?_
                                  refine K_iload (pc := 182) (i := 105) rfl rfl ?_
                                  refine K_iald (pc := 184) (i := 106) rfl S_194 (by omega) (by omega) (by decide) ?_
                                  refine K_nm (fun v184 e184 => ?_)
                                  have r184 := rd_mseenother hI (x7).toNat
                                  rw [← e184] at r184
                                  refine K_cVI (pc := 185) (i := 107) rfl (c_Model_doCross G (x1 := 40) (x2 := v177) (x3 := v184) (hk := hV74.2.2) (hI := hI) (hn := by omega) (s1 := by omega) (s2 := by omega) (s3 := by omega)) S_184 rfl (lv_Model_137 rfl) rfl rfl rfl rfl rfl (fun v185 h185 q185 => ?_)
                                  obtain ⟨eh, r185⟩ := q185
                                  rw [eh]; clear eh
                                  refine K_aload_n (pc := 188) (i := 108) rfl rfl ?_
                                  refine K_getR (pc := 189) (i := 109) (j := 19) (d := 195) rfl S_184 rfl (by decide) rfl fw_Model_40 ?_
                                  refine K_iload (pc := 192) (i := 110) rfl rfl ?_
                                  refine K_bald (pc := 194) (i := 111) rfl S_195 (by omega) (by omega) (by decide) ?_
                                  refine K_nm (fun v194 e194 => ?_)
                                  have r194 := rd_seenCross hI (x7).toNat
                                  rw [← e194] at r194
                                  first | refine K_icmp_ne 202 (pc := 195) (i := 112) rfl rfl (by omega) (by omega) (fun b195 => ?_) (fun b195 => ?_) | refine K_icmp_ne_an 202 (pc := 195) (i := 112) rfl rfl (fun b195 => ?_) (fun b195 => ?_)
                                  · skip
                                    refine K_iconst (pc := 202) (i := 115) rfl ?_
                                    refine K_ist (pc := 203) (i := 116) (lo' := [(0, _), (1, _), (2, _), (3, _), (4, _), (5, _), (6, _), (7, _), (8, _)]) rfl rfl rfl rfl ?_
                                    refine K_inc (pc := 205) (i := 117) (q := 7) (lo' := [(0, _), (1, _), (2, _), (3, _), (4, _), (5, _), (6, _), (7, _), (8, _)]) rfl rfl rfl rfl rfl ?_
                                    refine K_goto 120 (pc := 208) (i := 118) rfl rfl ?_
                                    refine K_drop (lo' := [(0, .ref (G.2.2.2 184)), (1, kI v9), (2, kI x2), (3, kI x3), (4, kI x4), (5, kI x5), (6, kI 0), (7, kI (x7 + 1))]) [0, 1, 2, 3, 4, 5, 6, 7] rfl ?_
                                    exact ih120 0 (x7 + 1) (by omega) (by omega)
                                  · skip
                                    refine K_iconst (pc := 198) (i := 113) rfl ?_
                                    refine K_goto 203 (pc := 199) (i := 114) rfl rfl ?_
                                    refine K_ist (pc := 203) (i := 116) (lo' := [(0, _), (1, _), (2, _), (3, _), (4, _), (5, _), (6, _), (7, _), (8, _)]) rfl rfl rfl rfl ?_
                                    refine K_inc (pc := 205) (i := 117) (q := 7) (lo' := [(0, _), (1, _), (2, _), (3, _), (4, _), (5, _), (6, _), (7, _), (8, _)]) rfl rfl rfl rfl rfl ?_
                                    refine K_goto 120 (pc := 208) (i := 118) rfl rfl ?_
                                    refine K_drop (lo' := [(0, .ref (G.2.2.2 184)), (1, kI v9), (2, kI x2), (3, kI x3), (4, kI x4), (5, kI x5), (6, kI 1), (7, kI (x7 + 1))]) [0, 1, 2, 3, 4, 5, 6, 7] rfl ?_
                                    exact ih120 1 (x7 + 1) (by omega) (by omega)
                      exact L120 _ 1 0 (Nat.lt_succ_self _) (by omega)
                    · skip
                      refine K_aload_n (pc := 80) (i := 48) rfl rfl ?_
                      refine K_getR (pc := 81) (i := 49) (j := 3) (d := 187) rfl S_184 rfl (by decide) rfl fw_Model_16 ?_
                      refine K_bipush (pc := 84) (i := 50) rfl rfl ?_
                      refine K_iconst (pc := 86) (i := 51) rfl ?_
                      refine K_iload (pc := 87) (i := 52) rfl rfl ?_
                      refine K_imul (pc := 89) (i := 53) rfl ?_
                      refine K_iadd (pc := 90) (i := 54) rfl ?_
                      refine K_iconst (pc := 91) (i := 55) rfl ?_
                      refine K_iadd (pc := 92) (i := 56) rfl ?_
                      refine K_iconst (pc := 93) (i := 57) rfl ?_
                      refine K_iload (pc := 94) (i := 58) rfl rfl ?_
                      refine K_bipush (pc := 96) (i := 59) rfl rfl ?_
                      refine K_irem (pc := 98) (i := 60) rfl (by omega) (by omega) ?_
                      refine K_eq (kRem_eq (by omega) (by omega) (by omega) (by omega)) ?_
                      refine K_iadd (pc := 99) (i := 61) rfl ?_
                      refine K_iast (pc := 100) (i := 62) rfl S_187 (by omega) (by omega) (by decide) ?_
                      have hI := st_mkites hI (i := ((40 + (5 * x6)) + 3).toNat) (v := 1 + (x5 % 9)) (by unfold bK; omega) (fun _ a => a.hi (rd_many hI).2 (by omega))
                      have fx := Fx.st (c := 187) (i := ((40 + (5 * x6)) + 3).toNat) (v := 1 + (x5 % 9)) fx (by first | (dsimp only; omega) | omega | exact not_false)
                      have fk100 := FK.kH (o := 40) (i := ((40 + (5 * x6)) + 3).toNat) (v := 1 + (x5 % 9)) hV74.2.2 x6.toNat (by omega) (by omega)
                      refine K_iload (pc := 101) (i := 63) rfl rfl ?_
                      refine K_bipush (pc := 103) (i := 64) rfl rfl ?_
                      refine K_idiv (pc := 105) (i := 65) rfl (by omega) (by omega) ?_
                      refine K_eq (kDiv_eq (by omega) (by omega) (by omega) (by omega)) ?_
                      refine K_ist (pc := 106) (i := 66) (lo' := [(0, _), (1, _), (2, _), (3, _), (4, _), (5, _), (6, _)]) rfl rfl rfl rfl ?_
                      refine K_inc (pc := 108) (i := 67) (q := 6) (lo' := [(0, _), (1, _), (2, _), (3, _), (4, _), (5, _), (6, _)]) rfl rfl rfl rfl rfl ?_
                      refine K_goto 74 (pc := 111) (i := 68) rfl rfl ?_
                      exact ih74 (x5 / 9) (x6 + 1) _ (by omega) hI fx ⟨by omega, trivial, fk100⟩
                exact L74 _ x4 0 _ (Nat.lt_succ_self _) hI fx ⟨by omega, trivial, hV61.2⟩
          exact L61 _ 0 0 _ (Nat.lt_succ_self _) hI fx ⟨by omega, fk55⟩
        · skip
          refine K_iload_n (pc := 26) (i := 16) rfl rfl ?_
          refine K_bipush (pc := 27) (i := 17) rfl rfl ?_
          refine K_imul (pc := 29) (i := 18) rfl ?_
          refine K_ist_n (pc := 30) (i := 19) (lo' := [(0, _), (1, _), (2, _), (3, _)]) rfl rfl rfl rfl ?_
          refine K_aload_n (pc := 31) (i := 20) rfl rfl ?_
          refine K_getR (pc := 32) (i := 21) (j := 20) (d := 196) rfl S_184 rfl (by decide) rfl fw_Model_44 ?_
          refine K_iload_n (pc := 35) (i := 22) rfl rfl ?_
          refine K_bipush (pc := 36) (i := 23) rfl rfl ?_
          refine K_iast (pc := 38) (i := 24) rfl S_196 (by omega) (by omega) (by decide) ?_
          have hI := st_free (c := 196) hI (by decide +kernel) (by decide) (i := (x3).toNat) (v := 9)
          have fx := Fx.st (c := 196) (i := (x3).toNat) (v := 9) fx (by first | (dsimp only; omega) | omega | exact not_false)
          refine K_aload_n (pc := 39) (i := 25) rfl rfl ?_
          refine K_getR (pc := 40) (i := 26) (j := 21) (d := 197) rfl S_184 rfl (by decide) rfl fw_Model_47 ?_
          refine K_iload_n (pc := 43) (i := 27) rfl rfl ?_
          refine K_iconst (pc := 44) (i := 28) rfl ?_
          refine K_iast (pc := 45) (i := 29) rfl S_197 (by omega) (by omega) (by decide) ?_
          have hI := st_free (c := 197) hI (by decide +kernel) (by decide) (i := (x3).toNat) (v := 1)
          have fx := Fx.st (c := 197) (i := (x3).toNat) (v := 1) fx (by first | (dsimp only; omega) | omega | exact not_false)
          refine K_inc (pc := 46) (i := 30) (q := 3) (lo' := [(0, _), (1, _), (2, _), (3, _)]) rfl rfl rfl rfl rfl ?_
          refine K_goto 21 (pc := 49) (i := 31) rfl rfl ?_
          exact ih21 (x2 * 9) (x3 + 1) _ (by omega) hI fx (by omega)
    exact L21 _ 1 0 _ (Nat.lt_succ_self _) hI fx (by omega)
set_option maxHeartbeats 4000000 in
set_option maxRecDepth 100000 in
theorem c_Model_fits (G : kG) {g : kGh} {h : kH}  (hT : g.2.2.2.2) (hI : Gd g h) : Ctr G y_Model_fits X_Model_fits 13 [.ref (G.2.2.2 184)] h (kQi (fun z h' => Fx (fun c i => (c = 187 ∧ 40 ≤ i) ∨ c = 196 ∨ c = 197) h h' ∧ (Gd g h' ∧ True))) := by
  refine Ctr.ofK (by decide) rfl T_Model_fits (Nat.le_of_ble_eq_true rfl) (lo := [(0, .ref (G.2.2.2 184))]) rfl ?_
  have fx : Fx (fun c i => (c = 187 ∧ 40 ≤ i) ∨ c = 196 ∨ c = 197) h h := Fx.rf
  refine K_aload_n (pc := 0) (i := 0) rfl rfl ?_
  refine K_cVI (pc := 1) (i := 1) rfl (c_Model_layFits G (hT := hT) (hI := hI)) S_184 rfl (lv_Model_195 rfl) rfl rfl rfl rfl rfl (fun v1 h1 q1 => ?_)
  obtain ⟨fx1, q1⟩ := q1
  obtain ⟨hI, r1⟩ := q1
  have fx := fx.tr fx1 (fun c i q => (by first | (dsimp only at q ⊢; omega) | omega))
  exact K_retI (pc := 4) (i := 2) rfl rfl ⟨fx, ⟨hI, trivial⟩⟩
set_option maxHeartbeats 4000000 in
set_option maxRecDepth 100000 in
theorem c_Model_height (G : kG) {g : kGh} {h : kH}  (hT : g.2.2.2.2){x1 : Int} {x2 : Int} (s1 : kR x1) (s2 : kR x2) (hI : Gd g h) : Ctr G y_Model_height X_Model_height 13 [.ref (G.2.2.2 184), kI x1, kI x2] h (kQi (fun z h' => Fx (fun c i => (c = 187 ∧ 40 ≤ i) ∨ c = 196 ∨ c = 197) h h' ∧ (Gd g h' ∧ True))) := by
  refine Ctr.ofK (by decide) rfl T_Model_height (Nat.le_of_ble_eq_true rfl) (lo := [(0, .ref (G.2.2.2 184)), (1, kI x1), (2, kI x2)]) rfl ?_
  have fx : Fx (fun c i => (c = 187 ∧ 40 ≤ i) ∨ c = 196 ∨ c = 197) h h := Fx.rf
  refine K_aload_n (pc := 0) (i := 0) rfl rfl ?_
  refine K_iload_n (pc := 1) (i := 1) rfl rfl ?_
  refine K_cVI (pc := 2) (i := 2) rfl (c_Model_isKite G (x1 := x1) (hI := hI) (s1 := by omega)) S_184 rfl (lv_Model_102 rfl) rfl rfl rfl rfl rfl (fun v2 h2 q2 => ?_)
  obtain ⟨eh, r2⟩ := q2
  rw [eh]; clear eh
  first | refine K_if_eq 13 (pc := 5) (i := 3) rfl rfl (by omega) (fun b5 => ?_) (fun b5 => ?_) | refine K_if_eq_an 13 (pc := 5) (i := 3) rfl rfl (fun b5 => ?_) (fun b5 => ?_)
  · skip
    refine K_iconst (pc := 13) (i := 7) rfl ?_
    exact K_retI (pc := 14) (i := 8) rfl rfl ⟨fx, ⟨hI, trivial⟩⟩
  · skip
    refine K_iload_n (pc := 8) (i := 4) rfl rfl ?_
    refine K_iconst (pc := 9) (i := 5) rfl ?_
    first | refine K_icmp_le 15 (pc := 10) (i := 6) rfl rfl (by omega) (by omega) (fun b10 => ?_) (fun b10 => ?_) | refine K_icmp_le_an 15 (pc := 10) (i := 6) rfl rfl (fun b10 => ?_) (fun b10 => ?_)
    · skip
      refine K_aload_n (pc := 15) (i := 9) rfl rfl ?_
      refine K_cVI (pc := 16) (i := 10) rfl (c_Model_layFits G (hT := hT) (hI := hI)) S_184 rfl (lv_Model_195 rfl) rfl rfl rfl rfl rfl (fun v16 h16 q16 => ?_)
      obtain ⟨fx16, q16⟩ := q16
      obtain ⟨hI, r16⟩ := q16
      have fx := fx.tr fx16 (fun c i q => (by first | (dsimp only at q ⊢; omega) | omega))
      first | refine K_if_ne 27 (pc := 19) (i := 11) rfl rfl (by omega) (fun b19 => ?_) (fun b19 => ?_) | refine K_if_ne_an 27 (pc := 19) (i := 11) rfl rfl (fun b19 => ?_) (fun b19 => ?_)
      · skip
        refine K_iload_n (pc := 27) (i := 14) rfl rfl ?_
        first | refine K_if_eq 40 (pc := 28) (i := 15) rfl rfl (by omega) (fun b28 => ?_) (fun b28 => ?_) | refine K_if_eq_an 40 (pc := 28) (i := 15) rfl rfl (fun b28 => ?_) (fun b28 => ?_)
        · skip
          refine K_aload_n (pc := 40) (i := 21) rfl rfl ?_
          refine K_getR (pc := 41) (i := 22) (j := 20) (d := 196) rfl S_184 rfl (by decide) rfl fw_Model_44 ?_
          refine K_iload_n (pc := 44) (i := 23) rfl rfl ?_
          refine K_iald (pc := 45) (i := 24) rfl S_196 (by omega) (by omega) (by decide) ?_
          refine K_any (fun v45 r45 => ?_)
          exact K_retI (pc := 46) (i := 25) rfl rfl ⟨fx, ⟨hI, trivial⟩⟩
        · skip
          refine K_aload_n (pc := 31) (i := 16) rfl rfl ?_
          refine K_getR (pc := 32) (i := 17) (j := 21) (d := 197) rfl S_184 rfl (by decide) rfl fw_Model_47 ?_
          refine K_iload_n (pc := 35) (i := 18) rfl rfl ?_
          refine K_iald (pc := 36) (i := 19) rfl S_197 (by omega) (by omega) (by decide) ?_
          refine K_any (fun v36 r36 => ?_)
          refine K_goto 46 (pc := 37) (i := 20) rfl rfl ?_
          exact K_retI (pc := 46) (i := 25) rfl rfl ⟨fx, ⟨hI, trivial⟩⟩
      · skip
        refine K_bipush (pc := 22) (i := 12) rfl rfl ?_
        refine K_goto 46 (pc := 24) (i := 13) rfl rfl ?_
        exact K_retI (pc := 46) (i := 25) rfl rfl ⟨fx, ⟨hI, trivial⟩⟩
    · skip
      refine K_iconst (pc := 13) (i := 7) rfl ?_
      exact K_retI (pc := 14) (i := 8) rfl rfl ⟨fx, ⟨hI, trivial⟩⟩
end
