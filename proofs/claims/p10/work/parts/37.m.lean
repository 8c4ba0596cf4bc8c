set_option maxHeartbeats 4000000 in
set_option maxRecDepth 100000 in
theorem c_Model_blow0 (G : kG) {g : kGh} {h : kH} {x1 : Int} {x2 : Int} (s1 : x1 = 0) (s2 : 0 ≤ x2 ∧ x2 ≤ 8) (hk : FK (kap h x1.toNat) x2) (hI : Gd g h) : Ctr G y_Model_blow X_Model_blow 3 [.ref (G.2.2.2 184), kI x1, kI x2] h (kQi (fun z h' => Fx (fun c i => c = 187) h h' ∧ (Gd g h' ∧ kR z ∧ BXK (kap h x1.toNat) (kap h' x1.toNat) (h 188) x2 ∧ CtK (kap h' x1.toNat) (h 188) x2 z ∧ FK (kap h' x1.toNat) x2))) := by
  refine Ctr.ofK (by decide) rfl T_Model_blow (Nat.le_of_ble_eq_true rfl) (lo := [(0, .ref (G.2.2.2 184)), (1, kI x1), (2, kI x2)]) rfl ?_
  have fx : Fx (fun c i => c = 187) h h := Fx.rf
  refine K_iconst (pc := 0) (i := 0) rfl ?_
  refine K_ist_n (pc := 1) (i := 1) (lo' := [(0, _), (1, _), (2, _), (3, _)]) rfl rfl rfl rfl ?_
  have L2 : ∀ (n : Nat) (x3 : Int) (ha : kH), (8 - x3).toNat < n → (Gd g ha) → (Fx (fun c i => c = 187) h ha) → ((0 ≤ x3 ∧ x3 ≤ x2) ∧ BXK (kap h x1.toNat) (kap ha x1.toNat) (h 188) x3) → K X_Model_blow G (kZm G 3 (kQi (fun z h' => Fx (fun c i => c = 187) h h' ∧ (Gd g h' ∧ kR z ∧ BXK (kap h x1.toNat) (kap h' x1.toNat) (h 188) x2 ∧ CtK (kap h' x1.toNat) (h 188) x2 z ∧ FK (kap h' x1.toNat) x2)))) 2 [(0, .ref (G.2.2.2 184)), (1, kI x1), (2, kI x2), (3, kI x3)] [] ha := by
    intro n
    induction n with
    | zero => intro x3 ha hm; exact absurd hm (Nat.not_lt_zero _)
    | succ n ih2 =>
      intro x3 ha hm2 hI fx hV2
      refine K_iload_n (pc := 2) (i := 2) rfl rfl ?_
      refine K_iload_n (pc := 3) (i := 3) rfl rfl ?_
      first | refine K_icmp_ge 80 (pc := 4) (i := 4) rfl rfl (by omega) (by omega) (fun b4 => ?_) (fun b4 => ?_) | refine K_icmp_ge_an 80 (pc := 4) (i := 4) rfl rfl (fun b4 => ?_) (fun b4 => ?_)
      · skip
        have bx80 : BXK (kap h x1.toNat) (kap ha x1.toNat) (h 188) x2 := by have q := hV2.2; rwa [show x3 = x2 by omega] at q
        have fk80 : FK (kap ha x1.toNat) x2 := hk.blow bx80
        have w80 : ha 188 = h 188 := fx.cell 188 (fun i => (by first | (dsimp only; omega) | omega | exact not_false))
        refine K_iconst (pc := 80) (i := 52) rfl ?_
        refine K_ist_n (pc := 81) (i := 53) (lo' := [(0, _), (1, _), (2, _), (3, _)]) rfl rfl rfl rfl ?_
        refine K_iconst (pc := 82) (i := 54) rfl ?_
        refine K_ist (pc := 83) (i := 55) (lo' := [(0, _), (1, _), (2, _), (3, _), (4, _)]) rfl rfl rfl rfl ?_
        have L85 : ∀ (n : Nat) (x3 : Int) (x4 : Int), (8 - x4).toNat < n → ((0 ≤ x4 ∧ x4 ≤ x2) ∧ kR x3 ∧ CKI (kap ha x1.toNat) (ha 188) x2 x3 x4 0) → K X_Model_blow G (kZm G 3 (kQi (fun z h' => Fx (fun c i => c = 187) h h' ∧ (Gd g h' ∧ kR z ∧ BXK (kap h x1.toNat) (kap h' x1.toNat) (h 188) x2 ∧ CtK (kap h' x1.toNat) (h 188) x2 z ∧ FK (kap h' x1.toNat) x2)))) 85 [(0, .ref (G.2.2.2 184)), (1, kI x1), (2, kI x2), (3, kI x3), (4, kI x4)] [] ha := by
          intro n
          induction n with
          | zero => intro x3 x4 hm; exact absurd hm (Nat.not_lt_zero _)
          | succ n ih85 =>
            intro x3 x4 hm85 hV85
            refine K_iload (pc := 85) (i := 56) rfl rfl ?_
            refine K_iload_n (pc := 87) (i := 57) rfl rfl ?_
            first | refine K_icmp_ge 189 (pc := 88) (i := 58) rfl rfl (by omega) (by omega) (fun b88 => ?_) (fun b88 => ?_) | refine K_icmp_ge_an 189 (pc := 88) (i := 58) rfl rfl (fun b88 => ?_) (fun b88 => ?_)
            · skip
              refine K_iload_n (pc := 189) (i := 114) rfl rfl ?_
              exact K_retI (pc := 190) (i := 115) rfl rfl ⟨fx, ⟨hI, by omega, bx80, by rw [← w80]; exact hV85.2.2.end (by omega), fk80⟩⟩
            · skip
              refine K_iconst (pc := 91) (i := 59) rfl ?_
              refine K_ist (pc := 92) (i := 60) (lo' := [(0, _), (1, _), (2, _), (3, _), (4, _), (5, _)]) rfl rfl rfl rfl ?_
              have L94 : ∀ (n : Nat) (x3 : Int) (x5 : Int), (8 - x5).toNat < n → ((0 ≤ x5 ∧ x5 ≤ x2) ∧ kR x3 ∧ CKI (kap ha x1.toNat) (ha 188) x2 x3 x4 x5) → K X_Model_blow G (kZm G 3 (kQi (fun z h' => Fx (fun c i => c = 187) h h' ∧ (Gd g h' ∧ kR z ∧ BXK (kap h x1.toNat) (kap h' x1.toNat) (h 188) x2 ∧ CtK (kap h' x1.toNat) (h 188) x2 z ∧ FK (kap h' x1.toNat) x2)))) 94 [(0, .ref (G.2.2.2 184)), (1, kI x1), (2, kI x2), (3, kI x3), (4, kI x4), (5, kI x5)] [] ha := by
                intro n
                induction n with
                | zero => intro x3 x5 hm; exact absurd hm (Nat.not_lt_zero _)
                | succ n ih94 =>
                  intro x3 x5 hm94 hV94
                  refine K_iload (pc := 94) (i := 61) rfl rfl ?_
                  refine K_iload_n (pc := 96) (i := 62) rfl rfl ?_
                  first | refine K_icmp_ge 183 (pc := 97) (i := 63) rfl rfl (by omega) (by omega) (fun b97 => ?_) (fun b97 => ?_) | refine K_icmp_ge_an 183 (pc := 97) (i := 63) rfl rfl (fun b97 => ?_) (fun b97 => ?_)
                  · skip
                    refine K_inc (pc := 183) (i := 112) (q := 4) (lo' := [(0, _), (1, _), (2, _), (3, _), (4, _), (5, _)]) rfl rfl rfl rfl rfl ?_
                    refine K_goto 85 (pc := 186) (i := 113) rfl rfl ?_
                    refine K_drop (lo' := [(0, .ref (G.2.2.2 184)), (1, kI x1), (2, kI x2), (3, kI x3), (4, kI (x4 + 1))]) [0, 1, 2, 3, 4] rfl ?_
                    exact ih85 x3 (x4 + 1) (by omega) ⟨by omega, by omega, hV94.2.2.next (by omega)⟩
                  · skip
                    refine K_aload_n (pc := 100) (i := 64) rfl rfl ?_
                    refine K_getR (pc := 101) (i := 65) (j := 3) (d := 187) rfl S_184 rfl (by decide) rfl fw_Model_16 ?_
                    refine K_iload_n (pc := 104) (i := 66) rfl rfl ?_
                    refine K_iconst (pc := 105) (i := 67) rfl ?_
                    refine K_iload (pc := 106) (i := 68) rfl rfl ?_
                    refine K_imul (pc := 108) (i := 69) rfl ?_
                    refine K_iadd (pc := 109) (i := 70) rfl ?_
                    refine K_iald (pc := 110) (i := 71) rfl S_187 (by omega) (by omega) (by decide) ?_
                    refine K_nm (fun v110 e110 => ?_)
                    have r110 := (rd_mkites hI (x1 + (5 * x4)).toNat).1 (by omega)
                    rw [← e110] at r110
                    have w110 : kap ha x1.toNat (5 * x4.toNat) = v110 := by rw [e110]; unfold kap; congr 1; omega
                    refine K_aload_n (pc := 111) (i := 72) rfl rfl ?_
                    refine K_getR (pc := 112) (i := 73) (j := 3) (d := 187) rfl S_184 rfl (by decide) rfl fw_Model_16 ?_
                    refine K_iload_n (pc := 115) (i := 74) rfl rfl ?_
                    refine K_iconst (pc := 116) (i := 75) rfl ?_
                    refine K_iload (pc := 117) (i := 76) rfl rfl ?_
                    refine K_imul (pc := 119) (i := 77) rfl ?_
                    refine K_iadd (pc := 120) (i := 78) rfl ?_
                    refine K_iald (pc := 121) (i := 79) rfl S_187 (by omega) (by omega) (by decide) ?_
                    refine K_nm (fun v121 e121 => ?_)
                    have r121 := (rd_mkites hI (x1 + (5 * x5)).toNat).1 (by omega)
                    rw [← e121] at r121
                    have w121 : kap ha x1.toNat (5 * x5.toNat) = v121 := by rw [e121]; unfold kap; congr 1; omega
                    first | refine K_icmp_eq 158 (pc := 122) (i := 80) rfl rfl (by omega) (by omega) (fun b122 => ?_) (fun b122 => ?_) | refine K_icmp_eq_an 158 (pc := 122) (i := 80) rfl rfl (fun b122 => ?_) (fun b122 => ?_)
                    · skip
                      refine K_iconst (pc := 158) (i := 98) rfl ?_
                      refine K_ist (pc := 159) (i := 99) (lo' := [(0, _), (1, _), (2, _), (3, _), (4, _), (5, _), (6, _)]) rfl rfl rfl rfl ?_
                      refine K_iload_n (pc := 161) (i := 100) rfl rfl ?_
                      refine K_iload (pc := 162) (i := 101) rfl rfl ?_
                      refine K_if_eq 174 (pc := 164) (i := 102) rfl rfl (by omega) (fun _ => ?_) (fun b164 => False.elim (by omega))
                      refine K_iconst (pc := 174) (i := 107) rfl ?_
                      refine K_ior (pc := 175) (i := 108) rfl ?_
                      refine K_nm (fun v175 e175 => ?_)
                      have r175 := kOr_R x3 0
                      rw [← e175] at r175
                      refine K_ist_n (pc := 176) (i := 109) (lo' := [(0, _), (1, _), (2, _), (3, _), (4, _), (5, _), (6, _)]) rfl rfl rfl rfl ?_
                      refine K_inc (pc := 177) (i := 110) (q := 5) (lo' := [(0, _), (1, _), (2, _), (3, _), (4, _), (5, _), (6, _)]) rfl rfl rfl rfl rfl ?_
                      refine K_goto 94 (pc := 180) (i := 111) rfl rfl ?_
                      refine K_drop (lo' := [(0, .ref (G.2.2.2 184)), (1, kI x1), (2, kI x2), (3, kI v175), (4, kI x4), (5, kI (x5 + 1))]) [0, 1, 2, 3, 4, 5] rfl ?_
                      exact ih94 v175 (x5 + 1) (by omega) ⟨by omega, by omega, by rw [e175]; first | exact hV94.2.2.skip hV85.1.1 hV94.1.1 (fun q => q.1 (by rw [w110, w121]; exact b122)) | exact hV94.2.2.skip hV85.1.1 hV94.1.1 (fun q => absurd q.2.1 (by rw [← r129.2, ← r136.2]; omega)) | exact hV94.2.2.skip hV85.1.1 hV94.1.1 (fun q => r148.elim (fun e => absurd e.1 (by omega)) (fun e => e.2 q.2.2)) | (rw [e170]; exact hV94.2.2.hit (by omega) (by omega) (by omega) ⟨by rw [w110, w121]; exact b122, by rw [← r129.2, ← r136.2]; omega, r148.elim (fun q => q.2) (fun q => absurd q.1 (by omega))⟩)⟩
                    · skip
                      refine K_aload_n (pc := 125) (i := 81) rfl rfl ?_
                      refine K_iload_n (pc := 126) (i := 82) rfl rfl ?_
                      refine K_iload (pc := 127) (i := 83) rfl rfl ?_
                      refine K_cVI (pc := 129) (i := 84) rfl (c_Model_edgeOf G (x1 := x1) (x2 := x4) (hI := hI) (s1 := by omega) (s2 := by omega)) S_184 rfl (lv_Model_108 rfl) rfl rfl rfl rfl rfl (fun v129 h129 q129 => ?_)
                      obtain ⟨eh, r129⟩ := q129
                      rw [eh]; clear eh
                      refine K_aload_n (pc := 132) (i := 85) rfl rfl ?_
                      refine K_iload_n (pc := 133) (i := 86) rfl rfl ?_
                      refine K_iload (pc := 134) (i := 87) rfl rfl ?_
                      refine K_cVI (pc := 136) (i := 88) rfl (c_Model_edgeOf G (x1 := x1) (x2 := x5) (hI := hI) (s1 := by omega) (s2 := by omega)) S_184 rfl (lv_Model_108 rfl) rfl rfl rfl rfl rfl (fun v136 h136 q136 => ?_)
                      obtain ⟨eh, r136⟩ := q136
                      rw [eh]; clear eh
                      first | refine K_icmp_le 158 (pc := 139) (i := 89) rfl rfl (by omega) (by omega) (fun b139 => ?_) (fun b139 => ?_) | refine K_icmp_le_an 158 (pc := 139) (i := 89) rfl rfl (fun b139 => ?_) (fun b139 => ?_)
                      · skip
                        refine K_iconst (pc := 158) (i := 98) rfl ?_
                        refine K_ist (pc := 159) (i := 99) (lo' := [(0, _), (1, _), (2, _), (3, _), (4, _), (5, _), (6, _)]) rfl rfl rfl rfl ?_
                        refine K_iload_n (pc := 161) (i := 100) rfl rfl ?_
                        refine K_iload (pc := 162) (i := 101) rfl rfl ?_
                        refine K_if_eq 174 (pc := 164) (i := 102) rfl rfl (by omega) (fun _ => ?_) (fun b164 => False.elim (by omega))
                        refine K_iconst (pc := 174) (i := 107) rfl ?_
                        refine K_ior (pc := 175) (i := 108) rfl ?_
                        refine K_nm (fun v175 e175 => ?_)
                        have r175 := kOr_R x3 0
                        rw [← e175] at r175
                        refine K_ist_n (pc := 176) (i := 109) (lo' := [(0, _), (1, _), (2, _), (3, _), (4, _), (5, _), (6, _)]) rfl rfl rfl rfl ?_
                        refine K_inc (pc := 177) (i := 110) (q := 5) (lo' := [(0, _), (1, _), (2, _), (3, _), (4, _), (5, _), (6, _)]) rfl rfl rfl rfl rfl ?_
                        refine K_goto 94 (pc := 180) (i := 111) rfl rfl ?_
                        refine K_drop (lo' := [(0, .ref (G.2.2.2 184)), (1, kI x1), (2, kI x2), (3, kI v175), (4, kI x4), (5, kI (x5 + 1))]) [0, 1, 2, 3, 4, 5] rfl ?_
                        exact ih94 v175 (x5 + 1) (by omega) ⟨by omega, by omega, by rw [e175]; first | exact hV94.2.2.skip hV85.1.1 hV94.1.1 (fun q => q.1 (by rw [w110, w121]; exact b122)) | exact hV94.2.2.skip hV85.1.1 hV94.1.1 (fun q => absurd q.2.1 (by rw [← r129.2, ← r136.2]; omega)) | exact hV94.2.2.skip hV85.1.1 hV94.1.1 (fun q => r148.elim (fun e => absurd e.1 (by omega)) (fun e => e.2 q.2.2)) | (rw [e170]; exact hV94.2.2.hit (by omega) (by omega) (by omega) ⟨by rw [w110, w121]; exact b122, by rw [← r129.2, ← r136.2]; omega, r148.elim (fun q => q.2) (fun q => absurd q.1 (by omega))⟩)⟩
                      · skip
                        refine K_aload_n (pc := 142) (i := 90) rfl rfl ?_
                        refine K_iload_n (pc := 143) (i := 91) rfl rfl ?_
                        refine K_iload (pc := 144) (i := 92) rfl rfl ?_
                        refine K_iload (pc := 146) (i := 93) rfl rfl ?_
                        refine K_cVI (pc := 148) (i := 94) rfl (c_Model_doCross G (x1 := x1) (x2 := x4) (x3 := x5) (hk := fk80) (hI := hI) (hn := by omega) (s1 := by omega) (s2 := by omega) (s3 := by omega)) S_184 rfl (lv_Model_137 rfl) rfl rfl rfl rfl rfl (fun v148 h148 q148 => ?_)
                        obtain ⟨eh, r148⟩ := q148
                        rw [eh]; clear eh
                        first | refine K_if_eq 158 (pc := 151) (i := 95) rfl rfl (by omega) (fun b151 => ?_) (fun b151 => ?_) | refine K_if_eq_an 158 (pc := 151) (i := 95) rfl rfl (fun b151 => ?_) (fun b151 => ?_)
                        · skip
                          refine K_iconst (pc := 158) (i := 98) rfl ?_
                          refine K_ist (pc := 159) (i := 99) (lo' := [(0, _), (1, _), (2, _), (3, _), (4, _), (5, _), (6, _)]) rfl rfl rfl rfl ?_
                          refine K_iload_n (pc := 161) (i := 100) rfl rfl ?_
                          refine K_iload (pc := 162) (i := 101) rfl rfl ?_
                          refine K_if_eq 174 (pc := 164) (i := 102) rfl rfl (by omega) (fun _ => ?_) (fun b164 => False.elim (by omega))
                          refine K_iconst (pc := 174) (i := 107) rfl ?_
                          refine K_ior (pc := 175) (i := 108) rfl ?_
                          refine K_nm (fun v175 e175 => ?_)
                          have r175 := kOr_R x3 0
                          rw [← e175] at r175
                          refine K_ist_n (pc := 176) (i := 109) (lo' := [(0, _), (1, _), (2, _), (3, _), (4, _), (5, _), (6, _)]) rfl rfl rfl rfl ?_
                          refine K_inc (pc := 177) (i := 110) (q := 5) (lo' := [(0, _), (1, _), (2, _), (3, _), (4, _), (5, _), (6, _)]) rfl rfl rfl rfl rfl ?_
                          refine K_goto 94 (pc := 180) (i := 111) rfl rfl ?_
                          refine K_drop (lo' := [(0, .ref (G.2.2.2 184)), (1, kI x1), (2, kI x2), (3, kI v175), (4, kI x4), (5, kI (x5 + 1))]) [0, 1, 2, 3, 4, 5] rfl ?_
                          exact ih94 v175 (x5 + 1) (by omega) ⟨by omega, by omega, by rw [e175]; first | exact hV94.2.2.skip hV85.1.1 hV94.1.1 (fun q => q.1 (by rw [w110, w121]; exact b122)) | exact hV94.2.2.skip hV85.1.1 hV94.1.1 (fun q => absurd q.2.1 (by rw [← r129.2, ← r136.2]; omega)) | exact hV94.2.2.skip hV85.1.1 hV94.1.1 (fun q => r148.elim (fun e => absurd e.1 (by omega)) (fun e => e.2 q.2.2)) | (rw [e170]; exact hV94.2.2.hit (by omega) (by omega) (by omega) ⟨by rw [w110, w121]; exact b122, by rw [← r129.2, ← r136.2]; omega, r148.elim (fun q => q.2) (fun q => absurd q.1 (by omega))⟩)⟩
                        · skip
                          refine K_iconst (pc := 154) (i := 96) rfl ?_
                          refine K_goto 159 (pc := 155) (i := 97) rfl rfl ?_
                          refine K_ist (pc := 159) (i := 99) (lo' := [(0, _), (1, _), (2, _), (3, _), (4, _), (5, _), (6, _)]) rfl rfl rfl rfl ?_
                          refine K_iload_n (pc := 161) (i := 100) rfl rfl ?_
                          refine K_iload (pc := 162) (i := 101) rfl rfl ?_
                          refine K_if_eq 174 (pc := 164) (i := 102) rfl rfl (by omega) (fun b164 => False.elim (by omega)) (fun _ => ?_)
                          refine K_iconst (pc := 167) (i := 103) rfl ?_
                          refine K_iload (pc := 168) (i := 104) rfl rfl ?_
                          refine K_ishl (pc := 170) (i := 105) rfl ?_
                          refine K_nm (fun v170 e170 => ?_)
                          have r170 := kShl_R 1 x5
                          rw [← e170] at r170
                          refine K_goto 175 (pc := 171) (i := 106) rfl rfl ?_
                          refine K_ior (pc := 175) (i := 108) rfl ?_
                          refine K_nm (fun v175 e175 => ?_)
                          have r175 := kOr_R x3 v170
                          rw [← e175] at r175
                          refine K_ist_n (pc := 176) (i := 109) (lo' := [(0, _), (1, _), (2, _), (3, _), (4, _), (5, _), (6, _)]) rfl rfl rfl rfl ?_
                          refine K_inc (pc := 177) (i := 110) (q := 5) (lo' := [(0, _), (1, _), (2, _), (3, _), (4, _), (5, _), (6, _)]) rfl rfl rfl rfl rfl ?_
                          refine K_goto 94 (pc := 180) (i := 111) rfl rfl ?_
                          refine K_drop (lo' := [(0, .ref (G.2.2.2 184)), (1, kI x1), (2, kI x2), (3, kI v175), (4, kI x4), (5, kI (x5 + 1))]) [0, 1, 2, 3, 4, 5] rfl ?_
                          exact ih94 v175 (x5 + 1) (by omega) ⟨by omega, by omega, by rw [e175]; first | exact hV94.2.2.skip hV85.1.1 hV94.1.1 (fun q => q.1 (by rw [w110, w121]; exact b122)) | exact hV94.2.2.skip hV85.1.1 hV94.1.1 (fun q => absurd q.2.1 (by rw [← r129.2, ← r136.2]; omega)) | exact hV94.2.2.skip hV85.1.1 hV94.1.1 (fun q => r148.elim (fun e => absurd e.1 (by omega)) (fun e => e.2 q.2.2)) | (rw [e170]; exact hV94.2.2.hit (by omega) (by omega) (by omega) ⟨by rw [w110, w121]; exact b122, by rw [← r129.2, ← r136.2]; omega, r148.elim (fun q => q.2) (fun q => absurd q.1 (by omega))⟩)⟩
              exact L94 _ x3 0 (Nat.lt_succ_self _) ⟨by omega, by omega, hV85.2.2⟩
        exact L85 _ 0 0 (Nat.lt_succ_self _) ⟨by omega, by omega, CKI.zero⟩
      · skip
        refine K_aload_n (pc := 7) (i := 5) rfl rfl ?_
        refine K_getR (pc := 8) (i := 6) (j := 3) (d := 187) rfl S_184 rfl (by decide) rfl fw_Model_16 ?_
        refine K_iload_n (pc := 11) (i := 7) rfl rfl ?_
        refine K_iconst (pc := 12) (i := 8) rfl ?_
        refine K_iload_n (pc := 13) (i := 9) rfl rfl ?_
        refine K_imul (pc := 14) (i := 10) rfl ?_
        refine K_iadd (pc := 15) (i := 11) rfl ?_
        refine K_iconst (pc := 16) (i := 12) rfl ?_
        refine K_iadd (pc := 17) (i := 13) rfl ?_
        refine K_iald (pc := 18) (i := 14) rfl S_187 (by omega) (by omega) (by decide) ?_
        refine K_nm (fun v18 e18 => ?_)
        have w18 : kap ha x1.toNat (5 * x3.toNat + 2) = v18 := by rw [e18]; unfold kap; congr 1; omega
        have y18 : kap h x1.toNat (5 * x3.toNat + 2) = v18 := by rw [← w18]; exact (hV2.2.ge (by omega)).symm
        have u18 := (hk x3.toNat (by omega)).2.1
        rw [y18] at u18
        refine K_aload_n (pc := 19) (i := 15) rfl rfl ?_
        refine K_getR (pc := 20) (i := 16) (j := 5) (d := 188) rfl S_184 rfl (by decide) rfl fw_Model_19 ?_
        refine K_aload_n (pc := 23) (i := 17) rfl rfl ?_
        refine K_getR (pc := 24) (i := 18) (j := 3) (d := 187) rfl S_184 rfl (by decide) rfl fw_Model_16 ?_
        refine K_iload_n (pc := 27) (i := 19) rfl rfl ?_
        refine K_iconst (pc := 28) (i := 20) rfl ?_
        refine K_iload_n (pc := 29) (i := 21) rfl rfl ?_
        refine K_imul (pc := 30) (i := 22) rfl ?_
        refine K_iadd (pc := 31) (i := 23) rfl ?_
        refine K_iconst (pc := 32) (i := 24) rfl ?_
        refine K_iadd (pc := 33) (i := 25) rfl ?_
        refine K_iald (pc := 34) (i := 26) rfl S_187 (by omega) (by omega) (by decide) ?_
        refine K_nm (fun v34 e34 => ?_)
        have r34 := (rd_mkites hI ((x1 + (5 * x3)) + 3).toNat).2.1 (by omega)
        rw [← e34] at r34
        have w34 : kap ha x1.toNat (5 * x3.toNat + 3) = v34 := by rw [e34]; unfold kap; congr 1; omega
        have y34 : kap h x1.toNat (5 * x3.toNat + 3) = v34 := by rw [← w34]; exact (hV2.2.ot (by omega)).symm
        refine K_iald (pc := 35) (i := 27) rfl S_188 (by omega) (by omega) (by decide) ?_
        refine K_nm (fun v35 e35 => ?_)
        have r35 := rd_mwinds hI (v34).toNat
        rw [← e35] at r35
        have y35 : v35 = h 188 v34.toNat := by rw [e35, fx.cell 188 (fun i => (by first | (dsimp only; omega) | omega | exact not_false))]
        refine K_iadd (pc := 36) (i := 28) rfl ?_
        refine K_ist (pc := 37) (i := 29) (lo' := [(0, _), (1, _), (2, _), (3, _), (4, _)]) rfl rfl rfl rfl ?_
        refine K_aload_n (pc := 39) (i := 30) rfl rfl ?_
        refine K_getR (pc := 40) (i := 31) (j := 3) (d := 187) rfl S_184 rfl (by decide) rfl fw_Model_16 ?_
        refine K_iload_n (pc := 43) (i := 32) rfl rfl ?_
        refine K_iconst (pc := 44) (i := 33) rfl ?_
        refine K_iload_n (pc := 45) (i := 34) rfl rfl ?_
        refine K_imul (pc := 46) (i := 35) rfl ?_
        refine K_iadd (pc := 47) (i := 36) rfl ?_
        refine K_iconst (pc := 48) (i := 37) rfl ?_
        refine K_iadd (pc := 49) (i := 38) rfl ?_
        refine K_iload (pc := 50) (i := 39) rfl rfl ?_
        first | refine K_if_ge 59 (pc := 52) (i := 40) rfl rfl (by omega) (fun b52 => ?_) (fun b52 => ?_) | refine K_if_ge_an 59 (pc := 52) (i := 40) rfl rfl (fun b52 => ?_) (fun b52 => ?_)
        · skip
          refine K_iload (pc := 59) (i := 43) rfl rfl ?_
          refine K_bipush (pc := 61) (i := 44) rfl rfl ?_
          first | refine K_icmp_le 71 (pc := 63) (i := 45) rfl rfl (by omega) (by omega) (fun b63 => ?_) (fun b63 => ?_) | refine K_icmp_le_an 71 (pc := 63) (i := 45) rfl rfl (fun b63 => ?_) (fun b63 => ?_)
          · skip
            refine K_iload (pc := 71) (i := 48) rfl rfl ?_
            refine K_iast (pc := 73) (i := 49) rfl S_187 (by omega) (by omega) (by decide) ?_
            have hI := st_mkites hI (i := ((x1 + (5 * x3)) + 2).toNat) (v := v18 + v35) (by unfold bK; omega) (fun _ a => a.u187 (fun b => b.setX x3.toNat (by omega) (by omega)))
            have fx := Fx.st (c := 187) (i := ((x1 + (5 * x3)) + 2).toNat) (v := v18 + v35) fx (by first | (dsimp only; omega) | omega | exact not_false)
            have bx73 := BXK.st (i := ((x1 + (5 * x3)) + 2).toNat) (v := v18 + v35) hV2.2 (by omega) (by omega) (by rw [y18, y34, ← y35]; omega)
            refine K_inc (pc := 74) (i := 50) (q := 3) (lo' := [(0, _), (1, _), (2, _), (3, _), (4, _)]) rfl rfl rfl rfl rfl ?_
            refine K_goto 2 (pc := 77) (i := 51) rfl rfl ?_
            refine K_drop (lo' := [(0, .ref (G.2.2.2 184)), (1, kI x1), (2, kI x2), (3, kI (x3 + 1))]) [0, 1, 2, 3] rfl ?_
            exact ih2 (x3 + 1) _ (by omega) hI fx ⟨by omega, bx73⟩
          · skip
            refine K_bipush (pc := 66) (i := 46) rfl rfl ?_
            refine K_goto 73 (pc := 68) (i := 47) rfl rfl ?_
            refine K_iast (pc := 73) (i := 49) rfl S_187 (by omega) (by omega) (by decide) ?_
            have hI := st_mkites hI (i := ((x1 + (5 * x3)) + 2).toNat) (v := 40) (by unfold bK; omega) (fun _ a => a.u187 (fun b => b.setX x3.toNat (by omega) (by omega)))
            have fx := Fx.st (c := 187) (i := ((x1 + (5 * x3)) + 2).toNat) (v := 40) fx (by first | (dsimp only; omega) | omega | exact not_false)
            have bx73 := BXK.st (i := ((x1 + (5 * x3)) + 2).toNat) (v := 40) hV2.2 (by omega) (by omega) (by rw [y18, y34, ← y35]; omega)
            refine K_inc (pc := 74) (i := 50) (q := 3) (lo' := [(0, _), (1, _), (2, _), (3, _), (4, _)]) rfl rfl rfl rfl rfl ?_
            refine K_goto 2 (pc := 77) (i := 51) rfl rfl ?_
            refine K_drop (lo' := [(0, .ref (G.2.2.2 184)), (1, kI x1), (2, kI x2), (3, kI (x3 + 1))]) [0, 1, 2, 3] rfl ?_
            exact ih2 (x3 + 1) _ (by omega) hI fx ⟨by omega, bx73⟩
        · skip
          refine K_iconst (pc := 55) (i := 41) rfl ?_
          refine K_goto 73 (pc := 56) (i := 42) rfl rfl ?_
          refine K_iast (pc := 73) (i := 49) rfl S_187 (by omega) (by omega) (by decide) ?_
          have hI := st_mkites hI (i := ((x1 + (5 * x3)) + 2).toNat) (v := 0) (by unfold bK; omega) (fun _ a => a.u187 (fun b => b.setX x3.toNat (by omega) (by omega)))
          have fx := Fx.st (c := 187) (i := ((x1 + (5 * x3)) + 2).toNat) (v := 0) fx (by first | (dsimp only; omega) | omega | exact not_false)
          have bx73 := BXK.st (i := ((x1 + (5 * x3)) + 2).toNat) (v := 0) hV2.2 (by omega) (by omega) (by rw [y18, y34, ← y35]; omega)
          refine K_inc (pc := 74) (i := 50) (q := 3) (lo' := [(0, _), (1, _), (2, _), (3, _), (4, _)]) rfl rfl rfl rfl rfl ?_
          refine K_goto 2 (pc := 77) (i := 51) rfl rfl ?_
          refine K_drop (lo' := [(0, .ref (G.2.2.2 184)), (1, kI x1), (2, kI x2), (3, kI (x3 + 1))]) [0, 1, 2, 3] rfl ?_
          exact ih2 (x3 + 1) _ (by omega) hI fx ⟨by omega, bx73⟩
  exact L2 _ 0 _ (Nat.lt_succ_self _) hI fx ⟨by omega, BXK.z⟩
set_option maxHeartbeats 4000000 in
set_option maxRecDepth 100000 in
theorem c_Model_leave0 (G : kG) {g : kGh} {h : kH} {x1 : Int} {x2 : Int} {x3 : Int} (s1 : x1 = 0) (s2 : 0 ≤ x2 ∧ x2 ≤ 8) (hI : Gd g h) : Ctr G y_Model_leave X_Model_leave 1 [.ref (G.2.2.2 184), kI x1, kI x2, kI x3] h (kQi (fun z h' => Fx (fun c i => c = 187 ∨ c = 192) h h' ∧ (Gd (kNf g) h' ∧ (0 ≤ z ∧ z ≤ x2) ∧ z = kc (pB x3) x2.toNat ∧ THK (kap h x1.toNat) (kap h' x1.toNat) (pB x3) x2 ∧ GN (h 192) (h' 192) x3 (fun i => kap h x1.toNat (5 * i)) x2))) := by
  refine Ctr.ofK (by decide) rfl T_Model_leave (Nat.le_of_ble_eq_true rfl) (lo := [(0, .ref (G.2.2.2 184)), (1, kI x1), (2, kI x2), (3, kI x3)]) rfl ?_
  have fx : Fx (fun c i => c = 187 ∨ c = 192) h h := Fx.rf
  have hI := hI.nf
  refine K_iconst (pc := 0) (i := 0) rfl ?_
  refine K_ist (pc := 1) (i := 1) (lo' := [(0, _), (1, _), (2, _), (3, _), (4, _)]) rfl rfl rfl rfl ?_
  refine K_iconst (pc := 3) (i := 2) rfl ?_
  refine K_ist (pc := 4) (i := 3) (lo' := [(0, _), (1, _), (2, _), (3, _), (4, _), (5, _)]) rfl rfl rfl rfl ?_
  have L6 : ∀ (n : Nat) (x4 : Int) (x5 : Int) (ha : kH), (8 - x5).toNat < n → (Gd (kNf g) ha) → (Fx (fun c i => c = 187 ∨ c = 192) h ha) → ((0 ≤ x4 ∧ x4 ≤ x5 ∧ x5 ≤ x2) ∧ x4 = kc (pB x3) x5.toNat ∧ LVK (kap h x1.toNat) (kap ha x1.toNat) (pB x3) x5.toNat ∧ GN (h 192) (ha 192) x3 (fun i => kap h x1.toNat (5 * i)) x5) → K X_Model_leave G (kZm G 1 (kQi (fun z h' => Fx (fun c i => c = 187 ∨ c = 192) h h' ∧ (Gd (kNf g) h' ∧ (0 ≤ z ∧ z ≤ x2) ∧ z = kc (pB x3) x2.toNat ∧ THK (kap h x1.toNat) (kap h' x1.toNat) (pB x3) x2 ∧ GN (h 192) (h' 192) x3 (fun i => kap h x1.toNat (5 * i)) x2)))) 6 [(0, .ref (G.2.2.2 184)), (1, kI x1), (2, kI x2), (3, kI x3), (4, kI x4), (5, kI x5)] [] ha := by
    intro n
    induction n with
    | zero => intro x4 x5 ha hm; exact absurd hm (Nat.not_lt_zero _)
    | succ n ih6 =>
      intro x4 x5 ha hm6 hI fx hV6
      refine K_iload (pc := 6) (i := 4) rfl rfl ?_
      refine K_iload_n (pc := 8) (i := 5) rfl rfl ?_
      first | refine K_icmp_ge 99 (pc := 9) (i := 6) rfl rfl (by omega) (by omega) (fun b9 => ?_) (fun b9 => ?_) | refine K_icmp_ge_an 99 (pc := 9) (i := 6) rfl rfl (fun b9 => ?_) (fun b9 => ?_)
      · skip
        refine K_iload (pc := 99) (i := 62) rfl rfl ?_
        exact K_retI (pc := 101) (i := 63) rfl rfl ⟨fx, ⟨hI, by omega, by rw [hV6.2.1, show x5 = x2 by omega], fun i a hi hp ha9 => hV6.2.2.1.1 i a (by omega) hp ha9, by have q := hV6.2.2.2; rwa [show x5 = x2 by omega] at q⟩⟩
      · skip
        refine K_iload_n (pc := 12) (i := 7) rfl rfl ?_
        refine K_iload (pc := 13) (i := 8) rfl rfl ?_
        refine K_ishr (pc := 15) (i := 9) rfl ?_
        refine K_nm (fun v15 e15 => ?_)
        have r15 := kShr_R x3 x5
        rw [← e15] at r15
        refine K_iconst (pc := 16) (i := 10) rfl ?_
        refine K_iand (pc := 17) (i := 11) rfl ?_
        refine K_nm (fun v17 e17 => ?_)
        have r17 := kAnd_1 v15
        rw [← e17] at r17
        have t17 : v17 = if tb x3 x5 then 1 else 0 := by rw [e17, e15]; exact kbit (by omega)
        refine K_iconst (pc := 18) (i := 12) rfl ?_
        first | refine K_icmp_ne 47 (pc := 19) (i := 13) rfl rfl (by omega) (by omega) (fun b19 => ?_) (fun b19 => ?_) | refine K_icmp_ne_an 47 (pc := 19) (i := 13) rfl rfl (fun b19 => ?_) (fun b19 => ?_)
        · skip
          refine K_iconst (pc := 47) (i := 32) rfl ?_
          refine K_ist (pc := 48) (i := 33) (lo' := [(0, _), (1, _), (2, _), (3, _), (4, _), (5, _), (6, _)]) rfl rfl rfl rfl ?_
          have L50 : ∀ (n : Nat) (x6 : Int) (hb : kH), (5 - x6).toNat < n → (Gd (kNf g) hb) → (Fx (fun c i => c = 187 ∨ c = 192) h hb) → ((0 ≤ x6 ∧ x6 ≤ 5) ∧ LVKi (kap h x1.toNat) (kap hb x1.toNat) (pB x3) x5.toNat x6.toNat ∧ hb 192 = ha 192) → K X_Model_leave G (kZm G 1 (kQi (fun z h' => Fx (fun c i => c = 187 ∨ c = 192) h h' ∧ (Gd (kNf g) h' ∧ (0 ≤ z ∧ z ≤ x2) ∧ z = kc (pB x3) x2.toNat ∧ THK (kap h x1.toNat) (kap h' x1.toNat) (pB x3) x2 ∧ GN (h 192) (h' 192) x3 (fun i => kap h x1.toNat (5 * i)) x2)))) 50 [(0, .ref (G.2.2.2 184)), (1, kI x1), (2, kI x2), (3, kI x3), (4, kI x4), (5, kI x5), (6, kI x6)] [] hb := by
            intro n
            induction n with
            | zero => intro x6 hb hm; exact absurd hm (Nat.not_lt_zero _)
            | succ n ih50 =>
              intro x6 hb hm50 hI fx hV50
              refine K_iload (pc := 50) (i := 34) rfl rfl ?_
              refine K_iconst (pc := 52) (i := 35) rfl ?_
              first | refine K_icmp_ge 90 (pc := 53) (i := 36) rfl rfl (by omega) (by omega) (fun b53 => ?_) (fun b53 => ?_) | refine K_icmp_ge_an 90 (pc := 53) (i := 36) rfl rfl (fun b53 => ?_) (fun b53 => ?_)
              · skip
                have lv90 : LVK (kap h x1.toNat) (kap hb x1.toNat) (pB x3) (x5 + 1).toNat := by have q := hV50.2.1; rw [show x6.toNat = 5 by omega] at q; rw [show (x5 + 1).toNat = x5.toNat + 1 by omega]; exact q.end
                have kc90 : x4 + 1 = kc (pB x3) (x5 + 1).toNat := by rw [show (x5 + 1).toNat = x5.toNat + 1 by omega, kc, pB_t (by omega) t17 (by omega)]; simp; omega
                have gn90 : GN (h 192) (hb 192) x3 (fun i => kap h x1.toNat (5 * i)) (x5 + 1) := by rw [hV50.2.2]; exact hV6.2.2.2.no (by omega) (tbf t17 (by omega))
                refine K_inc (pc := 90) (i := 59) (q := 4) (lo' := [(0, _), (1, _), (2, _), (3, _), (4, _), (5, _), (6, _)]) rfl rfl rfl rfl rfl ?_
                refine K_inc (pc := 93) (i := 60) (q := 5) (lo' := [(0, _), (1, _), (2, _), (3, _), (4, _), (5, _), (6, _)]) rfl rfl rfl rfl rfl ?_
                refine K_goto 6 (pc := 96) (i := 61) rfl rfl ?_
                refine K_drop (lo' := [(0, .ref (G.2.2.2 184)), (1, kI x1), (2, kI x2), (3, kI x3), (4, kI (x4 + 1)), (5, kI (x5 + 1))]) [0, 1, 2, 3, 4, 5] rfl ?_
                exact ih6 (x4 + 1) (x5 + 1) _ (by omega) hI fx (by first | exact ⟨by omega, kc43, lv43, gn43⟩ | exact ⟨by omega, kc90, lv90, gn90⟩)
              · skip
                refine K_aload_n (pc := 56) (i := 37) rfl rfl ?_
                refine K_getR (pc := 57) (i := 38) (j := 3) (d := 187) rfl S_184 rfl (by decide) rfl fw_Model_16 ?_
                refine K_iload_n (pc := 60) (i := 39) rfl rfl ?_
                refine K_iconst (pc := 61) (i := 40) rfl ?_
                refine K_iload (pc := 62) (i := 41) rfl rfl ?_
                refine K_imul (pc := 64) (i := 42) rfl ?_
                refine K_iadd (pc := 65) (i := 43) rfl ?_
                refine K_iload (pc := 66) (i := 44) rfl rfl ?_
                refine K_iadd (pc := 68) (i := 45) rfl ?_
                refine K_aload_n (pc := 69) (i := 46) rfl rfl ?_
                refine K_getR (pc := 70) (i := 47) (j := 3) (d := 187) rfl S_184 rfl (by decide) rfl fw_Model_16 ?_
                refine K_iload_n (pc := 73) (i := 48) rfl rfl ?_
                refine K_iconst (pc := 74) (i := 49) rfl ?_
                refine K_iload (pc := 75) (i := 50) rfl rfl ?_
                refine K_imul (pc := 77) (i := 51) rfl ?_
                refine K_iadd (pc := 78) (i := 52) rfl ?_
                refine K_iload (pc := 79) (i := 53) rfl rfl ?_
                refine K_iadd (pc := 81) (i := 54) rfl ?_
                refine K_iald (pc := 82) (i := 55) rfl S_187 (by omega) (by omega) (by decide) ?_
                refine K_nm (fun v82 e82 => ?_)
                have r82 := rd_mkites hI ((x1 + (5 * x5)) + x6).toNat
                rw [← e82] at r82
                have w82 : kap hb x1.toNat (5 * x5.toNat + x6.toNat) = v82 := by rw [e82]; unfold kap; congr 1; omega
                refine K_iast (pc := 83) (i := 56) rfl S_187 (by omega) (by omega) (by decide) ?_
                have hI := st_mkites hI (i := ((x1 + (5 * x4)) + x6).toNat) (v := v82) (bK_of r82 (m5 (by omega) hV6.1.1 (by omega) hV50.1.1)) (fun e _ => False.elim e)
                have fx := Fx.st (c := 187) (i := ((x1 + (5 * x4)) + x6).toNat) (v := v82) fx (by first | (dsimp only; omega) | omega | exact not_false)
                have li83 := LVKi.st (i := ((x1 + (5 * x4)) + x6).toNat) (v := v82) hV50.2.1 (by omega) (by omega) (by rw [← w82])
                rw [show x6.toNat + 1 = (x6 + 1).toNat by omega] at li83
                refine K_inc (pc := 84) (i := 57) (q := 6) (lo' := [(0, _), (1, _), (2, _), (3, _), (4, _), (5, _), (6, _)]) rfl rfl rfl rfl rfl ?_
                refine K_goto 50 (pc := 87) (i := 58) rfl rfl ?_
                exact ih50 (x6 + 1) _ (by omega) hI fx ⟨by omega, li83, (kU_c _ _ _ _ (by decide)).trans hV50.2.2⟩
          exact L50 _ 0 _ (Nat.lt_succ_self _) hI fx ⟨by omega, hV6.2.2.1.i, rfl⟩
        · skip
          refine K_aload_n (pc := 22) (i := 14) rfl rfl ?_
          refine K_getR (pc := 23) (i := 15) (j := 14) (d := 192) rfl S_184 rfl (by decide) rfl fw_Model_31 ?_
          refine K_iconst (pc := 26) (i := 16) rfl ?_
          refine K_aload_n (pc := 27) (i := 17) rfl rfl ?_
          refine K_getR (pc := 28) (i := 18) (j := 3) (d := 187) rfl S_184 rfl (by decide) rfl fw_Model_16 ?_
          refine K_iload_n (pc := 31) (i := 19) rfl rfl ?_
          refine K_iconst (pc := 32) (i := 20) rfl ?_
          refine K_iload (pc := 33) (i := 21) rfl rfl ?_
          refine K_imul (pc := 35) (i := 22) rfl ?_
          refine K_iadd (pc := 36) (i := 23) rfl ?_
          refine K_iald (pc := 37) (i := 24) rfl S_187 (by omega) (by omega) (by decide) ?_
          refine K_nm (fun v37 e37 => ?_)
          have r37 := (rd_mkites hI (x1 + (5 * x5)).toNat).1 (by omega)
          rw [← e37] at r37
          have w37 : kap ha x1.toNat (5 * x5.toNat) = v37 := by rw [e37]; unfold kap; congr 1; omega
          have y37 : kap h x1.toNat (5 * x5.toNat) = v37 := by rw [← w37]; exact (hV6.2.2.1.2 _ (by omega)).symm
          refine K_isub (pc := 38) (i := 25) rfl ?_
          refine K_dup2 (pc := 39) (i := 26) rfl rfl rfl ?_
          refine K_iald (pc := 40) (i := 27) rfl S_192 (by omega) (by omega) (by decide) ?_
          refine K_nm (fun v40 e40 => ?_)
          refine K_iconst (pc := 41) (i := 28) rfl ?_
          refine K_iadd (pc := 42) (i := 29) rfl ?_
          refine K_iast (pc := 43) (i := 30) rfl S_192 (by omega) (by omega) (by decide) ?_
          have hI := st_free (c := 192) hI (by decide +kernel) (by decide) (i := (1 - v37).toNat) (v := v40 + 1)
          have fx := Fx.st (c := 192) (i := (1 - v37).toNat) (v := v40 + 1) fx (by first | (dsimp only; omega) | omega | exact not_false)
          have gn43 := GN.yes (l := (1 - v37).toNat) (w := v40 + 1) hV6.2.2.2 (by omega) (tbx t17 (by omega)) (by rw [y37]; omega) e40 rfl
          have lv43 : LVK (kap h x1.toNat) (kap (kU ha 192 ((1 - v37).toNat) (v40 + 1)) x1.toNat) (pB x3) (x5 + 1).toNat := by rw [show (x5 + 1).toNat = x5.toNat + 1 by omega, kap_of (kU_c _ _ _ _ (by decide))]; exact hV6.2.2.1.no (pB_f (by omega) t17 (by omega))
          have kc43 : x4 = kc (pB x3) (x5 + 1).toNat := by rw [show (x5 + 1).toNat = x5.toNat + 1 by omega, kc, pB_f (by omega) t17 (by omega)]; simp; omega
          refine K_goto 93 (pc := 44) (i := 31) rfl rfl ?_
          refine K_inc (pc := 93) (i := 60) (q := 5) (lo' := [(0, _), (1, _), (2, _), (3, _), (4, _), (5, _)]) rfl rfl rfl rfl rfl ?_
          refine K_goto 6 (pc := 96) (i := 61) rfl rfl ?_
          exact ih6 x4 (x5 + 1) _ (by omega) hI fx (by first | exact ⟨by omega, kc43, lv43, gn43⟩ | exact ⟨by omega, kc90, lv90, gn90⟩)
  exact L6 _ 0 0 _ (Nat.lt_succ_self _) hI fx ⟨by omega, rfl, LVK.z, GN.z⟩
theorem MOk.leave {h H : kH} {n : Int} (b : MOk h) (hf : FK (H 187) n) (e4 : H 184 4 = n) (e2 : H 191 = h 191) (e3 : H 200 = h 200) : MOk H := by
  unfold MOk
  rw [e2, e3, e4]
  exact ⟨hf, b.2.1, b.2.2⟩
set_option maxHeartbeats 4000000 in
set_option maxRecDepth 100000 in
theorem c_Model_gust (G : kG) {g : kGh} {h : kH}  (hT : g.2.2.2.2) (hI : Gd g h) : Ctr G y_Model_gust X_Model_gust 13 [.ref (G.2.2.2 184)] h (kQi (fun z h' => Fx (fun c i => c = 187 ∨ c = 189 ∨ c = 191 ∨ c = 192 ∨ (c = 184 ∧ (i = 4 ∨ i = 11 ∨ i = 12))) h h' ∧ (Gd g h' ∧ CMgust h h' z))) := by
  refine Ctr.ofK (by decide) rfl T_Model_gust (Nat.le_of_ble_eq_true rfl) (lo := [(0, .ref (G.2.2.2 184))]) rfl ?_
  have fx : Fx (fun c i => c = 187 ∨ c = 189 ∨ c = 191 ∨ c = 192 ∨ (c = 184 ∧ (i = 4 ∨ i = 11 ∨ i = 12))) h h := Fx.rf
  refine K_aload_n (pc := 0) (i := 0) rfl rfl ?_
  refine K_cVV (pc := 1) (i := 1) rfl (c_Model_keepAct G (hI := hI)) S_184 rfl (lv_Model_121 rfl) rfl rfl rfl rfl rfl (fun h1 q1 => ?_)
  obtain ⟨fx1, q1⟩ := q1
  obtain ⟨hI, mr1⟩ := q1
  have fx := fx.tr fx1 (fun c i q => (by first | (dsimp only at q ⊢; omega) | omega))
  refine K_aload_n (pc := 4) (i := 2) rfl rfl ?_
  refine K_getR (pc := 5) (i := 3) (j := 14) (d := 192) rfl S_184 rfl (by decide) rfl fw_Model_31 ?_
  refine K_iconst (pc := 8) (i := 4) rfl ?_
  refine K_iconst (pc := 9) (i := 5) rfl ?_
  refine K_iast (pc := 10) (i := 6) rfl S_192 (by omega) (by omega) (by decide) ?_
  have hI := st_free (c := 192) hI (by decide +kernel) (by decide) (i := (0 : Int).toNat) (v := 0)
  have fx := Fx.st (c := 192) (i := (0 : Int).toNat) (v := 0) fx (by first | (dsimp only; omega) | omega | exact not_false)
  refine K_aload_n (pc := 11) (i := 7) rfl rfl ?_
  refine K_getR (pc := 12) (i := 8) (j := 14) (d := 192) rfl S_184 rfl (by decide) rfl fw_Model_31 ?_
  refine K_iconst (pc := 15) (i := 9) rfl ?_
  refine K_iconst (pc := 16) (i := 10) rfl ?_
  refine K_iast (pc := 17) (i := 11) rfl S_192 (by omega) (by omega) (by decide) ?_
  have hI := st_free (c := 192) hI (by decide +kernel) (by decide) (i := (1 : Int).toNat) (v := 0)
  have fx := Fx.st (c := 192) (i := (1 : Int).toNat) (v := 0) fx (by first | (dsimp only; omega) | omega | exact not_false)
  have ga17 : ∀ t : Nat, t < 2 → (kU (kU h1 192 ((0 : Int).toNat) 0) 192 ((1 : Int).toNat) 0) 192 t = 0 := fun t ht => by rcases (show t = 0 ∨ t = 1 by omega) with rfl | rfl <;> simp [kU]
  have fx17 : ∀ c, c ≠ 192 → (kU (kU h1 192 ((0 : Int).toNat) 0) 192 ((1 : Int).toNat) 0) c = h1 c := fun c hc => (kU_c _ _ _ _ hc).trans (kU_c _ _ _ _ hc)
  have hm8 := rd_many hI
  have hkA := (hI.2.2.2.2.2 hT).1
  refine K_aload_n (pc := 18) (i := 12) rfl rfl ?_
  refine K_iconst (pc := 19) (i := 13) rfl ?_
  refine K_aload_n (pc := 20) (i := 14) rfl rfl ?_
  refine K_getI (pc := 21) (i := 15) (j := 4) rfl S_184 rfl (by decide) rfl fw_Model_59 ?_
  refine K_nm (fun v21 e21 => ?_)
  have r21 := rd_many hI
  rw [← e21] at r21
  have t21 : v21 = h 184 4 := by rw [e21, fx17 184 (by decide), fx1 184 4 (by first | (dsimp only; omega) | omega | exact not_false)]
  refine K_cVI (pc := 24) (i := 16) rfl (c_Model_blow0 G (x1 := 0) (x2 := v21) (hk := by rw [e21]; exact FK0 hkA) (hI := hI) (s1 := by omega) (s2 := by omega)) S_184 rfl (lv_Model_141 rfl) rfl rfl rfl rfl rfl (fun v24 h24 q24 => ?_)
  obtain ⟨fx24, q24⟩ := q24
  obtain ⟨hI, r24, bx24, ct24, fk24⟩ := q24
  have fx := fx.tr fx24 (fun c i q => (by first | (dsimp only at q ⊢; omega) | omega))
  have k24 : kap (kU (kU h1 192 ((0 : Int).toNat) 0) 192 ((1 : Int).toNat) 0) (0 : Int).toNat = h 187 := by rw [show kap (kU (kU h1 192 ((0 : Int).toNat) 0) 192 ((1 : Int).toNat) 0) (0 : Int).toNat = (kU (kU h1 192 ((0 : Int).toNat) 0) 192 ((1 : Int).toNat) 0) 187 from kap_0 _, fx17 187 (by decide), fx1.cell 187 (fun i => (by first | (dsimp only; omega) | omega))]
  have w24 : (kU (kU h1 192 ((0 : Int).toNat) 0) 192 ((1 : Int).toNat) 0) 188 = h 188 := by rw [fx17 188 (by decide), fx1.cell 188 (fun i => (by first | (dsimp only; omega) | omega))]
  rw [k24, w24, t21] at bx24
  rw [w24, t21] at ct24
  rw [t21] at fk24
  have bx25 : BXK (h 187) (kap h24 0) (h 188) (h 184 4) := bx24
  have e192 : h24 192 = (kU (kU h1 192 ((0 : Int).toNat) 0) 192 ((1 : Int).toNat) 0) 192 := fx24.cell 192 (fun i => (by first | (dsimp only; omega) | omega))
  refine K_ist_n (pc := 27) (i := 17) (lo' := [(0, _), (1, _)]) rfl rfl rfl rfl ?_
  have hG := hI
  refine K_aload_n (pc := 28) (i := 18) rfl rfl ?_
  refine K_aload_n (pc := 29) (i := 19) rfl rfl ?_
  refine K_iconst (pc := 30) (i := 20) rfl ?_
  refine K_aload_n (pc := 31) (i := 21) rfl rfl ?_
  refine K_getI (pc := 32) (i := 22) (j := 4) rfl S_184 rfl (by decide) rfl fw_Model_59 ?_
  refine K_nm (fun v32 e32 => ?_)
  have r32 := rd_many hI
  rw [← e32] at r32
  have t32 : v32 = h 184 4 := by rw [e32, fx24.cell 184 (fun i => (by first | (dsimp only; omega) | omega)), fx17 184 (by decide), fx1 184 4 (by first | (dsimp only; omega) | omega | exact not_false)]
  refine K_iload_n (pc := 35) (i := 23) rfl rfl ?_
  refine K_cVI (pc := 36) (i := 24) rfl (c_Model_leave0 G (x1 := 0) (x2 := v32) (x3 := v24) (hI := hI) (s1 := by omega) (s2 := by omega)) S_184 rfl (lv_Model_144 rfl) rfl rfl rfl rfl rfl (fun v36 h36 q36 => ?_)
  obtain ⟨fx36, q36⟩ := q36
  obtain ⟨hI, r36, kc36, th36, gn36⟩ := q36
  have fx := fx.tr fx36 (fun c i q => (by first | (dsimp only at q ⊢; omega) | omega))
  rw [t32] at kc36 th36 gn36
  refine K_putI (pc := 39) (i := 25) (j := 4) rfl S_184 rfl (by decide) rfl rfl rfl fw_Model_59 ?_
  have hI := st_many hI (v := v36) (by omega) (fun e _ => False.elim e)
  have fx := Fx.st (c := 184) (i := 4) (v := v36) fx (by first | (dsimp only; omega) | omega | exact not_false)
  refine K_aload_n (pc := 42) (i := 26) rfl rfl ?_
  refine K_getR (pc := 43) (i := 27) (j := 6) (d := 189) rfl S_184 rfl (by decide) rfl fw_Model_22 ?_
  refine K_iconst (pc := 46) (i := 28) rfl ?_
  refine K_dup2 (pc := 47) (i := 29) rfl rfl rfl ?_
  refine K_iald (pc := 48) (i := 30) rfl S_189 (by omega) (by omega) (by decide) ?_
  refine K_nm (fun v48 e48 => ?_)
  refine K_aload_n (pc := 49) (i := 31) rfl rfl ?_
  refine K_getR (pc := 50) (i := 32) (j := 14) (d := 192) rfl S_184 rfl (by decide) rfl fw_Model_31 ?_
  refine K_iconst (pc := 53) (i := 33) rfl ?_
  refine K_iald (pc := 54) (i := 34) rfl S_192 (by omega) (by omega) (by decide) ?_
  refine K_nm (fun v54 e54 => ?_)
  refine K_iadd (pc := 55) (i := 35) rfl ?_
  refine K_iast (pc := 56) (i := 36) rfl S_189 (by omega) (by omega) (by decide) ?_
  have hI := st_free (c := 189) hI (by decide +kernel) (by decide) (i := (0 : Int).toNat) (v := v48 + v54)
  have fx := Fx.st (c := 189) (i := (0 : Int).toNat) (v := v48 + v54) fx (by first | (dsimp only; omega) | omega | exact not_false)
  refine K_aload_n (pc := 57) (i := 37) rfl rfl ?_
  refine K_getR (pc := 58) (i := 38) (j := 6) (d := 189) rfl S_184 rfl (by decide) rfl fw_Model_22 ?_
  refine K_iconst (pc := 61) (i := 39) rfl ?_
  refine K_dup2 (pc := 62) (i := 40) rfl rfl rfl ?_
  refine K_iald (pc := 63) (i := 41) rfl S_189 (by omega) (by omega) (by decide) ?_
  refine K_nm (fun v63 e63 => ?_)
  refine K_aload_n (pc := 64) (i := 42) rfl rfl ?_
  refine K_getR (pc := 65) (i := 43) (j := 14) (d := 192) rfl S_184 rfl (by decide) rfl fw_Model_31 ?_
  refine K_iconst (pc := 68) (i := 44) rfl ?_
  refine K_iald (pc := 69) (i := 45) rfl S_192 (by omega) (by omega) (by decide) ?_
  refine K_nm (fun v69 e69 => ?_)
  refine K_iadd (pc := 70) (i := 46) rfl ?_
  refine K_iast (pc := 71) (i := 47) rfl S_189 (by omega) (by omega) (by decide) ?_
  have hI := st_free (c := 189) hI (by decide +kernel) (by decide) (i := (1 : Int).toNat) (v := v63 + v69)
  have fx := Fx.st (c := 189) (i := (1 : Int).toNat) (v := v63 + v69) fx (by first | (dsimp only; omega) | omega | exact not_false)
  refine K_iload_n (pc := 72) (i := 48) rfl rfl ?_
  exact K_retI (pc := 73) (i := 49) rfl rfl ⟨fx, (by
    have E187 : (kU (kU (kU h36 184 4 v36) 189 ((0 : Int).toNat) (v48 + v54)) 189 ((1 : Int).toNat) (v63 + v69)) 187 = kap h36 0 := by rw [kap_0]; simp only [kU_c _ _ _ _ (show (187 : Nat) ≠ 189 by decide), kU_c _ _ _ _ (show (187 : Nat) ≠ 184 by decide)]
    have E4 : (kU (kU (kU h36 184 4 v36) 189 ((0 : Int).toNat) (v48 + v54)) 189 ((1 : Int).toNat) (v63 + v69)) 184 4 = v36 := by rw [kU_c _ _ _ _ (by decide), kU_c _ _ _ _ (by decide), kU_at, if_pos ⟨rfl, rfl⟩]
    have E191 : (kU (kU (kU h36 184 4 v36) 189 ((0 : Int).toNat) (v48 + v54)) 189 ((1 : Int).toNat) (v63 + v69)) 191 = h36 191 := by simp only [kU_c _ _ _ _ (show (191 : Nat) ≠ 189 by decide), kU_c _ _ _ _ (show (191 : Nat) ≠ 184 by decide)]
    have E200 : (kU (kU (kU h36 184 4 v36) 189 ((0 : Int).toNat) (v48 + v54)) 189 ((1 : Int).toNat) (v63 + v69)) 200 = h36 200 := by simp only [kU_c _ _ _ _ (show (200 : Nat) ≠ 189 by decide), kU_c _ _ _ _ (show (200 : Nat) ≠ 184 by decide)]
    have E11 : (kU (kU (kU h36 184 4 v36) 189 ((0 : Int).toNat) (v48 + v54)) 189 ((1 : Int).toNat) (v63 + v69)) 184 11 = h1 184 11 := by rw [kU_c _ _ _ _ (by decide), kU_c _ _ _ _ (by decide), kU_at, if_neg (by omega), fx36.cell 184 (fun i => (by first | (dsimp only; omega) | omega)), fx24.cell 184 (fun i => (by first | (dsimp only; omega) | omega)), fx17 184 (by decide)]
    have E12 : (kU (kU (kU h36 184 4 v36) 189 ((0 : Int).toNat) (v48 + v54)) 189 ((1 : Int).toNat) (v63 + v69)) 184 12 = h1 184 12 := by rw [kU_c _ _ _ _ (by decide), kU_c _ _ _ _ (by decide), kU_at, if_neg (by omega), fx36.cell 184 (fun i => (by first | (dsimp only; omega) | omega)), fx24.cell 184 (fun i => (by first | (dsimp only; omega) | omega)), fx17 184 (by decide)]
    have E189 : h36 189 = h 189 := by rw [fx36.cell 189 (fun i => (by first | (dsimp only; omega) | omega)), fx24.cell 189 (fun i => (by first | (dsimp only; omega) | omega)), fx17 189 (by decide), fx1.cell 189 (fun i => (by first | (dsimp only; omega) | omega))]
    have GG : ∀ t : Nat, t < 2 → h36 192 t = cw v24 (fun i => h 187 (5 * i)) t (h 184 4).toNat := fun t ht => by
      have q : h36 192 t = h24 192 t + cw v24 (fun i => kap h24 0 (5 * i)) t (h 184 4).toNat := gn36 t ht
      rw [q, e192, ga17 t ht, Int.zero_add, cw_k bx25]
    have V0 : (kU (kU (kU h36 184 4 v36) 189 ((0 : Int).toNat) (v48 + v54)) 189 ((1 : Int).toNat) (v63 + v69)) 189 0 = h 189 0 + h36 192 0 := by
      rw [kU_at, if_neg (by simp), kU_at, if_pos (by simp), e48, e54]
      rw [kU_c _ _ _ _ (by decide), kU_c _ _ _ _ (by decide), E189]
      rfl
    have V1 : (kU (kU (kU h36 184 4 v36) 189 ((0 : Int).toNat) (v48 + v54)) 189 ((1 : Int).toNat) (v63 + v69)) 189 1 = h 189 1 + h36 192 1 := by
      rw [kU_at, if_pos (by simp), e63, e69]
      rw [kU_at, if_neg (by simp), kU_c _ _ _ _ (by decide), kU_c _ _ _ _ (by decide), kU_c _ _ _ _ (by decide), E189]
      rfl
    have th : THK (kap h24 0) (kap h36 0) (pB v24) (h 184 4) := th36
    have fk : FK (kap h36 0) v36 := by rw [kc36]; exact FK.thin fk24 th (by omega)
    refine ⟨Gd.fn hI (fun e => MOk.leave (hG.2.2.2.2.2 e) (n := v36) (by rw [E187]; exact fk) E4 (by rw [E191, fx36.cell 191 (fun i => (by first | (dsimp only; omega) | omega))]) (by rw [E200, fx36.cell 200 (fun i => (by first | (dsimp only; omega) | omega))])), MR.of mr1 (by rw [E191, fx36.cell 191 (fun i => (by first | (dsimp only; omega) | omega)), fx24.cell 191 (fun i => (by first | (dsimp only; omega) | omega)), fx17 191 (by decide)]) E11 E12, h36 192, ?_, V0, V1⟩
    rw [E187, E4]
    exact ⟨kap h24 0, ⟨by omega, bx25, ct24, fk24⟩, kc36, th, GG⟩)⟩
