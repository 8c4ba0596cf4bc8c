set_option maxHeartbeats 4000000 in
set_option maxRecDepth 100000 in
theorem c_Model_blow40 (G : kG) {g : kGh} {h : kH} {x1 : Int} {x2 : Int} (s1 : x1 = 40) (s2 : 0 ≤ x2 ∧ x2 ≤ 8) (hk : FK (kap h x1.toNat) x2) (hI : Gd g h) : Ctr G y_Model_blow X_Model_blow 3 [.ref (G.2.2.2 184), kI x1, kI x2] h (kQi (fun z h' => Fx (fun c i => (c = 187 ∧ 40 ≤ i)) h h' ∧ (Gd g h' ∧ kR z ∧ BXK (kap h x1.toNat) (kap h' x1.toNat) (h 188) x2 ∧ CtK (kap h' x1.toNat) (h 188) x2 z ∧ FK (kap h' x1.toNat) x2))) := by
  refine Ctr.ofK (by decide) rfl T_Model_blow (Nat.le_of_ble_eq_true rfl) (lo := [(0, .ref (G.2.2.2 184)), (1, kI x1), (2, kI x2)]) rfl ?_
  have fx : Fx (fun c i => (c = 187 ∧ 40 ≤ i)) h h := Fx.rf
  refine K_iconst (pc := 0) (i := 0) rfl ?_
  refine K_ist_n (pc := 1) (i := 1) (lo' := [(0, _), (1, _), (2, _), (3, _)]) rfl rfl rfl rfl ?_
  have L2 : ∀ (n : Nat) (x3 : Int) (ha : kH), (8 - x3).toNat < n → (Gd g ha) → (Fx (fun c i => (c = 187 ∧ 40 ≤ i)) h ha) → ((0 ≤ x3 ∧ x3 ≤ x2) ∧ BXK (kap h x1.toNat) (kap ha x1.toNat) (h 188) x3) → K X_Model_blow G (kZm G 3 (kQi (fun z h' => Fx (fun c i => (c = 187 ∧ 40 ≤ i)) h h' ∧ (Gd g h' ∧ kR z ∧ BXK (kap h x1.toNat) (kap h' x1.toNat) (h 188) x2 ∧ CtK (kap h' x1.toNat) (h 188) x2 z ∧ FK (kap h' x1.toNat) x2)))) 2 [(0, .ref (G.2.2.2 184)), (1, kI x1), (2, kI x2), (3, kI x3)] [] ha := by
    intro n
    induction n with
    | zero => intro x3 ha hm; exact absurd hm (Nat.not_lt_zero _)
    | succ n ih2 =>
      intro x3 ha hm2 hI fx hV2
      refine K_iload_n (pc := 2) (i := 2) rfl rfl ?_
      refine K_iload_n (pc := 3) (i := 3) rfl rfl ?_
      first | refine K_icmp_ge 80 (pc := 4) (i := 4) rfl rfl (by omega) (by omega) (fun b4 => ?_) (fun b4 => ?_) | refine K_icmp_ge_an 80 (pc := 4) (i := 4) rfl rfl (fun b4 => ?_) (fun b4 => ?_)
      · skip
        have bx80 : BXK (kap h x1.toNat) (kap ha x1.toNat) (h 188) x2 := by have q := hV2.2; rwa [show x3 = x2 by omega] at q
        have fk80 : FK (kap ha x1.toNat) x2 := hk.blow bx80
        have w80 : ha 188 = h 188 := fx.cell 188 (fun i => (by first | (dsimp only; omega) | omega | exact not_false))
        refine K_iconst (pc := 80) (i := 52) rfl ?_
        refine K_ist_n (pc := 81) (i := 53) (lo' := [(0, _), (1, _), (2, _), (3, _)]) rfl rfl rfl rfl ?_
        refine K_iconst (pc := 82) (i := 54) rfl ?_
        refine K_ist (pc := 83) (i := 55) (lo' := [(0, _), (1, _), (2, _), (3, _), (4, _)]) rfl rfl rfl rfl ?_
        have L85 : ∀ (n : Nat) (x3 : Int) (x4 : Int), (8 - x4).toNat < n → ((0 ≤ x4 ∧ x4 ≤ x2) ∧ kR x3 ∧ CKI (kap ha x1.toNat) (ha 188) x2 x3 x4 0) → K X_Model_blow G (kZm G 3 (kQi (fun z h' => Fx (fun c i => (c = 187 ∧ 40 ≤ i)) h h' ∧ (Gd g h' ∧ kR z ∧ BXK (kap h x1.toNat) (kap h' x1.toNat) (h 188) x2 ∧ CtK (kap h' x1.toNat) (h 188) x2 z ∧ FK (kap h' x1.toNat) x2)))) 85 [(0, .ref (G.2.2.2 184)), (1, kI x1), (2, kI x2), (3, kI x3), (4, kI x4)] [] ha := by
          intro n
          induction n with
          | zero => intro x3 x4 hm; exact absurd hm (Nat.not_lt_zero _)
          | succ n ih85 =>
            intro x3 x4 hm85 hV85
            refine K_iload (pc := 85) (i := 56) rfl rfl ?_
            refine K_iload_n (pc := 87) (i := 57) rfl rfl ?_
            first | refine K_icmp_ge 189 (pc := 88) (i := 58) rfl rfl (by omega) (by omega) (fun b88 => ?_) (fun b88 => ?_) | refine K_icmp_ge_an 189 (pc := 88) (i := 58) rfl rfl (fun b88 => ?_) (fun b88 => ?_)
            · skip
              refine K_iload_n (pc := 189) (i := 114) rfl rfl ?_
              exact K_retI (pc := 190) (i := 115) rfl rfl ⟨fx, ⟨hI, by omega, bx80, by rw [← w80]; exact hV85.2.2.end (by omega), fk80⟩⟩
            · skip
              refine K_iconst (pc := 91) (i := 59) rfl ?_
              refine K_ist (pc := 92) (i := 60) (lo' := [(0, _), (1, _), (2, _), (3, _), (4, _), (5, _)]) rfl rfl rfl rfl ?_
              have L94 : ∀ (n : Nat) (x3 : Int) (x5 : Int), (8 - x5).toNat < n → ((0 ≤ x5 ∧ x5 ≤ x2) ∧ kR x3 ∧ CKI (kap ha x1.toNat) (ha 188) x2 x3 x4 x5) → K X_Model_blow G (kZm G 3 (kQi (fun z h' => Fx (fun c i => (c = 187 ∧ 40 ≤ i)) h h' ∧ (Gd g h' ∧ kR z ∧ BXK (kap h x1.toNat) (kap h' x1.toNat) (h 188) x2 ∧ CtK (kap h' x1.toNat) (h 188) x2 z ∧ FK (kap h' x1.toNat) x2)))) 94 [(0, .ref (G.2.2.2 184)), (1, kI x1), (2, kI x2), (3, kI x3), (4, kI x4), (5, kI x5)] [] ha := by
                intro n
                induction n with
                | zero => intro x3 x5 hm; exact absurd hm (Nat.not_lt_zero _)
                | succ n ih94 =>
                  intro x3 x5 hm94 hV94
                  refine K_iload (pc := 94) (i := 61) rfl rfl ?_
                  refine K_iload_n (pc := 96) (i := 62) rfl rfl ?_
                  first | refine K_icmp_ge 183 (pc := 97) (i := 63) rfl rfl (by omega) (by omega) (fun b97 => ?_) (fun b97 => ?_) | refine K_icmp_ge_an 183 (pc := 97) (i := 63) rfl rfl (fun b97 => ?_) (fun b97 => ?_)
                  · skip
                    refine K_inc (pc := 183) (i := 112) (q := 4) (lo' := [(0, _), (1, _), (2, _), (3, _), (4, _), (5, _)]) rfl rfl rfl rfl rfl ?_
                    refine K_goto 85 (pc := 186) (i := 113) rfl rfl ?_
                    refine K_drop (lo' := [(0, .ref (G.2.2.2 184)), (1, kI x1), (2, kI x2), (3, kI x3), (4, kI (x4 + 1))]) [0, 1, 2, 3, 4] rfl ?_
                    exact ih85 x3 (x4 + 1) (by omega) ⟨by omega, by omega, hV94.2.2.next (by omega)⟩
                  · skip
                    refine K_aload_n (pc := 100) (i := 64) rfl rfl ?_
                    refine K_getR (pc := 101) (i := 65) (j := 3) (d := 187) rfl S_184 rfl (by decide) rfl fw_Model_16 ?_
                    refine K_iload_n (pc := 104) (i := 66) rfl rfl ?_
                    refine K_iconst (pc := 105) (i := 67) rfl ?_
                    refine K_iload (pc := 106) (i := 68) rfl rfl ?_
                    refine K_imul (pc := 108) (i := 69) rfl ?_
                    refine K_iadd (pc := 109) (i := 70) rfl ?_
                    refine K_iald (pc := 110) (i := 71) rfl S_187 (by omega) (by omega) (by decide) ?_
                    refine K_nm (fun v110 e110 => ?_)
                    have r110 := (rd_mkites hI (x1 + (5 * x4)).toNat).1 (by omega)
                    rw [← e110] at r110
                    have w110 : kap ha x1.toNat (5 * x4.toNat) = v110 := by rw [e110]; unfold kap; congr 1; omega
                    refine K_aload_n (pc := 111) (i := 72) rfl rfl ?_
                    refine K_getR (pc := 112) (i := 73) (j := 3) (d := 187) rfl S_184 rfl (by decide) rfl fw_Model_16 ?_
                    refine K_iload_n (pc := 115) (i := 74) rfl rfl ?_
                    refine K_iconst (pc := 116) (i := 75) rfl ?_
                    refine K_iload (pc := 117) (i := 76) rfl rfl ?_
                    refine K_imul (pc := 119) (i := 77) rfl ?_
                    refine K_iadd (pc := 120) (i := 78) rfl ?_
                    refine K_iald (pc := 121) (i := 79) rfl S_187 (by omega) (by omega) (by decide) ?_
                    refine K_nm (fun v121 e121 => ?_)
                    have r121 := (rd_mkites hI (x1 + (5 * x5)).toNat).1 (by omega)
                    rw [← e121] at r121
                    have w121 : kap ha x1.toNat (5 * x5.toNat) = v121 := by rw [e121]; unfold kap; congr 1; omega
                    first | refine K_icmp_eq 158 (pc := 122) (i := 80) rfl rfl (by omega) (by omega) (fun b122 => ?_) (fun b122 => ?_) | refine K_icmp_eq_an 158 (pc := 122) (i := 80) rfl rfl (fun b122 => ?_) (fun b122 => ?_)
                    · skip
                      refine K_iconst (pc := 158) (i := 98) rfl ?_
                      refine K_ist (pc := 159) (i := 99) (lo' := [(0, _), (1, _), (2, _), (3, _), (4, _), (5, _), (6, _)]) rfl rfl rfl rfl ?_
                      refine K_iload_n (pc := 161) (i := 100) rfl rfl ?_
                      refine K_iload (pc := 162) (i := 101) rfl rfl ?_
                      refine K_if_eq 174 (pc := 164) (i := 102) rfl rfl (by omega) (fun _ => ?_) (fun b164 => False.elim (by omega))
                      refine K_iconst (pc := 174) (i := 107) rfl ?_
                      refine K_ior (pc := 175) (i := 108) rfl ?_
                      refine K_nm (fun v175 e175 => ?_)
                      have r175 := kOr_R x3 0
                      rw [← e175] at r175
                      refine K_ist_n (pc := 176) (i := 109) (lo' := [(0, _), (1, _), (2, _), (3, _), (4, _), (5, _), (6, _)]) rfl rfl rfl rfl ?_
                      refine K_inc (pc := 177) (i := 110) (q := 5) (lo' := [(0, _), (1, _), (2, _), (3, _), (4, _), (5, _), (6, _)]) rfl rfl rfl rfl rfl ?_
                      refine K_goto 94 (pc := 180) (i := 111) rfl rfl ?_
                      refine K_drop (lo' := [(0, .ref (G.2.2.2 184)), (1, kI x1), (2, kI x2), (3, kI v175), (4, kI x4), (5, kI (x5 + 1))]) [0, 1, 2, 3, 4, 5] rfl ?_
                      exact ih94 v175 (x5 + 1) (by omega) ⟨by omega, by omega, by rw [e175]; first | exact hV94.2.2.skip hV85.1.1 hV94.1.1 (fun q => q.1 (by rw [w110, w121]; exact b122)) | exact hV94.2.2.skip hV85.1.1 hV94.1.1 (fun q => absurd q.2.1 (by rw [← r129.2, ← r136.2]; omega)) | exact hV94.2.2.skip hV85.1.1 hV94.1.1 (fun q => r148.elim (fun e => absurd e.1 (by omega)) (fun e => e.2 q.2.2)) | (rw [e170]; exact hV94.2.2.hit (by omega) (by omega) (by omega) ⟨by rw [w110, w121]; exact b122, by rw [← r129.2, ← r136.2]; omega, r148.elim (fun q => q.2) (fun q => absurd q.1 (by omega))⟩)⟩
                    · skip
                      refine K_aload_n (pc := 125) (i := 81) rfl rfl ?_
                      refine K_iload_n (pc := 126) (i := 82) rfl rfl ?_
                      refine K_iload (pc := 127) (i := 83) rfl rfl ?_
                      refine K_cVI (pc := 129) (i := 84) rfl (c_Model_edgeOf G (x1 := x1) (x2 := x4) (hI := hI) (s1 := by omega) (s2 := by omega)) S_184 rfl (lv_Model_108 rfl) rfl rfl rfl rfl rfl (fun v129 h129 q129 => ?_)
                      obtain ⟨eh, r129⟩ := q129
                      rw [eh]; clear eh
                      refine K_aload_n (pc := 132) (i := 85) rfl rfl ?_
                      refine K_iload_n (pc := 133) (i := 86) rfl rfl ?_
                      refine K_iload (pc := 134) (i := 87) rfl rfl ?_
                      refine K_cVI (pc := 136) (i := 88) rfl (c_Model_edgeOf G (x1 := x1) (x2 := x5) (hI := hI) (s1 := by omega) (s2 := by omega)) S_184 rfl (lv_Model_108 rfl) rfl rfl rfl rfl rfl (fun v136 h136 q136 => ?_)
                      obtain ⟨eh, r136⟩ := q136
                      rw [eh]; clear eh
                      first | refine K_icmp_le 158 (pc := 139) (i := 89) rfl rfl (by omega) (by omega) (fun b139 => ?_) (fun b139 => ?_) | refine K_icmp_le_an 158 (pc := 139) (i := 89) rfl rfl (fun b139 => ?_) (fun b139 => ?_)
                      · skip
                        refine K_iconst (pc := 158) (i := 98) rfl ?_
                        refine K_ist (pc := 159) (i := 99) (lo' := [(0, _), (1, _), (2, _), (3, _), (4, _), (5, _), (6, _)]) rfl rfl rfl rfl ?_
                        refine K_iload_n (pc := 161) (i := 100) rfl rfl ?_
                        refine K_iload (pc := 162) (i := 101) rfl rfl ?_
                        refine K_if_eq 174 (pc := 164) (i := 102) rfl rfl (by omega) (fun _ => ?_) (fun b164 => False.elim (by omega))
                        refine K_iconst (pc := 174) (i := 107) rfl ?_
                        refine K_ior (pc := 175) (i := 108) rfl ?_
                        refine K_nm (fun v175 e175 => ?_)
                        have r175 := kOr_R x3 0
                        rw [← e175] at r175
                        refine K_ist_n (pc := 176) (i := 109) (lo' := [(0, _), (1, _), (2, _), (3, _), (4, _), (5, _), (6, _)]) rfl rfl rfl rfl ?_
                        refine K_inc (pc := 177) (i := 110) (q := 5) (lo' := [(0, _), (1, _), (2, _), (3, _), (4, _), (5, _), (6, _)]) rfl rfl rfl rfl rfl ?_
                        refine K_goto 94 (pc := 180) (i := 111) rfl rfl ?_
                        refine K_drop (lo' := [(0, .ref (G.2.2.2 184)), (1, kI x1), (2, kI x2), (3, kI v175), (4, kI x4), (5, kI (x5 + 1))]) [0, 1, 2, 3, 4, 5] rfl ?_
                        exact ih94 v175 (x5 + 1) (by omega) ⟨by omega, by omega, by rw [e175]; first | exact hV94.2.2.skip hV85.1.1 hV94.1.1 (fun q => q.1 (by rw [w110, w121]; exact b122)) | exact hV94.2.2.skip hV85.1.1 hV94.1.1 (fun q => absurd q.2.1 (by rw [← r129.2, ← r136.2]; omega)) | exact hV94.2.2.skip hV85.1.1 hV94.1.1 (fun q => r148.elim (fun e => absurd e.1 (by omega)) (fun e => e.2 q.2.2)) | (rw [e170]; exact hV94.2.2.hit (by omega) (by omega) (by omega) ⟨by rw [w110, w121]; exact b122, by rw [← r129.2, ← r136.2]; omega, r148.elim (fun q => q.2) (fun q => absurd q.1 (by omega))⟩)⟩
                      · skip
                        refine K_aload_n (pc := 142) (i := 90) rfl rfl ?_
                        refine K_iload_n (pc := 143) (i := 91) rfl rfl ?_
                        refine K_iload (pc := 144) (i := 92) rfl rfl ?_
                        refine K_iload (pc := 146) (i := 93) rfl rfl ?_
                        refine K_cVI (pc := 148) (i := 94) rfl (c_Model_doCross G (x1 := x1) (x2 := x4) (x3 := x5) (hk := fk80) (hI := hI) (hn := by omega) (s1 := by omega) (s2 := by omega) (s3 := by omega)) S_184 rfl (lv_Model_137 rfl) rfl rfl rfl rfl rfl (fun v148 h148 q148 => ?_)
                        obtain ⟨eh, r148⟩ := q148
                        rw [eh]; clear eh
                        first | refine K_if_eq 158 (pc := 151) (i := 95) rfl rfl (by omega) (fun b151 => ?_) (fun b151 => ?_) | refine K_if_eq_an 158 (pc := 151) (i := 95) rfl rfl (fun b151 => ?_) (fun b151 => ?_)
                        · skip
                          refine K_iconst (pc := 158) (i := 98) rfl ?_
                          refine K_ist (pc := 159) (i := 99) (lo' := [(0, _), (1, _), (2, _), (3, _), (4, _), (5, _), (6, _)]) rfl rfl rfl rfl ?_
                          refine K_iload_n (pc := 161) (i := 100) rfl rfl ?_
                          refine K_iload (pc := 162) (i := 101) rfl rfl ?_
                          refine K_if_eq 174 (pc := 164) (i := 102) rfl rfl (by omega) (fun _ => ?_) (fun b164 => False.elim (by omega))
                          refine K_iconst (pc := 174) (i := 107) rfl ?_
                          refine K_ior (pc := 175) (i := 108) rfl ?_
                          refine K_nm (fun v175 e175 => ?_)
                          have r175 := kOr_R x3 0
                          rw [← e175] at r175
                          refine K_ist_n (pc := 176) (i := 109) (lo' := [(0, _), (1, _), (2, _), (3, _), (4, _), (5, _), (6, _)]) rfl rfl rfl rfl ?_
                          refine K_inc (pc := 177) (i := 110) (q := 5) (lo' := [(0, _), (1, _), (2, _), (3, _), (4, _), (5, _), (6, _)]) rfl rfl rfl rfl rfl ?_
                          refine K_goto 94 (pc := 180) (i := 111) rfl rfl ?_
                          refine K_drop (lo' := [(0, .ref (G.2.2.2 184)), (1, kI x1), (2, kI x2), (3, kI v175), (4, kI x4), (5, kI (x5 + 1))]) [0, 1, 2, 3, 4, 5] rfl ?_
                          exact ih94 v175 (x5 + 1) (by omega) ⟨by omega, by omega, by rw [e175]; first | exact hV94.2.2.skip hV85.1.1 hV94.1.1 (fun q => q.1 (by rw [w110, w121]; exact b122)) | exact hV94.2.2.skip hV85.1.1 hV94.1.1 (fun q => absurd q.2.1 (by rw [← r129.2, ← r136.2]; omega)) | exact hV94.2.2.skip hV85.1.1 hV94.1.1 (fun q => r148.elim (fun e => absurd e.1 (by omega)) (fun e => e.2 q.2.2)) | (rw [e170]; exact hV94.2.2.hit (by omega) (by omega) (by omega) ⟨by rw [w110, w121]; exact b122, by rw [← r129.2, ← r136.2]; omega, r148.elim (fun q => q.2) (fun q => absurd q.1 (by omega))⟩)⟩
                        · skip
                          refine K_iconst (pc := 154) (i := 96) rfl ?_
                          refine K_goto 159 (pc := 155) (i := 97) rfl rfl ?_
                          refine K_ist (pc := 159) (i := 99) (lo' := [(0, _), (1, _), (2, _), (3, _), (4, _), (5, _), (6, _)]) rfl rfl rfl rfl ?_
                          refine K_iload_n (pc := 161) (i := 100) rfl rfl ?_
                          refine K_iload (pc := 162) (i := 101) rfl rfl ?_
                          refine K_if_eq 174 (pc := 164) (i := 102) rfl rfl (by omega) (fun b164 => False.elim (by omega)) (fun _ => ?_)
                          refine K_iconst (pc := 167) (i := 103) rfl ?_
                          refine K_iload (pc := 168) (i := 104) rfl rfl ?_
                          refine K_ishl (pc := 170) (i := 105) rfl ?_
                          refine K_nm (fun v170 e170 => ?_)
                          have r170 := kShl_R 1 x5
                          rw [← e170] at r170
                          refine K_goto 175 (pc := 171) (i := 106) rfl rfl ?_
                          refine K_ior (pc := 175) (i := 108) rfl ?_
                          refine K_nm (fun v175 e175 => ?_)
                          have r175 := kOr_R x3 v170
                          rw [← e175] at r175
                          refine K_ist_n (pc := 176) (i := 109) (lo' := [(0, _), (1, _), (2, _), (3, _), (4, _), (5, _), (6, _)]) rfl rfl rfl rfl ?_
                          refine K_inc (pc := 177) (i := 110) (q := 5) (lo' := [(0, _), (1, _), (2, _), (3, _), (4, _), (5, _), (6, _)]) rfl rfl rfl rfl rfl ?_
                          refine K_goto 94 (pc := 180) (i := 111) rfl rfl ?_
                          refine K_drop (lo' := [(0, .ref (G.2.2.2 184)), (1, kI x1), (2, kI x2), (3, kI v175), (4, kI x4), (5, kI (x5 + 1))]) [0, 1, 2, 3, 4, 5] rfl ?_
                          exact ih94 v175 (x5 + 1) (by omega) ⟨by omega, by omega, by rw [e175]; first | exact hV94.2.2.skip hV85.1.1 hV94.1.1 (fun q => q.1 (by rw [w110, w121]; exact b122)) | exact hV94.2.2.skip hV85.1.1 hV94.1.1 (fun q => absurd q.2.1 (by rw [← r129.2, ← r136.2]; omega)) | exact hV94.2.2.skip hV85.1.1 hV94.1.1 (fun q => r148.elim (fun e => absurd e.1 (by omega)) (fun e => e.2 q.2.2)) | (rw [e170]; exact hV94.2.2.hit (by omega) (by omega) (by omega) ⟨by rw [w110, w121]; exact b122, by rw [← r129.2, ← r136.2]; omega, r148.elim (fun q => q.2) (fun q => absurd q.1 (by omega))⟩)⟩
              exact L94 _ x3 0 (Nat.lt_succ_self _) ⟨by omega, by omega, hV85.2.2⟩
        exact L85 _ 0 0 (Nat.lt_succ_self _) ⟨by omega, by omega, CKI.zero⟩
      · skip
        refine K_aload_n (pc := 7) (i := 5) rfl rfl ?_
        refine K_getR (pc := 8) (i := 6) (j := 3) (d := 187) rfl S_184 rfl (by decide) rfl fw_Model_16 ?_
        refine K_iload_n (pc := 11) (i := 7) rfl rfl ?_
        refine K_iconst (pc := 12) (i := 8) rfl ?_
        refine K_iload_n (pc := 13) (i := 9) rfl rfl ?_
        refine K_imul (pc := 14) (i := 10) rfl ?_
        refine K_iadd (pc := 15) (i := 11) rfl ?_
        refine K_iconst (pc := 16) (i := 12) rfl ?_
        refine K_iadd (pc := 17) (i := 13) rfl ?_
        refine K_iald (pc := 18) (i := 14) rfl S_187 (by omega) (by omega) (by decide) ?_
        refine K_nm (fun v18 e18 => ?_)
        have w18 : kap ha x1.toNat (5 * x3.toNat + 2) = v18 := by rw [e18]; unfold kap; congr 1; omega
        have y18 : kap h x1.toNat (5 * x3.toNat + 2) = v18 := by rw [← w18]; exact (hV2.2.ge (by omega)).symm
        have u18 := (hk x3.toNat (by omega)).2.1
        rw [y18] at u18
        refine K_aload_n (pc := 19) (i := 15) rfl rfl ?_
        refine K_getR (pc := 20) (i := 16) (j := 5) (d := 188) rfl S_184 rfl (by decide) rfl fw_Model_19 ?_
        refine K_aload_n (pc := 23) (i := 17) rfl rfl ?_
        refine K_getR (pc := 24) (i := 18) (j := 3) (d := 187) rfl S_184 rfl (by decide) rfl fw_Model_16 ?_
        refine K_iload_n (pc := 27) (i := 19) rfl rfl ?_
        refine K_iconst (pc := 28) (i := 20) rfl ?_
        refine K_iload_n (pc := 29) (i := 21) rfl rfl ?_
        refine K_imul (pc := 30) (i := 22) rfl ?_
        refine K_iadd (pc := 31) (i := 23) rfl ?_
        refine K_iconst (pc := 32) (i := 24) rfl ?_
        refine K_iadd (pc := 33) (i := 25) rfl ?_
        refine K_iald (pc := 34) (i := 26) rfl S_187 (by omega) (by omega) (by decide) ?_
        refine K_nm (fun v34 e34 => ?_)
        have r34 := (rd_mkites hI ((x1 + (5 * x3)) + 3).toNat).2.1 (by omega)
        rw [← e34] at r34
        have w34 : kap ha x1.toNat (5 * x3.toNat + 3) = v34 := by rw [e34]; unfold kap; congr 1; omega
        have y34 : kap h x1.toNat (5 * x3.toNat + 3) = v34 := by rw [← w34]; exact (hV2.2.ot (by omega)).symm
        refine K_iald (pc := 35) (i := 27) rfl S_188 (by omega) (by omega) (by decide) ?_
        refine K_nm (fun v35 e35 => ?_)
        have r35 := rd_mwinds hI (v34).toNat
        rw [← e35] at r35
        have y35 : v35 = h 188 v34.toNat := by rw [e35, fx.cell 188 (fun i => (by first | (dsimp only; omega) | omega | exact not_false))]
        refine K_iadd (pc := 36) (i := 28) rfl ?_
        refine K_ist (pc := 37) (i := 29) (lo' := [(0, _), (1, _), (2, _), (3, _), (4, _)]) rfl rfl rfl rfl ?_
        refine K_aload_n (pc := 39) (i := 30) rfl rfl ?_
        refine K_getR (pc := 40) (i := 31) (j := 3) (d := 187) rfl S_184 rfl (by decide) rfl fw_Model_16 ?_
        refine K_iload_n (pc := 43) (i := 32) rfl rfl ?_
        refine K_iconst (pc := 44) (i := 33) rfl ?_
        refine K_iload_n (pc := 45) (i := 34) rfl rfl ?_
        refine K_imul (pc := 46) (i := 35) rfl ?_
        refine K_iadd (pc := 47) (i := 36) rfl ?_
        refine K_iconst (pc := 48) (i := 37) rfl ?_
        refine K_iadd (pc := 49) (i := 38) rfl ?_
        refine K_iload (pc := 50) (i := 39) rfl rfl ?_
        first | refine K_if_ge 59 (pc := 52) (i := 40) rfl rfl (by omega) (fun b52 => ?_) (fun b52 => ?_) | refine K_if_ge_an 59 (pc := 52) (i := 40) rfl rfl (fun b52 => ?_) (fun b52 => ?_)
        · skip
          refine K_iload (pc := 59) (i := 43) rfl rfl ?_
          refine K_bipush (pc := 61) (i := 44) rfl rfl ?_
          first | refine K_icmp_le 71 (pc := 63) (i := 45) rfl rfl (by omega) (by omega) (fun b63 => ?_) (fun b63 => ?_) | refine K_icmp_le_an 71 (pc := 63) (i := 45) rfl rfl (fun b63 => ?_) (fun b63 => ?_)
          · skip
            refine K_iload (pc := 71) (i := 48) rfl rfl ?_
            refine K_iast (pc := 73) (i := 49) rfl S_187 (by omega) (by omega) (by decide) ?_
            have hI := st_mkites hI (i := ((x1 + (5 * x3)) + 2).toNat) (v := v18 + v35) (by unfold bK; omega) (fun _ a => a.hi (rd_many hI).2 (by omega))
            have fx := Fx.st (c := 187) (i := ((x1 + (5 * x3)) + 2).toNat) (v := v18 + v35) fx (by first | (dsimp only; omega) | omega | exact not_false)
            have bx73 := BXK.st (i := ((x1 + (5 * x3)) + 2).toNat) (v := v18 + v35) hV2.2 (by omega) (by omega) (by rw [y18, y34, ← y35]; omega)
            refine K_inc (pc := 74) (i := 50) (q := 3) (lo' := [(0, _), (1, _), (2, _), (3, _), (4, _)]) rfl rfl rfl rfl rfl ?_
            refine K_goto 2 (pc := 77) (i := 51) rfl rfl ?_
            refine K_drop (lo' := [(0, .ref (G.2.2.2 184)), (1, kI x1), (2, kI x2), (3, kI (x3 + 1))]) [0, 1, 2, 3] rfl ?_
            exact ih2 (x3 + 1) _ (by omega) hI fx ⟨by omega, bx73⟩
          · skip
            refine K_bipush (pc := 66) (i := 46) rfl rfl ?_
            refine K_goto 73 (pc := 68) (i := 47) rfl rfl ?_
            refine K_iast (pc := 73) (i := 49) rfl S_187 (by omega) (by omega) (by decide) ?_
            have hI := st_mkites hI (i := ((x1 + (5 * x3)) + 2).toNat) (v := 40) (by unfold bK; omega) (fun _ a => a.hi (rd_many hI).2 (by omega))
            have fx := Fx.st (c := 187) (i := ((x1 + (5 * x3)) + 2).toNat) (v := 40) fx (by first | (dsimp only; omega) | omega | exact not_false)
            have bx73 := BXK.st (i := ((x1 + (5 * x3)) + 2).toNat) (v := 40) hV2.2 (by omega) (by omega) (by rw [y18, y34, ← y35]; omega)
            refine K_inc (pc := 74) (i := 50) (q := 3) (lo' := [(0, _), (1, _), (2, _), (3, _), (4, _)]) rfl rfl rfl rfl rfl ?_
            refine K_goto 2 (pc := 77) (i := 51) rfl rfl ?_
            refine K_drop (lo' := [(0, .ref (G.2.2.2 184)), (1, kI x1), (2, kI x2), (3, kI (x3 + 1))]) [0, 1, 2, 3] rfl ?_
            exact ih2 (x3 + 1) _ (by omega) hI fx ⟨by omega, bx73⟩
        · skip
          refine K_iconst (pc := 55) (i := 41) rfl ?_
          refine K_goto 73 (pc := 56) (i := 42) rfl rfl ?_
          refine K_iast (pc := 73) (i := 49) rfl S_187 (by omega) (by omega) (by decide) ?_
          have hI := st_mkites hI (i := ((x1 + (5 * x3)) + 2).toNat) (v := 0) (by unfold bK; omega) (fun _ a => a.hi (rd_many hI).2 (by omega))
          have fx := Fx.st (c := 187) (i := ((x1 + (5 * x3)) + 2).toNat) (v := 0) fx (by first | (dsimp only; omega) | omega | exact not_false)
          have bx73 := BXK.st (i := ((x1 + (5 * x3)) + 2).toNat) (v := 0) hV2.2 (by omega) (by omega) (by rw [y18, y34, ← y35]; omega)
          refine K_inc (pc := 74) (i := 50) (q := 3) (lo' := [(0, _), (1, _), (2, _), (3, _), (4, _)]) rfl rfl rfl rfl rfl ?_
          refine K_goto 2 (pc := 77) (i := 51) rfl rfl ?_
          refine K_drop (lo' := [(0, .ref (G.2.2.2 184)), (1, kI x1), (2, kI x2), (3, kI (x3 + 1))]) [0, 1, 2, 3] rfl ?_
          exact ih2 (x3 + 1) _ (by omega) hI fx ⟨by omega, bx73⟩
  exact L2 _ 0 _ (Nat.lt_succ_self _) hI fx ⟨by omega, BXK.z⟩
