/-- those that stay, in their order, as far as l of k -/
def LV (h ha : kH) (l k : Nat) (s : Nat → Nat) : Prop := (∀ a b, a < b → b < l → s a < s b) ∧ (∀ a, a < l → s a < k ∧ ∀ i, i < 5 → ha 187 (5 * a + i) = h 187 (5 * s a + i)) ∧ ∀ j, 5 * l ≤ j → ha 187 j = h 187 j
def LVi (h ha : kH) (l k m : Nat) (s : Nat → Nat) : Prop := (∀ a b, a < b → b < l → s a < s b) ∧ (∀ a, a < l → s a < k ∧ ∀ i, i < 5 → ha 187 (5 * a + i) = h 187 (5 * s a + i)) ∧ (∀ i, i < m → ha 187 (5 * l + i) = h 187 (5 * k + i)) ∧ ∀ j, 5 * l + m ≤ j → ha 187 j = h 187 j
theorem LV.go {h ha hb : kH} {l k : Nat} {s : Nat → Nat} (a : LV h ha l k s) (e : hb 187 = ha 187) : LV h hb l (k + 1) s := by
  unfold LV
  rw [e]
  exact ⟨a.1, fun p hp => ⟨by have := (a.2.1 p hp).1; omega, (a.2.1 p hp).2⟩, a.2.2⟩
theorem LV.i {h ha : kH} {l k : Nat} {s : Nat → Nat} (a : LV h ha l k s) : LVi h ha l k 0 s := ⟨a.1, a.2.1, fun i hi => absurd hi (by omega), fun j hj => a.2.2 j (by omega)⟩
theorem LVi.k {h ha : kH} {l k m i : Nat} {s : Nat → Nat} {v : Int} (a : LVi h ha l k m s) (hlk : l ≤ k) (hm : m < 5) (hi : i = 5 * l + m) (hv : v = ha 187 (5 * k + m)) : LVi h (kU ha 187 i v) l k (m + 1) s := by
  subst hi
  obtain ⟨a1, a2, a3, a4⟩ := a
  refine ⟨a1, fun p hp => ⟨(a2 p hp).1, fun q hq => ?_⟩, fun q hq => ?_, fun j hj => ?_⟩
  · rw [kU_at, if_neg (by omega)]; exact (a2 p hp).2 q hq
  · rw [kU_at]
    by_cases e : q = m
    · rw [if_pos ⟨rfl, by omega⟩, hv, e, a4 (5 * k + m) (by omega)]
    · rw [if_neg (by omega)]; exact a3 q (by omega)
  · rw [kU_at, if_neg (by omega)]; exact a4 j (by omega)
theorem LVi.end {h ha : kH} {l k : Nat} {s : Nat → Nat} (a : LVi h ha l k 5 s) : LV h ha (l + 1) (k + 1) (fun p => if p = l then k else s p) := by
  obtain ⟨a1, a2, a3, a4⟩ := a
  refine ⟨fun p q h1 h2 => ?_, fun p hp => ?_, fun j hj => a4 j (by omega)⟩
  · by_cases e : q = l
    · simp only [e, if_pos]
      rw [if_neg (by omega)]
      exact (a2 p (by omega)).1
    · simp only [if_neg e]
      rw [if_neg (by omega)]
      exact a1 p q h1 (by omega)
  · by_cases e : p = l
    · subst e
      simp only [if_pos]
      exact ⟨by omega, fun i hi => a3 i hi⟩
    · simp only [if_neg e]
      exact ⟨by have := (a2 p (by omega)).1; omega, (a2 p (by omega)).2⟩
theorem LV.ok {h h1 H : kH} {z n : Int} {s : Nat → Nat} (lv : LV h h1 z.toNat n.toNat s) (hn : n = h 184 4) (e1 : H 187 = h1 187) (e4 : H 184 4 = z) (e2 : H 191 = h 191) (e3 : H 200 = h 200) (b : MOk h) : MOk H := by
  obtain ⟨a1, a2, a3⟩ := lv
  unfold MOk
  rw [e1, e2, e3, e4]
  refine ⟨FK.sub s b.1 (fun i hi => ?_) (fun i j hi hj hne => ?_), b.2.1, b.2.2⟩
  · obtain ⟨q1, q2⟩ := a2 i (by omega)
    exact ⟨by omega, q2 1 (by omega), q2 2 (by omega), q2 3 (by omega)⟩
  · rcases Nat.lt_or_gt_of_ne hne with q | q
    · have := a1 i j q (by omega); omega
    · have := a1 j i q (by omega); omega
set_option maxHeartbeats 4000000 in
set_option maxRecDepth 100000 in
theorem c_Model_blow0 (G : kG) {g : kGh} {h : kH} {x1 : Int} {x2 : Int} (s1 : x1 = 0) (s2 : 0 ≤ x2 ∧ x2 ≤ 8) (hI : Gd g h) : Ctr G y_Model_blow X_Model_blow 3 [.ref (G.2.2.2 184), kI x1, kI x2] h (kQi (fun z h' => Fx (fun c i => c = 187) h h' ∧ (Gd g h' ∧ FM h h' ∧ kR z))) := by
  refine Ctr.ofK (by decide) rfl T_Model_blow (Nat.le_of_ble_eq_true rfl) (lo := [(0, .ref (G.2.2.2 184)), (1, kI x1), (2, kI x2)]) rfl ?_
  have fM : FM h h := fun _ _ _ => rfl
  have fx : Fx (fun c i => c = 187) h h := Fx.rf
  refine K_iconst (pc := 0) (i := 0) rfl ?_
  refine K_ist_n (pc := 1) (i := 1) (lo' := [(0, _), (1, _), (2, _), (3, _)]) rfl rfl rfl rfl ?_
  have L2 : ∀ (n : Nat) (x3 : Int) (ha : kH), (8 - x3).toNat < n → (Gd g ha) → (FM h ha) → (Fx (fun c i => c = 187) h ha) → (0 ≤ x3 ∧ x3 ≤ 8) → K X_Model_blow G (kZm G 3 (kQi (fun z h' => Fx (fun c i => c = 187) h h' ∧ (Gd g h' ∧ FM h h' ∧ kR z)))) 2 [(0, .ref (G.2.2.2 184)), (1, kI x1), (2, kI x2), (3, kI x3)] [] ha := by
    intro n
    induction n with
    | zero => intro x3 ha hm; exact absurd hm (Nat.not_lt_zero _)
    | succ n ih2 =>
      intro x3 ha hm2 hI fM fx hV2
      refine K_iload_n (pc := 2) (i := 2) rfl rfl ?_
      refine K_iload_n (pc := 3) (i := 3) rfl rfl ?_
      first | refine K_icmp_ge 80 (pc := 4) (i := 4) rfl rfl (by omega) (by omega) (fun b4 => ?_) (fun b4 => ?_) | refine K_icmp_ge_an 80 (pc := 4) (i := 4) rfl rfl (fun b4 => ?_) (fun b4 => ?_)
      · skip
        refine K_iconst (pc := 80) (i := 52) rfl ?_
        refine K_ist_n (pc := 81) (i := 53) (lo' := [(0, _), (1, _), (2, _), (3, _)]) rfl rfl rfl rfl ?_
        refine K_iconst (pc := 82) (i := 54) rfl ?_
        refine K_ist (pc := 83) (i := 55) (lo' := [(0, _), (1, _), (2, _), (3, _), (4, _)]) rfl rfl rfl rfl ?_
        have L85 : ∀ (n : Nat) (x3 : Int) (x4 : Int), (8 - x4).toNat < n → ((0 ≤ x4 ∧ x4 ≤ 8) ∧ kR x3) → K X_Model_blow G (kZm G 3 (kQi (fun z h' => Fx (fun c i => c = 187) h h' ∧ (Gd g h' ∧ FM h h' ∧ kR z)))) 85 [(0, .ref (G.2.2.2 184)), (1, kI x1), (2, kI x2), (3, kI x3), (4, kI x4)] [] ha := by
          intro n
          induction n with
          | zero => intro x3 x4 hm; exact absurd hm (Nat.not_lt_zero _)
          | succ n ih85 =>
            intro x3 x4 hm85 hV85
            refine K_iload (pc := 85) (i := 56) rfl rfl ?_
            refine K_iload_n (pc := 87) (i := 57) rfl rfl ?_
            first | refine K_icmp_ge 189 (pc := 88) (i := 58) rfl rfl (by omega) (by omega) (fun b88 => ?_) (fun b88 => ?_) | refine K_icmp_ge_an 189 (pc := 88) (i := 58) rfl rfl (fun b88 => ?_) (fun b88 => ?_)
            · skip
              refine K_iload_n (pc := 189) (i := 114) rfl rfl ?_
              exact K_retI (pc := 190) (i := 115) rfl rfl ⟨fx, ⟨hI, fM, by omega⟩⟩
            · skip
              refine K_iconst (pc := 91) (i := 59) rfl ?_
              refine K_ist (pc := 92) (i := 60) (lo' := [(0, _), (1, _), (2, _), (3, _), (4, _), (5, _)]) rfl rfl rfl rfl ?_
              have L94 : ∀ (n : Nat) (x3 : Int) (x5 : Int), (8 - x5).toNat < n → ((0 ≤ x5 ∧ x5 ≤ 8) ∧ kR x3) → K X_Model_blow G (kZm G 3 (kQi (fun z h' => Fx (fun c i => c = 187) h h' ∧ (Gd g h' ∧ FM h h' ∧ kR z)))) 94 [(0, .ref (G.2.2.2 184)), (1, kI x1), (2, kI x2), (3, kI x3), (4, kI x4), (5, kI x5)] [] ha := by
                intro n
                induction n with
                | zero => intro x3 x5 hm; exact absurd hm (Nat.not_lt_zero _)
                | succ n ih94 =>
                  intro x3 x5 hm94 hV94
                  refine K_iload (pc := 94) (i := 61) rfl rfl ?_
                  refine K_iload_n (pc := 96) (i := 62) rfl rfl ?_
                  first | refine K_icmp_ge 183 (pc := 97) (i := 63) rfl rfl (by omega) (by omega) (fun b97 => ?_) (fun b97 => ?_) | refine K_icmp_ge_an 183 (pc := 97) (i := 63) rfl rfl (fun b97 => ?_) (fun b97 => ?_)
                  · skip
                    refine K_inc (pc := 183) (i := 112) (q := 4) (lo' := [(0, _), (1, _), (2, _), (3, _), (4, _), (5, _)]) rfl rfl rfl rfl rfl ?_
                    refine K_goto 85 (pc := 186) (i := 113) rfl rfl ?_
                    refine K_drop (lo' := [(0, .ref (G.2.2.2 184)), (1, kI x1), (2, kI x2), (3, kI x3), (4, kI (x4 + 1))]) [0, 1, 2, 3, 4] rfl ?_
                    exact ih85 x3 (x4 + 1) (by omega) (by omega)
                  · skip
                    refine K_aload_n (pc := 100) (i := 64) rfl rfl ?_
                    refine K_getR (pc := 101) (i := 65) (j := 3) (d := 187) rfl S_184 rfl (by decide) rfl fw_Model_16 ?_
                    refine K_iload_n (pc := 104) (i := 66) rfl rfl ?_
                    refine K_iconst (pc := 105) (i := 67) rfl ?_
                    refine K_iload (pc := 106) (i := 68) rfl rfl ?_
                    refine K_imul (pc := 108) (i := 69) rfl ?_
                    refine K_iadd (pc := 109) (i := 70) rfl ?_
                    refine K_iald (pc := 110) (i := 71) rfl S_187 (by omega) (by omega) (by decide) ?_
                    refine K_nm (fun v110 e110 => ?_)
                    have r110 := (rd_mkites hI (x1 + (5 * x4)).toNat).1 (by omega)
                    rw [← e110] at r110
                    refine K_aload_n (pc := 111) (i := 72) rfl rfl ?_
                    refine K_getR (pc := 112) (i := 73) (j := 3) (d := 187) rfl S_184 rfl (by decide) rfl fw_Model_16 ?_
                    refine K_iload_n (pc := 115) (i := 74) rfl rfl ?_
                    refine K_iconst (pc := 116) (i := 75) rfl ?_
                    refine K_iload (pc := 117) (i := 76) rfl rfl ?_
                    refine K_imul (pc := 119) (i := 77) rfl ?_
                    refine K_iadd (pc := 120) (i := 78) rfl ?_
                    refine K_iald (pc := 121) (i := 79) rfl S_187 (by omega) (by omega) (by decide) ?_
                    refine K_nm (fun v121 e121 => ?_)
                    have r121 := (rd_mkites hI (x1 + (5 * x5)).toNat).1 (by omega)
                    rw [← e121] at r121
                    first | refine K_icmp_eq 158 (pc := 122) (i := 80) rfl rfl (by omega) (by omega) (fun b122 => ?_) (fun b122 => ?_) | refine K_icmp_eq_an 158 (pc := 122) (i := 80) rfl rfl (fun b122 => ?_) (fun b122 => ?_)
                    · skip
                      refine K_iconst (pc := 158) (i := 98) rfl ?_
                      refine K_ist (pc := 159) (i := 99) (lo' := [(0, _), (1, _), (2, _), (3, _), (4, _), (5, _), (6, _)]) rfl rfl rfl rfl ?_
                      refine K_iload_n (pc := 161) (i := 100) rfl rfl ?_
                      refine K_iload (pc := 162) (i := 101) rfl rfl ?_
                      first | refine K_if_eq 174 (pc := 164) (i := 102) rfl rfl (by omega) (fun b164 => ?_) (fun b164 => ?_) | refine K_if_eq_an 174 (pc := 164) (i := 102) rfl rfl (fun b164 => ?_) (fun b164 => ?_)
                      · skip
                        refine K_iconst (pc := 174) (i := 107) rfl ?_
                        refine K_ior (pc := 175) (i := 108) rfl ?_
                        refine K_any (fun v175 r175 => ?_)
                        refine K_ist_n (pc := 176) (i := 109) (lo' := [(0, _), (1, _), (2, _), (3, _), (4, _), (5, _), (6, _)]) rfl rfl rfl rfl ?_
                        refine K_inc (pc := 177) (i := 110) (q := 5) (lo' := [(0, _), (1, _), (2, _), (3, _), (4, _), (5, _), (6, _)]) rfl rfl rfl rfl rfl ?_
                        refine K_goto 94 (pc := 180) (i := 111) rfl rfl ?_
                        refine K_drop (lo' := [(0, .ref (G.2.2.2 184)), (1, kI x1), (2, kI x2), (3, kI v175), (4, kI x4), (5, kI (x5 + 1))]) [0, 1, 2, 3, 4, 5] rfl ?_
                        exact ih94 v175 (x5 + 1) (by omega) (by omega)
                      · skip
                        refine K_iconst (pc := 167) (i := 103) rfl ?_
                        refine K_iload (pc := 168) (i := 104) rfl rfl ?_
                        refine K_ishl (pc := 170) (i := 105) rfl ?_
                        refine K_any (fun v170 r170 => ?_)
                        refine K_goto 175 (pc := 171) (i := 106) rfl rfl ?_
                        refine K_ior (pc := 175) (i := 108) rfl ?_
                        refine K_any (fun v175 r175 => ?_)
                        refine K_ist_n (pc := 176) (i := 109) (lo' := [(0, _), (1, _), (2, _), (3, _), (4, _), (5, _), (6, _)]) rfl rfl rfl rfl ?_
                        refine K_inc (pc := 177) (i := 110) (q := 5) (lo' := [(0, _), (1, _), (2, _), (3, _), (4, _), (5, _), (6, _)]) rfl rfl rfl rfl rfl ?_
                        refine K_goto 94 (pc := 180) (i := 111) rfl rfl ?_
                        refine K_drop (lo' := [(0, .ref (G.2.2.2 184)), (1, kI x1), (2, kI x2), (3, kI v175), (4, kI x4), (5, kI (x5 + 1))]) [0, 1, 2, 3, 4, 5] rfl ?_
                        exact ih94 v175 (x5 + 1) (by omega) (by omega)
                    · skip
                      refine K_aload_n (pc := 125) (i := 81) rfl rfl ?_
                      refine K_iload_n (pc := 126) (i := 82) rfl rfl ?_
                      refine K_iload (pc := 127) (i := 83) rfl rfl ?_
                      refine K_cVI (pc := 129) (i := 84) rfl (c_Model_edgeOf G (x1 := x1) (x2 := x4) (hI := hI) (s1 := by omega) (s2 := by omega)) S_184 rfl (lv_Model_108 rfl) rfl rfl rfl rfl rfl (fun v129 h129 q129 => ?_)
                      obtain ⟨eh, r129⟩ := q129
                      rw [eh]; clear eh
                      refine K_aload_n (pc := 132) (i := 85) rfl rfl ?_
                      refine K_iload_n (pc := 133) (i := 86) rfl rfl ?_
                      refine K_iload (pc := 134) (i := 87) rfl rfl ?_
                      refine K_cVI (pc := 136) (i := 88) rfl (c_Model_edgeOf G (x1 := x1) (x2 := x5) (hI := hI) (s1 := by omega) (s2 := by omega)) S_184 rfl (lv_Model_108 rfl) rfl rfl rfl rfl rfl (fun v136 h136 q136 => ?_)
                      obtain ⟨eh, r136⟩ := q136
                      rw [eh]; clear eh
                      first | refine K_icmp_le 158 (pc := 139) (i := 89) rfl rfl (by omega) (by omega) (fun b139 => ?_) (fun b139 => ?_) | refine K_icmp_le_an 158 (pc := 139) (i := 89) rfl rfl (fun b139 => ?_) (fun b139 => ?_)
                      · skip
                        refine K_iconst (pc := 158) (i := 98) rfl ?_
                        refine K_ist (pc := 159) (i := 99) (lo' := [(0, _), (1, _), (2, _), (3, _), (4, _), (5, _), (6, _)]) rfl rfl rfl rfl ?_
                        refine K_iload_n (pc := 161) (i := 100) rfl rfl ?_
                        refine K_iload (pc := 162) (i := 101) rfl rfl ?_
                        first | refine K_if_eq 174 (pc := 164) (i := 102) rfl rfl (by omega) (fun b164 => ?_) (fun b164 => ?_) | refine K_if_eq_an 174 (pc := 164) (i := 102) rfl rfl (fun b164 => ?_) (fun b164 => ?_)
                        · skip
                          refine K_iconst (pc := 174) (i := 107) rfl ?_
                          refine K_ior (pc := 175) (i := 108) rfl ?_
                          refine K_any (fun v175 r175 => ?_)
                          refine K_ist_n (pc := 176) (i := 109) (lo' := [(0, _), (1, _), (2, _), (3, _), (4, _), (5, _), (6, _)]) rfl rfl rfl rfl ?_
                          refine K_inc (pc := 177) (i := 110) (q := 5) (lo' := [(0, _), (1, _), (2, _), (3, _), (4, _), (5, _), (6, _)]) rfl rfl rfl rfl rfl ?_
                          refine K_goto 94 (pc := 180) (i := 111) rfl rfl ?_
                          refine K_drop (lo' := [(0, .ref (G.2.2.2 184)), (1, kI x1), (2, kI x2), (3, kI v175), (4, kI x4), (5, kI (x5 + 1))]) [0, 1, 2, 3, 4, 5] rfl ?_
                          exact ih94 v175 (x5 + 1) (by omega) (by omega)
                        · skip
                          refine K_iconst (pc := 167) (i := 103) rfl ?_
                          refine K_iload (pc := 168) (i := 104) rfl rfl ?_
                          refine K_ishl (pc := 170) (i := 105) rfl ?_
                          refine K_any (fun v170 r170 => ?_)
                          refine K_goto 175 (pc := 171) (i := 106) rfl rfl ?_
                          refine K_ior (pc := 175) (i := 108) rfl ?_
                          refine K_any (fun v175 r175 => ?_)
                          refine K_ist_n (pc := 176) (i := 109) (lo' := [(0, _), (1, _), (2, _), (3, _), (4, _), (5, _), (6, _)]) rfl rfl rfl rfl ?_
                          refine K_inc (pc := 177) (i := 110) (q := 5) (lo' := [(0, _), (1, _), (2, _), (3, _), (4, _), (5, _), (6, _)]) rfl rfl rfl rfl rfl ?_
                          refine K_goto 94 (pc := 180) (i := 111) rfl rfl ?_
                          refine K_drop (lo' := [(0, .ref (G.2.2.2 184)), (1, kI x1), (2, kI x2), (3, kI v175), (4, kI x4), (5, kI (x5 + 1))]) [0, 1, 2, 3, 4, 5] rfl ?_
                          exact ih94 v175 (x5 + 1) (by omega) (by omega)
                      · skip
                        refine K_aload_n (pc := 142) (i := 90) rfl rfl ?_
                        refine K_iload_n (pc := 143) (i := 91) rfl rfl ?_
                        refine K_iload (pc := 144) (i := 92) rfl rfl ?_
                        refine K_iload (pc := 146) (i := 93) rfl rfl ?_
                        refine K_cVI (pc := 148) (i := 94) rfl (c_Model_doCross G (x1 := x1) (x2 := x4) (x3 := x5) (hI := hI) (s1 := by omega) (s2 := by omega) (s3 := by omega)) S_184 rfl (lv_Model_137 rfl) rfl rfl rfl rfl rfl (fun v148 h148 q148 => ?_)
                        obtain ⟨eh, r148⟩ := q148
                        rw [eh]; clear eh
                        first | refine K_if_eq 158 (pc := 151) (i := 95) rfl rfl (by omega) (fun b151 => ?_) (fun b151 => ?_) | refine K_if_eq_an 158 (pc := 151) (i := 95) rfl rfl (fun b151 => ?_) (fun b151 => ?_)
                        · skip
                          refine K_iconst (pc := 158) (i := 98) rfl ?_
                          refine K_ist (pc := 159) (i := 99) (lo' := [(0, _), (1, _), (2, _), (3, _), (4, _), (5, _), (6, _)]) rfl rfl rfl rfl ?_
                          refine K_iload_n (pc := 161) (i := 100) rfl rfl ?_
                          refine K_iload (pc := 162) (i := 101) rfl rfl ?_
                          first | refine K_if_eq 174 (pc := 164) (i := 102) rfl rfl (by omega) (fun b164 => ?_) (fun b164 => ?_) | refine K_if_eq_an 174 (pc := 164) (i := 102) rfl rfl (fun b164 => ?_) (fun b164 => ?_)
                          · skip
                            refine K_iconst (pc := 174) (i := 107) rfl ?_
                            refine K_ior (pc := 175) (i := 108) rfl ?_
                            refine K_any (fun v175 r175 => ?_)
                            refine K_ist_n (pc := 176) (i := 109) (lo' := [(0, _), (1, _), (2, _), (3, _), (4, _), (5, _), (6, _)]) rfl rfl rfl rfl ?_
                            refine K_inc (pc := 177) (i := 110) (q := 5) (lo' := [(0, _), (1, _), (2, _), (3, _), (4, _), (5, _), (6, _)]) rfl rfl rfl rfl rfl ?_
                            refine K_goto 94 (pc := 180) (i := 111) rfl rfl ?_
                            refine K_drop (lo' := [(0, .ref (G.2.2.2 184)), (1, kI x1), (2, kI x2), (3, kI v175), (4, kI x4), (5, kI (x5 + 1))]) [0, 1, 2, 3, 4, 5] rfl ?_
                            exact ih94 v175 (x5 + 1) (by omega) (by omega)
                          · skip
                            refine K_iconst (pc := 167) (i := 103) rfl ?_
                            refine K_iload (pc := 168) (i := 104) rfl rfl ?_
                            refine K_ishl (pc := 170) (i := 105) rfl ?_
                            refine K_any (fun v170 r170 => ?_)
                            refine K_goto 175 (pc := 171) (i := 106) rfl rfl ?_
                            refine K_ior (pc := 175) (i := 108) rfl ?_
                            refine K_any (fun v175 r175 => ?_)
                            refine K_ist_n (pc := 176) (i := 109) (lo' := [(0, _), (1, _), (2, _), (3, _), (4, _), (5, _), (6, _)]) rfl rfl rfl rfl ?_
                            refine K_inc (pc := 177) (i := 110) (q := 5) (lo' := [(0, _), (1, _), (2, _), (3, _), (4, _), (5, _), (6, _)]) rfl rfl rfl rfl rfl ?_
                            refine K_goto 94 (pc := 180) (i := 111) rfl rfl ?_
                            refine K_drop (lo' := [(0, .ref (G.2.2.2 184)), (1, kI x1), (2, kI x2), (3, kI v175), (4, kI x4), (5, kI (x5 + 1))]) [0, 1, 2, 3, 4, 5] rfl ?_
                            exact ih94 v175 (x5 + 1) (by omega) (by omega)
                        · skip
                          refine K_iconst (pc := 154) (i := 96) rfl ?_
                          refine K_goto 159 (pc := 155) (i := 97) rfl rfl ?_
                          refine K_ist (pc := 159) (i := 99) (lo' := [(0, _), (1, _), (2, _), (3, _), (4, _), (5, _), (6, _)]) rfl rfl rfl rfl ?_
                          refine K_iload_n (pc := 161) (i := 100) rfl rfl ?_
                          refine K_iload (pc := 162) (i := 101) rfl rfl ?_
                          first | refine K_if_eq 174 (pc := 164) (i := 102) rfl rfl (by omega) (fun b164 => ?_) (fun b164 => ?_) | refine K_if_eq_an 174 (pc := 164) (i := 102) rfl rfl (fun b164 => ?_) (fun b164 => ?_)
                          · skip
                            refine K_iconst (pc := 174) (i := 107) rfl ?_
                            refine K_ior (pc := 175) (i := 108) rfl ?_
                            refine K_any (fun v175 r175 => ?_)
                            refine K_ist_n (pc := 176) (i := 109) (lo' := [(0, _), (1, _), (2, _), (3, _), (4, _), (5, _), (6, _)]) rfl rfl rfl rfl ?_
                            refine K_inc (pc := 177) (i := 110) (q := 5) (lo' := [(0, _), (1, _), (2, _), (3, _), (4, _), (5, _), (6, _)]) rfl rfl rfl rfl rfl ?_
                            refine K_goto 94 (pc := 180) (i := 111) rfl rfl ?_
                            refine K_drop (lo' := [(0, .ref (G.2.2.2 184)), (1, kI x1), (2, kI x2), (3, kI v175), (4, kI x4), (5, kI (x5 + 1))]) [0, 1, 2, 3, 4, 5] rfl ?_
                            exact ih94 v175 (x5 + 1) (by omega) (by omega)
                          · skip
                            refine K_iconst (pc := 167) (i := 103) rfl ?_
                            refine K_iload (pc := 168) (i := 104) rfl rfl ?_
                            refine K_ishl (pc := 170) (i := 105) rfl ?_
                            refine K_any (fun v170 r170 => ?_)
                            refine K_goto 175 (pc := 171) (i := 106) rfl rfl ?_
                            refine K_ior (pc := 175) (i := 108) rfl ?_
                            refine K_any (fun v175 r175 => ?_)
                            refine K_ist_n (pc := 176) (i := 109) (lo' := [(0, _), (1, _), (2, _), (3, _), (4, _), (5, _), (6, _)]) rfl rfl rfl rfl ?_
                            refine K_inc (pc := 177) (i := 110) (q := 5) (lo' := [(0, _), (1, _), (2, _), (3, _), (4, _), (5, _), (6, _)]) rfl rfl rfl rfl rfl ?_
                            refine K_goto 94 (pc := 180) (i := 111) rfl rfl ?_
                            refine K_drop (lo' := [(0, .ref (G.2.2.2 184)), (1, kI x1), (2, kI x2), (3, kI v175), (4, kI x4), (5, kI (x5 + 1))]) [0, 1, 2, 3, 4, 5] rfl ?_
                            exact ih94 v175 (x5 + 1) (by omega) (by omega)
              exact L94 _ x3 0 (Nat.lt_succ_self _) (by omega)
        exact L85 _ 0 0 (Nat.lt_succ_self _) (by omega)
      · skip
        refine K_aload_n (pc := 7) (i := 5) rfl rfl ?_
        refine K_getR (pc := 8) (i := 6) (j := 3) (d := 187) rfl S_184 rfl (by decide) rfl fw_Model_16 ?_
        refine K_iload_n (pc := 11) (i := 7) rfl rfl ?_
        refine K_iconst (pc := 12) (i := 8) rfl ?_
        refine K_iload_n (pc := 13) (i := 9) rfl rfl ?_
        refine K_imul (pc := 14) (i := 10) rfl ?_
        refine K_iadd (pc := 15) (i := 11) rfl ?_
        refine K_iconst (pc := 16) (i := 12) rfl ?_
        refine K_iadd (pc := 17) (i := 13) rfl ?_
        refine K_iald (pc := 18) (i := 14) rfl S_187 (by omega) (by omega) (by decide) ?_
        refine K_any (fun v18 r18 => ?_)
        refine K_aload_n (pc := 19) (i := 15) rfl rfl ?_
        refine K_getR (pc := 20) (i := 16) (j := 5) (d := 188) rfl S_184 rfl (by decide) rfl fw_Model_19 ?_
        refine K_aload_n (pc := 23) (i := 17) rfl rfl ?_
        refine K_getR (pc := 24) (i := 18) (j := 3) (d := 187) rfl S_184 rfl (by decide) rfl fw_Model_16 ?_
        refine K_iload_n (pc := 27) (i := 19) rfl rfl ?_
        refine K_iconst (pc := 28) (i := 20) rfl ?_
        refine K_iload_n (pc := 29) (i := 21) rfl rfl ?_
        refine K_imul (pc := 30) (i := 22) rfl ?_
        refine K_iadd (pc := 31) (i := 23) rfl ?_
        refine K_iconst (pc := 32) (i := 24) rfl ?_
        refine K_iadd (pc := 33) (i := 25) rfl ?_
        refine K_iald (pc := 34) (i := 26) rfl S_187 (by omega) (by omega) (by decide) ?_
        refine K_nm (fun v34 e34 => ?_)
        have r34 := (rd_mkites hI ((x1 + (5 * x3)) + 3).toNat).2 (by omega)
        rw [← e34] at r34
        refine K_iald (pc := 35) (i := 27) rfl S_188 (by omega) (by omega) (by decide) ?_
        refine K_any (fun v35 r35 => ?_)
        refine K_iadd (pc := 36) (i := 28) rfl ?_
        refine K_any (fun v36 r36 => ?_)
        refine K_ist (pc := 37) (i := 29) (lo' := [(0, _), (1, _), (2, _), (3, _), (4, _)]) rfl rfl rfl rfl ?_
        refine K_aload_n (pc := 39) (i := 30) rfl rfl ?_
        refine K_getR (pc := 40) (i := 31) (j := 3) (d := 187) rfl S_184 rfl (by decide) rfl fw_Model_16 ?_
        refine K_iload_n (pc := 43) (i := 32) rfl rfl ?_
        refine K_iconst (pc := 44) (i := 33) rfl ?_
        refine K_iload_n (pc := 45) (i := 34) rfl rfl ?_
        refine K_imul (pc := 46) (i := 35) rfl ?_
        refine K_iadd (pc := 47) (i := 36) rfl ?_
        refine K_iconst (pc := 48) (i := 37) rfl ?_
        refine K_iadd (pc := 49) (i := 38) rfl ?_
        refine K_iload (pc := 50) (i := 39) rfl rfl ?_
        first | refine K_if_ge 59 (pc := 52) (i := 40) rfl rfl (by omega) (fun b52 => ?_) (fun b52 => ?_) | refine K_if_ge_an 59 (pc := 52) (i := 40) rfl rfl (fun b52 => ?_) (fun b52 => ?_)
        · skip
          refine K_iload (pc := 59) (i := 43) rfl rfl ?_
          refine K_bipush (pc := 61) (i := 44) rfl rfl ?_
          first | refine K_icmp_le 71 (pc := 63) (i := 45) rfl rfl (by omega) (by omega) (fun b63 => ?_) (fun b63 => ?_) | refine K_icmp_le_an 71 (pc := 63) (i := 45) rfl rfl (fun b63 => ?_) (fun b63 => ?_)
          · skip
            refine K_iload (pc := 71) (i := 48) rfl rfl ?_
            refine K_iast (pc := 73) (i := 49) rfl S_187 (by omega) (by omega) (by decide) ?_
            have hI := st_mkites hI (i := ((x1 + (5 * x3)) + 2).toNat) (v := v36) (by unfold bK; omega) (fun _ a => a.u187 (fun b => b.setX x3.toNat (by omega) (by omega)))
            have fx := Fx.st (c := 187) (i := ((x1 + (5 * x3)) + 2).toNat) (v := v36) fx (by first | omega | (dsimp only; omega) | exact not_false)
            have fM := fM.st (c := 187) (i := ((x1 + (5 * x3)) + 2).toNat) (v := v36) (by decide)
            refine K_inc (pc := 74) (i := 50) (q := 3) (lo' := [(0, _), (1, _), (2, _), (3, _), (4, _)]) rfl rfl rfl rfl rfl ?_
            refine K_goto 2 (pc := 77) (i := 51) rfl rfl ?_
            refine K_drop (lo' := [(0, .ref (G.2.2.2 184)), (1, kI x1), (2, kI x2), (3, kI (x3 + 1))]) [0, 1, 2, 3] rfl ?_
            exact ih2 (x3 + 1) _ (by omega) hI fM fx (by omega)
          · skip
            refine K_bipush (pc := 66) (i := 46) rfl rfl ?_
            refine K_goto 73 (pc := 68) (i := 47) rfl rfl ?_
            refine K_iast (pc := 73) (i := 49) rfl S_187 (by omega) (by omega) (by decide) ?_
            have hI := st_mkites hI (i := ((x1 + (5 * x3)) + 2).toNat) (v := 40) (by unfold bK; omega) (fun _ a => a.u187 (fun b => b.setX x3.toNat (by omega) (by omega)))
            have fx := Fx.st (c := 187) (i := ((x1 + (5 * x3)) + 2).toNat) (v := 40) fx (by first | omega | (dsimp only; omega) | exact not_false)
            have fM := fM.st (c := 187) (i := ((x1 + (5 * x3)) + 2).toNat) (v := 40) (by decide)
            refine K_inc (pc := 74) (i := 50) (q := 3) (lo' := [(0, _), (1, _), (2, _), (3, _), (4, _)]) rfl rfl rfl rfl rfl ?_
            refine K_goto 2 (pc := 77) (i := 51) rfl rfl ?_
            refine K_drop (lo' := [(0, .ref (G.2.2.2 184)), (1, kI x1), (2, kI x2), (3, kI (x3 + 1))]) [0, 1, 2, 3] rfl ?_
            exact ih2 (x3 + 1) _ (by omega) hI fM fx (by omega)
        · skip
          refine K_iconst (pc := 55) (i := 41) rfl ?_
          refine K_goto 73 (pc := 56) (i := 42) rfl rfl ?_
          refine K_iast (pc := 73) (i := 49) rfl S_187 (by omega) (by omega) (by decide) ?_
          have hI := st_mkites hI (i := ((x1 + (5 * x3)) + 2).toNat) (v := 0) (by unfold bK; omega) (fun _ a => a.u187 (fun b => b.setX x3.toNat (by omega) (by omega)))
          have fx := Fx.st (c := 187) (i := ((x1 + (5 * x3)) + 2).toNat) (v := 0) fx (by first | omega | (dsimp only; omega) | exact not_false)
          have fM := fM.st (c := 187) (i := ((x1 + (5 * x3)) + 2).toNat) (v := 0) (by decide)
          refine K_inc (pc := 74) (i := 50) (q := 3) (lo' := [(0, _), (1, _), (2, _), (3, _), (4, _)]) rfl rfl rfl rfl rfl ?_
          refine K_goto 2 (pc := 77) (i := 51) rfl rfl ?_
          refine K_drop (lo' := [(0, .ref (G.2.2.2 184)), (1, kI x1), (2, kI x2), (3, kI (x3 + 1))]) [0, 1, 2, 3] rfl ?_
          exact ih2 (x3 + 1) _ (by omega) hI fM fx (by omega)
  exact L2 _ 0 _ (Nat.lt_succ_self _) hI fM fx (by omega)
set_option maxHeartbeats 4000000 in
set_option maxRecDepth 100000 in
theorem c_Model_leave0 (G : kG) {g : kGh} {h : kH} {x1 : Int} {x2 : Int} {x3 : Int} (s1 : x1 = 0) (s2 : 0 ≤ x2 ∧ x2 ≤ 8) (hI : Gd g h) : Ctr G y_Model_leave X_Model_leave 1 [.ref (G.2.2.2 184), kI x1, kI x2, kI x3] h (kQi (fun z h' => Fx (fun c i => c = 187 ∨ c = 192) h h' ∧ (Gd (kNf g) h' ∧ FM h h' ∧ (0 ≤ z ∧ z ≤ x2) ∧ ∃ s, LV h h' z.toNat x2.toNat s))) := by
  refine Ctr.ofK (by decide) rfl T_Model_leave (Nat.le_of_ble_eq_true rfl) (lo := [(0, .ref (G.2.2.2 184)), (1, kI x1), (2, kI x2), (3, kI x3)]) rfl ?_
  have fM : FM h h := fun _ _ _ => rfl
  have fx : Fx (fun c i => c = 187 ∨ c = 192) h h := Fx.rf
  have hI := hI.nf
  refine K_iconst (pc := 0) (i := 0) rfl ?_
  refine K_ist (pc := 1) (i := 1) (lo' := [(0, _), (1, _), (2, _), (3, _), (4, _)]) rfl rfl rfl rfl ?_
  refine K_iconst (pc := 3) (i := 2) rfl ?_
  refine K_ist (pc := 4) (i := 3) (lo' := [(0, _), (1, _), (2, _), (3, _), (4, _), (5, _)]) rfl rfl rfl rfl ?_
  have L6 : ∀ (n : Nat) (x4 : Int) (x5 : Int) (ha : kH), (8 - x5).toNat < n → (Gd (kNf g) ha) → (FM h ha) → (Fx (fun c i => c = 187 ∨ c = 192) h ha) → ((0 ≤ x4 ∧ x4 ≤ x5 ∧ x5 ≤ x2) ∧ ∃ s, LV h ha x4.toNat x5.toNat s) → K X_Model_leave G (kZm G 1 (kQi (fun z h' => Fx (fun c i => c = 187 ∨ c = 192) h h' ∧ (Gd (kNf g) h' ∧ FM h h' ∧ (0 ≤ z ∧ z ≤ x2) ∧ ∃ s, LV h h' z.toNat x2.toNat s)))) 6 [(0, .ref (G.2.2.2 184)), (1, kI x1), (2, kI x2), (3, kI x3), (4, kI x4), (5, kI x5)] [] ha := by
    intro n
    induction n with
    | zero => intro x4 x5 ha hm; exact absurd hm (Nat.not_lt_zero _)
    | succ n ih6 =>
      intro x4 x5 ha hm6 hI fM fx hV6
      refine K_iload (pc := 6) (i := 4) rfl rfl ?_
      refine K_iload_n (pc := 8) (i := 5) rfl rfl ?_
      first | refine K_icmp_ge 99 (pc := 9) (i := 6) rfl rfl (by omega) (by omega) (fun b9 => ?_) (fun b9 => ?_) | refine K_icmp_ge_an 99 (pc := 9) (i := 6) rfl rfl (fun b9 => ?_) (fun b9 => ?_)
      · skip
        refine K_iload (pc := 99) (i := 62) rfl rfl ?_
        exact K_retI (pc := 101) (i := 63) rfl rfl ⟨fx, ⟨hI, fM, by omega, by have := hV6.2; rwa [show x5 = x2 by omega] at this⟩⟩
      · skip
        refine K_iload_n (pc := 12) (i := 7) rfl rfl ?_
        refine K_iload (pc := 13) (i := 8) rfl rfl ?_
        refine K_ishr (pc := 15) (i := 9) rfl ?_
        refine K_any (fun v15 r15 => ?_)
        refine K_iconst (pc := 16) (i := 10) rfl ?_
        refine K_iand (pc := 17) (i := 11) rfl ?_
        refine K_nm (fun v17 e17 => ?_)
        have r17 := kAnd_1 v15
        rw [← e17] at r17
        refine K_iconst (pc := 18) (i := 12) rfl ?_
        first | refine K_icmp_ne 47 (pc := 19) (i := 13) rfl rfl (by omega) (by omega) (fun b19 => ?_) (fun b19 => ?_) | refine K_icmp_ne_an 47 (pc := 19) (i := 13) rfl rfl (fun b19 => ?_) (fun b19 => ?_)
        · skip
          refine K_iconst (pc := 47) (i := 32) rfl ?_
          refine K_ist (pc := 48) (i := 33) (lo' := [(0, _), (1, _), (2, _), (3, _), (4, _), (5, _), (6, _)]) rfl rfl rfl rfl ?_
          have L50 : ∀ (n : Nat) (x6 : Int) (hb : kH), (5 - x6).toNat < n → (Gd (kNf g) hb) → (FM h hb) → (Fx (fun c i => c = 187 ∨ c = 192) h hb) → ((0 ≤ x6 ∧ x6 ≤ 5) ∧ ∃ s, LVi h hb x4.toNat x5.toNat x6.toNat s) → K X_Model_leave G (kZm G 1 (kQi (fun z h' => Fx (fun c i => c = 187 ∨ c = 192) h h' ∧ (Gd (kNf g) h' ∧ FM h h' ∧ (0 ≤ z ∧ z ≤ x2) ∧ ∃ s, LV h h' z.toNat x2.toNat s)))) 50 [(0, .ref (G.2.2.2 184)), (1, kI x1), (2, kI x2), (3, kI x3), (4, kI x4), (5, kI x5), (6, kI x6)] [] hb := by
            intro n
            induction n with
            | zero => intro x6 hb hm; exact absurd hm (Nat.not_lt_zero _)
            | succ n ih50 =>
              intro x6 hb hm50 hI fM fx hV50
              refine K_iload (pc := 50) (i := 34) rfl rfl ?_
              refine K_iconst (pc := 52) (i := 35) rfl ?_
              first | refine K_icmp_ge 90 (pc := 53) (i := 36) rfl rfl (by omega) (by omega) (fun b53 => ?_) (fun b53 => ?_) | refine K_icmp_ge_an 90 (pc := 53) (i := 36) rfl rfl (fun b53 => ?_) (fun b53 => ?_)
              · skip
                have lg : ∃ s, LV h hb (x4 + 1).toNat (x5 + 1).toNat s := by obtain ⟨s, a⟩ := hV50.2; rw [show x6.toNat = 5 by omega] at a; rw [show (x4 + 1).toNat = x4.toNat + 1 by omega, show (x5 + 1).toNat = x5.toNat + 1 by omega]; exact ⟨_, a.end⟩
                refine K_inc (pc := 90) (i := 59) (q := 4) (lo' := [(0, _), (1, _), (2, _), (3, _), (4, _), (5, _), (6, _)]) rfl rfl rfl rfl rfl ?_
                refine K_inc (pc := 93) (i := 60) (q := 5) (lo' := [(0, _), (1, _), (2, _), (3, _), (4, _), (5, _), (6, _)]) rfl rfl rfl rfl rfl ?_
                refine K_goto 6 (pc := 96) (i := 61) rfl rfl ?_
                refine K_drop (lo' := [(0, .ref (G.2.2.2 184)), (1, kI x1), (2, kI x2), (3, kI x3), (4, kI (x4 + 1)), (5, kI (x5 + 1))]) [0, 1, 2, 3, 4, 5] rfl ?_
                exact ih6 (x4 + 1) (x5 + 1) _ (by omega) hI fM fx ⟨by omega, lg⟩
              · skip
                refine K_aload_n (pc := 56) (i := 37) rfl rfl ?_
                refine K_getR (pc := 57) (i := 38) (j := 3) (d := 187) rfl S_184 rfl (by decide) rfl fw_Model_16 ?_
                refine K_iload_n (pc := 60) (i := 39) rfl rfl ?_
                refine K_iconst (pc := 61) (i := 40) rfl ?_
                refine K_iload (pc := 62) (i := 41) rfl rfl ?_
                refine K_imul (pc := 64) (i := 42) rfl ?_
                refine K_iadd (pc := 65) (i := 43) rfl ?_
                refine K_iload (pc := 66) (i := 44) rfl rfl ?_
                refine K_iadd (pc := 68) (i := 45) rfl ?_
                refine K_aload_n (pc := 69) (i := 46) rfl rfl ?_
                refine K_getR (pc := 70) (i := 47) (j := 3) (d := 187) rfl S_184 rfl (by decide) rfl fw_Model_16 ?_
                refine K_iload_n (pc := 73) (i := 48) rfl rfl ?_
                refine K_iconst (pc := 74) (i := 49) rfl ?_
                refine K_iload (pc := 75) (i := 50) rfl rfl ?_
                refine K_imul (pc := 77) (i := 51) rfl ?_
                refine K_iadd (pc := 78) (i := 52) rfl ?_
                refine K_iload (pc := 79) (i := 53) rfl rfl ?_
                refine K_iadd (pc := 81) (i := 54) rfl ?_
                refine K_iald (pc := 82) (i := 55) rfl S_187 (by omega) (by omega) (by decide) ?_
                refine K_nm (fun v82 e82 => ?_)
                have r82 := rd_mkites hI ((x1 + (5 * x5)) + x6).toNat
                rw [← e82] at r82
                refine K_iast (pc := 83) (i := 56) rfl S_187 (by omega) (by omega) (by decide) ?_
                have hI := st_mkites hI (i := ((x1 + (5 * x4)) + x6).toNat) (v := v82) (bK_of r82 (by omega)) (fun e _ => False.elim e)
                have fx := Fx.st (c := 187) (i := ((x1 + (5 * x4)) + x6).toNat) (v := v82) fx (by first | omega | (dsimp only; omega) | exact not_false)
                have fM := fM.st (c := 187) (i := ((x1 + (5 * x4)) + x6).toNat) (v := v82) (by decide)
                have li : ∃ s, LVi h (kU hb 187 (((x1 + (5 * x4)) + x6).toNat) v82) x4.toNat x5.toNat (x6 + 1).toNat s := by obtain ⟨s, a⟩ := hV50.2; exact ⟨s, by rw [show (x6 + 1).toNat = x6.toNat + 1 by omega]; exact a.k (by omega) (by omega) (by omega) (by rw [e82]; congr 1; omega)⟩
                refine K_inc (pc := 84) (i := 57) (q := 6) (lo' := [(0, _), (1, _), (2, _), (3, _), (4, _), (5, _), (6, _)]) rfl rfl rfl rfl rfl ?_
                refine K_goto 50 (pc := 87) (i := 58) rfl rfl ?_
                exact ih50 (x6 + 1) _ (by omega) hI fM fx ⟨by omega, li⟩
          exact L50 _ 0 _ (Nat.lt_succ_self _) hI fM fx ⟨by omega, by obtain ⟨s, a⟩ := hV6.2; exact ⟨s, a.i⟩⟩
        · skip
          refine K_aload_n (pc := 22) (i := 14) rfl rfl ?_
          refine K_getR (pc := 23) (i := 15) (j := 14) (d := 192) rfl S_184 rfl (by decide) rfl fw_Model_31 ?_
          refine K_iconst (pc := 26) (i := 16) rfl ?_
          refine K_aload_n (pc := 27) (i := 17) rfl rfl ?_
          refine K_getR (pc := 28) (i := 18) (j := 3) (d := 187) rfl S_184 rfl (by decide) rfl fw_Model_16 ?_
          refine K_iload_n (pc := 31) (i := 19) rfl rfl ?_
          refine K_iconst (pc := 32) (i := 20) rfl ?_
          refine K_iload (pc := 33) (i := 21) rfl rfl ?_
          refine K_imul (pc := 35) (i := 22) rfl ?_
          refine K_iadd (pc := 36) (i := 23) rfl ?_
          refine K_iald (pc := 37) (i := 24) rfl S_187 (by omega) (by omega) (by decide) ?_
          refine K_nm (fun v37 e37 => ?_)
          have r37 := (rd_mkites hI (x1 + (5 * x5)).toNat).1 (by omega)
          rw [← e37] at r37
          refine K_isub (pc := 38) (i := 25) rfl ?_
          refine K_dup2 (pc := 39) (i := 26) rfl rfl rfl ?_
          refine K_iald (pc := 40) (i := 27) rfl S_192 (by omega) (by omega) (by decide) ?_
          refine K_any (fun v40 r40 => ?_)
          refine K_iconst (pc := 41) (i := 28) rfl ?_
          refine K_iadd (pc := 42) (i := 29) rfl ?_
          refine K_iast (pc := 43) (i := 30) rfl S_192 (by omega) (by omega) (by decide) ?_
          have hI := st_free (c := 192) hI (by decide +kernel) (by decide) (i := (1 - v37).toNat) (v := v40 + 1)
          have fx := Fx.st (c := 192) (i := (1 - v37).toNat) (v := v40 + 1) fx (by first | omega | (dsimp only; omega) | exact not_false)
          have fM := fM.st (c := 192) (i := (1 - v37).toNat) (v := v40 + 1) (by decide)
          have lg : ∃ s, LV h (kU ha 192 ((1 - v37).toNat) (v40 + 1)) x4.toNat (x5 + 1).toNat s := by obtain ⟨s, a⟩ := hV6.2; exact ⟨s, by rw [show (x5 + 1).toNat = x5.toNat + 1 by omega]; exact a.go (kU_c _ _ _ _ (by decide))⟩
          refine K_goto 93 (pc := 44) (i := 31) rfl rfl ?_
          refine K_inc (pc := 93) (i := 60) (q := 5) (lo' := [(0, _), (1, _), (2, _), (3, _), (4, _), (5, _)]) rfl rfl rfl rfl rfl ?_
          refine K_goto 6 (pc := 96) (i := 61) rfl rfl ?_
          exact ih6 x4 (x5 + 1) _ (by omega) hI fM fx ⟨by omega, lg⟩
  exact L6 _ 0 0 _ (Nat.lt_succ_self _) hI fM fx ⟨by omega, id, fun a b _ q => absurd q (by omega), fun a q => absurd q (by omega), fun _ _ => rfl⟩
set_option maxHeartbeats 4000000 in
set_option maxRecDepth 100000 in
theorem c_Model_gust (G : kG) {g : kGh} {h : kH}  (hI : Gd g h) : Ctr G y_Model_gust X_Model_gust 13 [.ref (G.2.2.2 184)] h (kQi (fun z h' => Fx (fun c i => c = 187 ∨ c = 189 ∨ c = 191 ∨ c = 192 ∨ (c = 184 ∧ (i = 4 ∨ i = 11 ∨ i = 12))) h h' ∧ (Gd g h' ∧ True))) := by
  refine Ctr.ofK (by decide) rfl T_Model_gust (Nat.le_of_ble_eq_true rfl) (lo := [(0, .ref (G.2.2.2 184))]) rfl ?_
  have fx : Fx (fun c i => c = 187 ∨ c = 189 ∨ c = 191 ∨ c = 192 ∨ (c = 184 ∧ (i = 4 ∨ i = 11 ∨ i = 12))) h h := Fx.rf
  refine K_aload_n (pc := 0) (i := 0) rfl rfl ?_
  refine K_cVV (pc := 1) (i := 1) rfl (c_Model_keepAct G (hI := hI)) S_184 rfl (lv_Model_121 rfl) rfl rfl rfl rfl rfl (fun h1 q1 => ?_)
  obtain ⟨fx1, q1⟩ := q1
  obtain ⟨hI, ka1⟩ := q1
  have fx := fx.tr fx1 (fun c i q => (by first | omega | (dsimp only at q ⊢; omega)))
  refine K_aload_n (pc := 4) (i := 2) rfl rfl ?_
  refine K_getR (pc := 5) (i := 3) (j := 14) (d := 192) rfl S_184 rfl (by decide) rfl fw_Model_31 ?_
  refine K_iconst (pc := 8) (i := 4) rfl ?_
  refine K_iconst (pc := 9) (i := 5) rfl ?_
  refine K_iast (pc := 10) (i := 6) rfl S_192 (by omega) (by omega) (by decide) ?_
  have hI := st_free (c := 192) hI (by decide +kernel) (by decide) (i := (0 : Int).toNat) (v := 0)
  have fx := Fx.st (c := 192) (i := (0 : Int).toNat) (v := 0) fx (by first | omega | (dsimp only; omega) | exact not_false)
  refine K_aload_n (pc := 11) (i := 7) rfl rfl ?_
  refine K_getR (pc := 12) (i := 8) (j := 14) (d := 192) rfl S_184 rfl (by decide) rfl fw_Model_31 ?_
  refine K_iconst (pc := 15) (i := 9) rfl ?_
  refine K_iconst (pc := 16) (i := 10) rfl ?_
  refine K_iast (pc := 17) (i := 11) rfl S_192 (by omega) (by omega) (by decide) ?_
  have hI := st_free (c := 192) hI (by decide +kernel) (by decide) (i := (1 : Int).toNat) (v := 0)
  have fx := Fx.st (c := 192) (i := (1 : Int).toNat) (v := 0) fx (by first | omega | (dsimp only; omega) | exact not_false)
  refine K_aload_n (pc := 18) (i := 12) rfl rfl ?_
  refine K_iconst (pc := 19) (i := 13) rfl ?_
  refine K_aload_n (pc := 20) (i := 14) rfl rfl ?_
  refine K_getI (pc := 21) (i := 15) (j := 4) rfl S_184 rfl (by decide) rfl fw_Model_59 ?_
  refine K_nm (fun v21 e21 => ?_)
  have r21 := rd_many hI
  rw [← e21] at r21
  refine K_cVI (pc := 24) (i := 16) rfl (c_Model_blow0 G (x1 := 0) (x2 := v21) (hI := hI) (s1 := by omega) (s2 := by omega)) S_184 rfl (lv_Model_141 rfl) rfl rfl rfl rfl rfl (fun v24 h24 q24 => ?_)
  obtain ⟨fx24, q24⟩ := q24
  obtain ⟨hI, fM24, r24⟩ := q24
  have fx := fx.tr fx24 (fun c i q => (by first | omega | (dsimp only at q ⊢; omega)))
  refine K_ist_n (pc := 27) (i := 17) (lo' := [(0, _), (1, _)]) rfl rfl rfl rfl ?_
  have hG := hI
  refine K_aload_n (pc := 28) (i := 18) rfl rfl ?_
  refine K_aload_n (pc := 29) (i := 19) rfl rfl ?_
  refine K_iconst (pc := 30) (i := 20) rfl ?_
  refine K_aload_n (pc := 31) (i := 21) rfl rfl ?_
  refine K_getI (pc := 32) (i := 22) (j := 4) rfl S_184 rfl (by decide) rfl fw_Model_59 ?_
  refine K_nm (fun v32 e32 => ?_)
  have r32 := rd_many hI
  rw [← e32] at r32
  refine K_iload_n (pc := 35) (i := 23) rfl rfl ?_
  refine K_cVI (pc := 36) (i := 24) rfl (c_Model_leave0 G (x1 := 0) (x2 := v32) (x3 := v24) (hI := hI) (s1 := by omega) (s2 := by omega)) S_184 rfl (lv_Model_144 rfl) rfl rfl rfl rfl rfl (fun v36 h36 q36 => ?_)
  obtain ⟨fx36, q36⟩ := q36
  obtain ⟨hI, fM36, r36, lv36⟩ := q36
  have fx := fx.tr fx36 (fun c i q => (by first | omega | (dsimp only at q ⊢; omega)))
  refine K_putI (pc := 39) (i := 25) (j := 4) rfl S_184 rfl (by decide) rfl rfl rfl fw_Model_59 ?_
  have hI := st_many hI (v := v36) (by omega) (fun e _ => False.elim e)
  have fx := Fx.st (c := 184) (i := 4) (v := v36) fx (by first | omega | (dsimp only; omega) | exact not_false)
  refine K_aload_n (pc := 42) (i := 26) rfl rfl ?_
  refine K_getR (pc := 43) (i := 27) (j := 6) (d := 189) rfl S_184 rfl (by decide) rfl fw_Model_22 ?_
  refine K_iconst (pc := 46) (i := 28) rfl ?_
  refine K_dup2 (pc := 47) (i := 29) rfl rfl rfl ?_
  refine K_iald (pc := 48) (i := 30) rfl S_189 (by omega) (by omega) (by decide) ?_
  refine K_any (fun v48 r48 => ?_)
  refine K_aload_n (pc := 49) (i := 31) rfl rfl ?_
  refine K_getR (pc := 50) (i := 32) (j := 14) (d := 192) rfl S_184 rfl (by decide) rfl fw_Model_31 ?_
  refine K_iconst (pc := 53) (i := 33) rfl ?_
  refine K_iald (pc := 54) (i := 34) rfl S_192 (by omega) (by omega) (by decide) ?_
  refine K_any (fun v54 r54 => ?_)
  refine K_iadd (pc := 55) (i := 35) rfl ?_
  refine K_iast (pc := 56) (i := 36) rfl S_189 (by omega) (by omega) (by decide) ?_
  have hI := st_free (c := 189) hI (by decide +kernel) (by decide) (i := (0 : Int).toNat) (v := v48 + v54)
  have fx := Fx.st (c := 189) (i := (0 : Int).toNat) (v := v48 + v54) fx (by first | omega | (dsimp only; omega) | exact not_false)
  refine K_aload_n (pc := 57) (i := 37) rfl rfl ?_
  refine K_getR (pc := 58) (i := 38) (j := 6) (d := 189) rfl S_184 rfl (by decide) rfl fw_Model_22 ?_
  refine K_iconst (pc := 61) (i := 39) rfl ?_
  refine K_dup2 (pc := 62) (i := 40) rfl rfl rfl ?_
  refine K_iald (pc := 63) (i := 41) rfl S_189 (by omega) (by omega) (by decide) ?_
  refine K_any (fun v63 r63 => ?_)
  refine K_aload_n (pc := 64) (i := 42) rfl rfl ?_
  refine K_getR (pc := 65) (i := 43) (j := 14) (d := 192) rfl S_184 rfl (by decide) rfl fw_Model_31 ?_
  refine K_iconst (pc := 68) (i := 44) rfl ?_
  refine K_iald (pc := 69) (i := 45) rfl S_192 (by omega) (by omega) (by decide) ?_
  refine K_any (fun v69 r69 => ?_)
  refine K_iadd (pc := 70) (i := 46) rfl ?_
  refine K_iast (pc := 71) (i := 47) rfl S_189 (by omega) (by omega) (by decide) ?_
  have hI := st_free (c := 189) hI (by decide +kernel) (by decide) (i := (1 : Int).toNat) (v := v63 + v69)
  have fx := Fx.st (c := 189) (i := (1 : Int).toNat) (v := v63 + v69) fx (by first | omega | (dsimp only; omega) | exact not_false)
  refine K_iload_n (pc := 72) (i := 48) rfl rfl ?_
  exact K_retI (pc := 73) (i := 49) rfl rfl ⟨fx, ⟨Gd.fn hI (fun e => by
    obtain ⟨s, a⟩ := lv36
    exact LV.ok (H := (kU (kU (kU h36 184 4 v36) 189 ((0 : Int).toNat) (v48 + v54)) 189 ((1 : Int).toNat) (v63 + v69))) a e32 (by simp only [kU_c _ _ _ _ (show (187 : Nat) ≠ 189 by decide), kU_c _ _ _ _ (show (187 : Nat) ≠ 184 by decide)]) (by rw [kU_at, if_neg (by omega), kU_at, if_neg (by omega), kU_at, if_pos ⟨rfl, rfl⟩]) (by simp only [kU_c _ _ _ _ (show (191 : Nat) ≠ 189 by decide), kU_c _ _ _ _ (show (191 : Nat) ≠ 184 by decide)]; exact fM36 191 (by decide) (by decide)) (by simp only [kU_c _ _ _ _ (show (200 : Nat) ≠ 189 by decide), kU_c _ _ _ _ (show (200 : Nat) ≠ 184 by decide)]; exact fM36 200 (by decide) (by decide)) (hG.2.2.2.2.2 e)), trivial⟩⟩
