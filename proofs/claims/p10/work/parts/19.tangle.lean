theorem kShl_le {k : Int} (h : 0 ≤ k ∧ k ≤ 8) : 1 ≤ kShl 1 k ∧ kShl 1 k ≤ 256 := by
  rcases (show k = 0 ∨ k = 1 ∨ k = 2 ∨ k = 3 ∨ k = 4 ∨ k = 5 ∨ k = 6 ∨ k = 7 ∨ k = 8 by omega) with rfl | rfl | rfl | rfl | rfl | rfl | rfl | rfl | rfl <;> decide
theorem mt_sf {h h' : kH} {f : Nat} (e : ∀ c, f ≤ c → c ≤ f + 6 → h' c = h c) (a b : Nat) : mt h' f a b ↔ mt h f a b := by
  unfold mt
  rw [e (f + 2) (by omega) (by omega), e (f + 3) (by omega) (by omega), e (f + 4) (by omega) (by omega)]
theorem ML.up {h : kH} {f a : Nat} {n m b : Int} (c : ML h f n m a b) (hb : n ≤ b) : ML h f n m a n := ⟨c.1, fun j h0 h1 => by
  rw [c.2 j h0 h1]
  constructor
  · rintro ⟨p, q⟩; exact ⟨by omega, q⟩
  · rintro ⟨p, q⟩; exact ⟨by omega, q⟩⟩
theorem LK.of {h h' : kH} {f : Nat} {n : Int} (c : ∀ a : Nat, (a : Int) < n → ML h f n (h' 183 a) a n) : LK h h' f n := fun a ha => ⟨(c a ha).1, fun j h0 h1 => by
  rw [(c a ha).2 j h0 h1]
  constructor
  · rintro ⟨p, q⟩; exact ⟨p.1, q⟩
  · rintro ⟨p, q⟩; exact ⟨⟨p, p⟩, q⟩⟩
set_option maxHeartbeats 4000000 in
set_option maxRecDepth 100000 in
theorem c_Tangle_look (G : kG) {g : kGh} {h : kH} {f : Nat} (hf : f ∈ FL) (hr : f + 7 ≤ 160) (hI : Gd g h) : Ctr G y_Tangle_look X_Tangle_look 4 [.ref (G.2.2.2 182), .ref (G.2.2.2 f)] h (kQv (fun h' => Fx (fun c i => c = 183) h h' ∧ (Gd g h' ∧ LK h h' f (h f 6)))) := by
  refine Ctr.ofK (by decide) rfl T_Tangle_look (Nat.le_of_ble_eq_true rfl) (lo := [(0, .ref (G.2.2.2 182)), (1, .ref (G.2.2.2 f))]) rfl ?_
  have fx : Fx (fun c i => c = 183) h h := Fx.rf
  have n00 := rd_kites hI hf
  refine K_iconst (pc := 0) (i := 0) rfl ?_
  refine K_ist_n (pc := 1) (i := 1) (lo' := [(0, _), (1, _), (2, _)]) rfl rfl rfl rfl ?_
  have L2 : ∀ (n : Nat) (x2 : Int) (ha : kH), (8 - x2).toNat < n → (Gd g ha) → (Fx (fun c i => c = 183) h ha) → ((0 ≤ x2 ∧ x2 ≤ 8) ∧ ∀ a : Nat, (a : Int) < x2 → ML h f (h f 6) (ha 183 a) a (h f 6)) → K X_Tangle_look G (kZm G 4 (kQv (fun h' => Fx (fun c i => c = 183) h h' ∧ (Gd g h' ∧ LK h h' f (h f 6))))) 2 [(0, .ref (G.2.2.2 182)), (1, .ref (G.2.2.2 f)), (2, kI x2)] [] ha := by
    intro n
    induction n with
    | zero => intro x2 ha hm; exact absurd hm (Nat.not_lt_zero _)
    | succ n ih2 =>
      intro x2 ha hm2 hI fx hV2
      refine K_iload_n (pc := 2) (i := 2) rfl rfl ?_
      refine K_aload_n (pc := 3) (i := 3) rfl rfl ?_
      refine K_getI (pc := 4) (i := 4) (j := 6) rfl (S_Fl hf) rfl (by decide) rfl fw_Tangle_15 ?_
      refine K_nm (fun v4 e4 => ?_)
      have r4 := rd_kites hI hf
      rw [← e4] at r4
      have n4 : v4 = h f 6 := by rw [e4]; exact fx f 6 (by first | (dsimp only; omega) | omega | exact not_false)
      first | refine K_icmp_ge 65 (pc := 7) (i := 5) rfl rfl (by omega) (by omega) (fun b7 => ?_) (fun b7 => ?_) | refine K_icmp_ge_an 65 (pc := 7) (i := 5) rfl rfl (fun b7 => ?_) (fun b7 => ?_)
      · skip
        exact K_retV (pc := 65) (i := 39) rfl rfl ⟨fx, ⟨hI, LK.of (fun a q => hV2.2 a (by omega))⟩⟩
      · skip
        refine K_aload_n (pc := 10) (i := 6) rfl rfl ?_
        refine K_getR (pc := 11) (i := 7) (j := 0) (d := 183) rfl S_182 rfl (by decide) rfl fw_Tangle_9 ?_
        refine K_iload_n (pc := 14) (i := 8) rfl rfl ?_
        refine K_iconst (pc := 15) (i := 9) rfl ?_
        refine K_iast (pc := 16) (i := 10) rfl S_183 (by omega) (by omega) (by decide) ?_
        have hI := st_free (c := 183) hI (by decide +kernel) (by decide) (i := (x2).toNat) (v := 0)
        have fx := Fx.st (c := 183) (i := (x2).toNat) (v := 0) fx (by first | (dsimp only; omega) | omega | exact not_false)
        have z16 : ML h f (h f 6) ((kU ha 183 ((x2).toNat) 0) 183 x2.toNat) x2.toNat 0 := by rw [kU_s, if_pos rfl]; exact ML.z
        refine K_iconst (pc := 17) (i := 11) rfl ?_
        refine K_ist_n (pc := 18) (i := 12) (lo' := [(0, _), (1, _), (2, _), (3, _)]) rfl rfl rfl rfl ?_
        have L19 : ∀ (n : Nat) (x3 : Int) (hb : kH), (8 - x3).toNat < n → (Gd g hb) → (Fx (fun c i => c = 183) h hb) → ((0 ≤ x3 ∧ x3 ≤ 8) ∧ ML h f (h f 6) (hb 183 x2.toNat) x2.toNat x3 ∧ ∀ a : Nat, (a : Int) < x2 → hb 183 a = ha 183 a) → K X_Tangle_look G (kZm G 4 (kQv (fun h' => Fx (fun c i => c = 183) h h' ∧ (Gd g h' ∧ LK h h' f (h f 6))))) 19 [(0, .ref (G.2.2.2 182)), (1, .ref (G.2.2.2 f)), (2, kI x2), (3, kI x3)] [] hb := by
          intro n
          induction n with
          | zero => intro x3 hb hm; exact absurd hm (Nat.not_lt_zero _)
          | succ n ih19 =>
            intro x3 hb hm19 hI fx hV19
            refine K_iload_n (pc := 19) (i := 13) rfl rfl ?_
            refine K_aload_n (pc := 20) (i := 14) rfl rfl ?_
            refine K_getI (pc := 21) (i := 15) (j := 6) rfl (S_Fl hf) rfl (by decide) rfl fw_Tangle_15 ?_
            refine K_nm (fun v21 e21 => ?_)
            have r21 := rd_kites hI hf
            rw [← e21] at r21
            have n21 : v21 = h f 6 := by rw [e21]; exact fx f 6 (by first | (dsimp only; omega) | omega | exact not_false)
            first | refine K_icmp_ge 59 (pc := 24) (i := 16) rfl rfl (by omega) (by omega) (fun b24 => ?_) (fun b24 => ?_) | refine K_icmp_ge_an 59 (pc := 24) (i := 16) rfl rfl (fun b24 => ?_) (fun b24 => ?_)
            · skip
              refine K_inc (pc := 59) (i := 37) (q := 2) (lo' := [(0, _), (1, _), (2, _), (3, _)]) rfl rfl rfl rfl rfl ?_
              refine K_goto 2 (pc := 62) (i := 38) rfl rfl ?_
              refine K_drop (lo' := [(0, .ref (G.2.2.2 182)), (1, .ref (G.2.2.2 f)), (2, kI (x2 + 1))]) [0, 1, 2] rfl ?_
              exact ih2 (x2 + 1) _ (by omega) hI fx ⟨by omega, fun a q => if e : a = x2.toNat then (by rw [e]; exact hV19.2.1.up (by omega)) else (by rw [hV19.2.2 a (by omega)]; exact hV2.2 a (by omega))⟩
            · skip
              refine K_iload_n (pc := 27) (i := 17) rfl rfl ?_
              refine K_iload_n (pc := 28) (i := 18) rfl rfl ?_
              first | refine K_icmp_eq 53 (pc := 29) (i := 19) rfl rfl (by omega) (by omega) (fun b29 => ?_) (fun b29 => ?_) | refine K_icmp_eq_an 53 (pc := 29) (i := 19) rfl rfl (fun b29 => ?_) (fun b29 => ?_)
              · skip
                refine K_inc (pc := 53) (i := 35) (q := 3) (lo' := [(0, _), (1, _), (2, _), (3, _)]) rfl rfl rfl rfl rfl ?_
                refine K_goto 19 (pc := 56) (i := 36) rfl rfl ?_
                exact ih19 (x3 + 1) _ (by omega) hI fx (by first | exact ⟨by omega, y52, o52⟩ | exact ⟨by omega, hV19.2.1.no (fun q => q.1 (by omega)), hV19.2.2⟩ | exact ⟨by omega, hV19.2.1.no (fun q => r35.elim (fun e => absurd e.1 (by omega)) (fun e => e.2 q.2)), hV19.2.2⟩)
              · skip
                refine K_aload_n (pc := 32) (i := 20) rfl rfl ?_
                refine K_iload_n (pc := 33) (i := 21) rfl rfl ?_
                refine K_iload_n (pc := 34) (i := 22) rfl rfl ?_
                refine K_cVI (pc := 35) (i := 23) rfl (c_Fleet_meet G (f := f) (hf := hf) (x1 := x2) (x2 := x3) (hI := hI) (s1 := by omega) (s2 := by omega)) (S_Fl hf) rfl (lv_Tangle_21 rfl) rfl rfl rfl rfl rfl (fun v35 h35 q35 => ?_)
                obtain ⟨eh, r35⟩ := q35
                rw [eh]; clear eh
                have sfhb : ∀ c, f ≤ c → c ≤ f + 6 → hb c = h c := fun c p q => fx.cell c (fun i => (by first | (dsimp only; omega) | omega))
                rw [mt_sf sfhb] at r35
                first | refine K_if_eq 53 (pc := 38) (i := 24) rfl rfl (by omega) (fun b38 => ?_) (fun b38 => ?_) | refine K_if_eq_an 53 (pc := 38) (i := 24) rfl rfl (fun b38 => ?_) (fun b38 => ?_)
                · skip
                  refine K_inc (pc := 53) (i := 35) (q := 3) (lo' := [(0, _), (1, _), (2, _), (3, _)]) rfl rfl rfl rfl rfl ?_
                  refine K_goto 19 (pc := 56) (i := 36) rfl rfl ?_
                  exact ih19 (x3 + 1) _ (by omega) hI fx (by first | exact ⟨by omega, y52, o52⟩ | exact ⟨by omega, hV19.2.1.no (fun q => q.1 (by omega)), hV19.2.2⟩ | exact ⟨by omega, hV19.2.1.no (fun q => r35.elim (fun e => absurd e.1 (by omega)) (fun e => e.2 q.2)), hV19.2.2⟩)
                · skip
                  refine K_aload_n (pc := 41) (i := 25) rfl rfl ?_
                  refine K_getR (pc := 42) (i := 26) (j := 0) (d := 183) rfl S_182 rfl (by decide) rfl fw_Tangle_9 ?_
                  refine K_iload_n (pc := 45) (i := 27) rfl rfl ?_
                  refine K_dup2 (pc := 46) (i := 28) rfl rfl rfl ?_
                  refine K_iald (pc := 47) (i := 29) rfl S_183 (by omega) (by omega) (by decide) ?_
                  refine K_nm (fun v47 e47 => ?_)
                  refine K_iconst (pc := 48) (i := 30) rfl ?_
                  refine K_iload_n (pc := 49) (i := 31) rfl rfl ?_
                  refine K_ishl (pc := 50) (i := 32) rfl ?_
                  refine K_nm (fun v50 e50 => ?_)
                  have r50 := kShl_R 1 x3
                  rw [← e50] at r50
                  refine K_ior (pc := 51) (i := 33) rfl ?_
                  refine K_nm (fun v51 e51 => ?_)
                  have r51 := kOr_R v47 v50
                  rw [← e51] at r51
                  refine K_iast (pc := 52) (i := 34) rfl S_183 (by omega) (by omega) (by decide) ?_
                  have hI := st_free (c := 183) hI (by decide +kernel) (by decide) (i := (x2).toNat) (v := v51)
                  have fx := Fx.st (c := 183) (i := (x2).toNat) (v := v51) fx (by first | (dsimp only; omega) | omega | exact not_false)
                  have y52 : ML h f (h f 6) ((kU hb 183 ((x2).toNat) v51) 183 x2.toNat) x2.toNat (x3 + 1) := by rw [kU_s, if_pos rfl, e51, e50, e47]; exact hV19.2.1.yes (by omega) (by omega) (by omega) (r35.elim (fun q => q.2) (fun q => absurd q.1 (by omega)))
                  have o52 : ∀ a : Nat, (a : Int) < x2 → (kU hb 183 ((x2).toNat) v51) 183 a = ha 183 a := fun a q => by rw [kU_s, if_neg (by omega)]; exact hV19.2.2 a q
                  refine K_inc (pc := 53) (i := 35) (q := 3) (lo' := [(0, _), (1, _), (2, _), (3, _)]) rfl rfl rfl rfl rfl ?_
                  refine K_goto 19 (pc := 56) (i := 36) rfl rfl ?_
                  exact ih19 (x3 + 1) _ (by omega) hI fx (by first | exact ⟨by omega, y52, o52⟩ | exact ⟨by omega, hV19.2.1.no (fun q => q.1 (by omega)), hV19.2.2⟩ | exact ⟨by omega, hV19.2.1.no (fun q => r35.elim (fun e => absurd e.1 (by omega)) (fun e => e.2 q.2)), hV19.2.2⟩)
        exact L19 _ 0 _ (Nat.lt_succ_self _) hI fx ⟨by omega, z16, fun a q => by rw [kU_s, if_neg (by omega)]⟩
  exact L2 _ 0 _ (Nat.lt_succ_self _) hI fx ⟨by omega, fun a q => absurd q (by omega)⟩
set_option maxHeartbeats 4000000 in
set_option maxRecDepth 100000 in
theorem c_Tangle_pairs (G : kG) {g : kGh} {h : kH} {f : Nat} (hf : f ∈ FL) (hr : f + 7 ≤ 160) (hI : Gd g h) : Ctr G y_Tangle_pairs X_Tangle_pairs 5 [.ref (G.2.2.2 182), .ref (G.2.2.2 f)] h (kQi (fun z h' => Fx (fun c i => c = 183) h h' ∧ (Gd g h' ∧ z = sm (fun a => sm (fun b => ind (b ≠ a ∧ mt h f a b)) (h f 6).toNat) (h f 6).toNat / 2))) := by
  refine Ctr.ofK (by decide) rfl T_Tangle_pairs (Nat.le_of_ble_eq_true rfl) (lo := [(0, .ref (G.2.2.2 182)), (1, .ref (G.2.2.2 f))]) rfl ?_
  have fx : Fx (fun c i => c = 183) h h := Fx.rf
  have n00 := rd_kites hI hf
  refine K_aload_n (pc := 0) (i := 0) rfl rfl ?_
  refine K_aload_n (pc := 1) (i := 1) rfl rfl ?_
  refine K_cVV (pc := 2) (i := 2) rfl (c_Tangle_look G (f := f) (hf := hf) (hI := hI) (hr := by omega)) S_182 rfl (lv_Tangle_25 rfl) rfl rfl rfl rfl rfl (fun h2 q2 => ?_)
  obtain ⟨fx2, q2⟩ := q2
  obtain ⟨hI, lk2⟩ := q2
  have fx := fx.tr fx2 (fun c i q => (by first | (dsimp only at q ⊢; omega) | omega))
  refine K_iconst (pc := 5) (i := 3) rfl ?_
  refine K_ist_n (pc := 6) (i := 4) (lo' := [(0, _), (1, _), (2, _)]) rfl rfl rfl rfl ?_
  refine K_iconst (pc := 7) (i := 5) rfl ?_
  refine K_ist_n (pc := 8) (i := 6) (lo' := [(0, _), (1, _), (2, _), (3, _)]) rfl rfl rfl rfl ?_
  have L9 : ∀ (n : Nat) (x2 : Int) (x3 : Int), (8 - x3).toNat < n → ((0 ≤ x3 ∧ x3 ≤ 8) ∧ (0 ≤ x2 ∧ x2 ≤ 8 * x3) ∧ x3 ≤ h f 6 ∧ x2 = sm (fun a => sm (fun b => ind (b ≠ a ∧ mt h f a b)) (h f 6).toNat) x3.toNat) → K X_Tangle_pairs G (kZm G 5 (kQi (fun z h' => Fx (fun c i => c = 183) h h' ∧ (Gd g h' ∧ z = sm (fun a => sm (fun b => ind (b ≠ a ∧ mt h f a b)) (h f 6).toNat) (h f 6).toNat / 2)))) 9 [(0, .ref (G.2.2.2 182)), (1, .ref (G.2.2.2 f)), (2, kI x2), (3, kI x3)] [] h2 := by
    intro n
    induction n with
    | zero => intro x2 x3 hm; exact absurd hm (Nat.not_lt_zero _)
    | succ n ih9 =>
      intro x2 x3 hm9 hV9
      refine K_iload_n (pc := 9) (i := 7) rfl rfl ?_
      refine K_aload_n (pc := 10) (i := 8) rfl rfl ?_
      refine K_getI (pc := 11) (i := 9) (j := 6) rfl (S_Fl hf) rfl (by decide) rfl fw_Tangle_15 ?_
      refine K_nm (fun v11 e11 => ?_)
      have r11 := rd_kites hI hf
      rw [← e11] at r11
      have n11 : v11 = h f 6 := by rw [e11]; exact fx2 f 6 (by first | (dsimp only; omega) | omega | exact not_false)
      first | refine K_icmp_ge 35 (pc := 14) (i := 10) rfl rfl (by omega) (by omega) (fun b14 => ?_) (fun b14 => ?_) | refine K_icmp_ge_an 35 (pc := 14) (i := 10) rfl rfl (fun b14 => ?_) (fun b14 => ?_)
      · skip
        refine K_iload_n (pc := 35) (i := 21) rfl rfl ?_
        refine K_iconst (pc := 36) (i := 22) rfl ?_
        refine K_idiv (pc := 37) (i := 23) rfl (by omega) (by omega) ?_
        refine K_eq (kDiv_eq (by omega) (by omega) (by omega) (by omega)) ?_
        exact K_retI (pc := 38) (i := 24) rfl rfl ⟨fx, ⟨hI, by rw [show (h f 6).toNat = x3.toNat by omega] at hV9 ⊢; rw [hV9.2.2.2]⟩⟩
      · skip
        refine K_iload_n (pc := 17) (i := 11) rfl rfl ?_
        refine K_aload_n (pc := 18) (i := 12) rfl rfl ?_
        refine K_getR (pc := 19) (i := 13) (j := 0) (d := 183) rfl S_182 rfl (by decide) rfl fw_Tangle_9 ?_
        refine K_iload_n (pc := 22) (i := 14) rfl rfl ?_
        refine K_iald (pc := 23) (i := 15) rfl S_183 (by omega) (by omega) (by decide) ?_
        refine K_nm (fun v23 e23 => ?_)
        refine K_cSI (pc := 24) (i := 16) rfl (c_Integer_bitCount G (x0 := v23)) (ls_Tangle_29 rfl) rfl rfl rfl rfl (fun v24 h24 q24 => ?_)
        obtain ⟨eh, r24⟩ := q24
        rw [eh]; clear eh
        have lp := lk2.pc (by omega) (a := x3.toNat) (by omega)
        rw [← e23] at lp
        have t24 : v24 = sm (fun b => ind (b ≠ x3.toNat ∧ mt h f x3.toNat b)) (h f 6).toNat := (r24.2 (by omega) (by omega)).trans lp.2
        have b24 := sm_bd (f := fun b => ind (b ≠ x3.toNat ∧ mt h f x3.toNat b)) (c := 1) (n := (h f 6).toNat) (fun i _ => ind_bd _)
        rw [← t24] at b24
        refine K_iadd (pc := 27) (i := 17) rfl ?_
        refine K_ist_n (pc := 28) (i := 18) (lo' := [(0, _), (1, _), (2, _), (3, _)]) rfl rfl rfl rfl ?_
        refine K_inc (pc := 29) (i := 19) (q := 3) (lo' := [(0, _), (1, _), (2, _), (3, _)]) rfl rfl rfl rfl rfl ?_
        refine K_goto 9 (pc := 32) (i := 20) rfl rfl ?_
        exact ih9 (x2 + v24) (x3 + 1) (by omega) ⟨by omega, by omega, by omega, by rw [show (x3 + 1).toNat = x3.toNat + 1 by omega, sm, ← hV9.2.2.2, ← t24]⟩
  exact L9 _ 0 0 (Nat.lt_succ_self _) ⟨by omega, by omega, by omega, rfl⟩
def LSb (h : kH) (x n : Int) : Prop := ∀ a : Nat, (a : Int) < n → tb x a = true → kAnd (h 183 a) x = 0
theorem LSb.z {h : kH} {x : Int} : LSb h x 0 := fun a q => absurd q (by omega)
theorem LSb.st {h : kH} {x n : Int} (c : LSb h x n) (h0 : 0 ≤ n) (hn : tb x n = true → kAnd (h 183 n.toNat) x = 0) : LSb h x (n + 1) := fun a q r => by
  by_cases e : a = n.toNat
  · rw [e]; exact hn (by rw [e, show ((n.toNat : Nat) : Int) = n by omega] at r; exact r)
  · exact c a (by omega) r
set_option maxHeartbeats 4000000 in
set_option maxRecDepth 100000 in
theorem c_Tangle_isLoose (G : kG) {g : kGh} {h : kH} {x1 : Int} {x2 : Int} (s2 : 0 ≤ x2 ∧ x2 ≤ 8) (hI : Gd g h) : Ctr G y_Tangle_isLoose X_Tangle_isLoose 1 [.ref (G.2.2.2 182), kI x1, kI x2] h (kQi (fun z h' => h' = h ∧ ((z = 1 ∧ LSb h x1 x2) ∨ (z = 0 ∧ ¬ LSb h x1 x2)))) := by
  refine Ctr.ofK (by decide) rfl T_Tangle_isLoose (Nat.le_of_ble_eq_true rfl) (lo := [(0, .ref (G.2.2.2 182)), (1, kI x1), (2, kI x2)]) rfl ?_
  refine K_iconst (pc := 0) (i := 0) rfl ?_
  refine K_ist_n (pc := 1) (i := 1) (lo' := [(0, _), (1, _), (2, _), (3, _)]) rfl rfl rfl rfl ?_
  have L2 : ∀ (n : Nat) (x3 : Int), (8 - x3).toNat < n → ((0 ≤ x3 ∧ x3 ≤ x2) ∧ LSb h x1 x3) → K X_Tangle_isLoose G (kZm G 1 (kQi (fun z h' => h' = h ∧ ((z = 1 ∧ LSb h x1 x2) ∨ (z = 0 ∧ ¬ LSb h x1 x2))))) 2 [(0, .ref (G.2.2.2 182)), (1, kI x1), (2, kI x2), (3, kI x3)] [] h := by
    intro n
    induction n with
    | zero => intro x3 hm; exact absurd hm (Nat.not_lt_zero _)
    | succ n ih2 =>
      intro x3 hm2 hV2
      refine K_iload_n (pc := 2) (i := 2) rfl rfl ?_
      refine K_iload_n (pc := 3) (i := 3) rfl rfl ?_
      first | refine K_icmp_ge 34 (pc := 4) (i := 4) rfl rfl (by omega) (by omega) (fun b4 => ?_) (fun b4 => ?_) | refine K_icmp_ge_an 34 (pc := 4) (i := 4) rfl rfl (fun b4 => ?_) (fun b4 => ?_)
      · skip
        refine K_iconst (pc := 34) (i := 22) rfl ?_
        exact K_retZ (pc := 35) (i := 23) rfl rfl (by omega) ⟨rfl, Or.inl ⟨rfl, by rw [show x2 = x3 by omega]; exact hV2.2⟩⟩
      · skip
        refine K_iload_n (pc := 7) (i := 5) rfl rfl ?_
        refine K_iload_n (pc := 8) (i := 6) rfl rfl ?_
        refine K_ishr (pc := 9) (i := 7) rfl ?_
        refine K_nm (fun v9 e9 => ?_)
        have r9 := kShr_R x1 x3
        rw [← e9] at r9
        refine K_iconst (pc := 10) (i := 8) rfl ?_
        refine K_iand (pc := 11) (i := 9) rfl ?_
        refine K_nm (fun v11 e11 => ?_)
        have r11 := kAnd_1 v9
        rw [← e11] at r11
        have t11 : v11 = if tb x1 x3 then 1 else 0 := by rw [e11, e9]; exact kbit (by omega)
        first | refine K_if_eq 28 (pc := 12) (i := 10) rfl rfl (by omega) (fun b12 => ?_) (fun b12 => ?_) | refine K_if_eq_an 28 (pc := 12) (i := 10) rfl rfl (fun b12 => ?_) (fun b12 => ?_)
        · skip
          refine K_inc (pc := 28) (i := 20) (q := 3) (lo' := [(0, _), (1, _), (2, _), (3, _)]) rfl rfl rfl rfl rfl ?_
          refine K_goto 2 (pc := 31) (i := 21) rfl rfl ?_
          exact ih2 (x3 + 1) (by omega) (by first | exact ⟨by omega, hV2.2.st (by omega) (fun q => absurd q (tbz t11 (by omega)))⟩ | exact ⟨by omega, hV2.2.st (by omega) (fun _ => by rw [← e20, ← e22]; omega)⟩)
        · skip
          refine K_aload_n (pc := 15) (i := 11) rfl rfl ?_
          refine K_getR (pc := 16) (i := 12) (j := 0) (d := 183) rfl S_182 rfl (by decide) rfl fw_Tangle_9 ?_
          refine K_iload_n (pc := 19) (i := 13) rfl rfl ?_
          refine K_iald (pc := 20) (i := 14) rfl S_183 (by omega) (by omega) (by decide) ?_
          refine K_nm (fun v20 e20 => ?_)
          refine K_iload_n (pc := 21) (i := 15) rfl rfl ?_
          refine K_iand (pc := 22) (i := 16) rfl ?_
          refine K_nm (fun v22 e22 => ?_)
          have r22 := kAnd_R v20 x1
          rw [← e22] at r22
          first | refine K_if_eq 28 (pc := 23) (i := 17) rfl rfl (by omega) (fun b23 => ?_) (fun b23 => ?_) | refine K_if_eq_an 28 (pc := 23) (i := 17) rfl rfl (fun b23 => ?_) (fun b23 => ?_)
          · skip
            refine K_inc (pc := 28) (i := 20) (q := 3) (lo' := [(0, _), (1, _), (2, _), (3, _)]) rfl rfl rfl rfl rfl ?_
            refine K_goto 2 (pc := 31) (i := 21) rfl rfl ?_
            exact ih2 (x3 + 1) (by omega) (by first | exact ⟨by omega, hV2.2.st (by omega) (fun q => absurd q (tbz t11 (by omega)))⟩ | exact ⟨by omega, hV2.2.st (by omega) (fun _ => by rw [← e20, ← e22]; omega)⟩)
          · skip
            refine K_iconst (pc := 26) (i := 18) rfl ?_
            exact K_retZ (pc := 27) (i := 19) rfl rfl (by omega) ⟨rfl, Or.inr ⟨rfl, fun q => absurd (q x3.toNat (by omega) (by rw [show ((x3.toNat : Nat) : Int) = x3 by omega]; exact tbx t11 (by omega))) (by rw [← e20, ← e22]; omega)⟩⟩
  exact L2 _ 0 (Nat.lt_succ_self _) ⟨by omega, LSb.z⟩
set_option maxHeartbeats 4000000 in
set_option maxRecDepth 100000 in
theorem c_Tangle_fewest (G : kG) {g : kGh} {h : kH} {f : Nat} (hf : f ∈ FL) (hr : f + 7 ≤ 160) (hI : Gd g h) : Ctr G y_Tangle_fewest X_Tangle_fewest 5 [.ref (G.2.2.2 182), .ref (G.2.2.2 f)] h (kQi (fun z h' => Fx (fun c i => c = 183) h h' ∧ (Gd g h' ∧ ∃ k : Nat, (h f 6 = k ∧ k < 9) ∧ FWc (fun s => LSt (fun i j => mt h f i j) k s) ((2 ^ k : Nat) - 1 : Int) z ((2 ^ k : Nat) : Int)))) := by
  refine Ctr.ofK (by decide) rfl T_Tangle_fewest (Nat.le_of_ble_eq_true rfl) (lo := [(0, .ref (G.2.2.2 182)), (1, .ref (G.2.2.2 f))]) rfl ?_
  have fx : Fx (fun c i => c = 183) h h := Fx.rf
  have n00 := rd_kites hI hf
  obtain ⟨kn, ekn⟩ : ∃ k : Nat, h f 6 = k := Int.eq_ofNat_of_zero_le n00.1
  have kn9 : kn < 9 := by omega
  obtain ⟨al1, al2⟩ := all_ok kn kn9
  refine K_aload_n (pc := 0) (i := 0) rfl rfl ?_
  refine K_aload_n (pc := 1) (i := 1) rfl rfl ?_
  refine K_cVV (pc := 2) (i := 2) rfl (c_Tangle_look G (f := f) (hf := hf) (hI := hI) (hr := by omega)) S_182 rfl (lv_Tangle_25 rfl) rfl rfl rfl rfl rfl (fun h2 q2 => ?_)
  obtain ⟨fx2, q2⟩ := q2
  obtain ⟨hI, lk2⟩ := q2
  have fx := fx.tr fx2 (fun c i q => (by first | (dsimp only at q ⊢; omega) | omega))
  refine K_iconst (pc := 5) (i := 3) rfl ?_
  refine K_aload_n (pc := 6) (i := 4) rfl rfl ?_
  refine K_getI (pc := 7) (i := 5) (j := 6) rfl (S_Fl hf) rfl (by decide) rfl fw_Tangle_15 ?_
  refine K_nm (fun v7 e7 => ?_)
  have r7 := rd_kites hI hf
  rw [← e7] at r7
  have n7 : v7 = kn := by rw [e7, fx2 f 6 (by first | (dsimp only; omega) | omega | exact not_false), ekn]
  refine K_ishl (pc := 10) (i := 6) rfl ?_
  refine K_nm (fun v10 e10 => ?_)
  have r10 := kShl_R 1 v7
  rw [← e10] at r10
  have t10 : 1 ≤ v10 ∧ v10 ≤ 256 := by rw [e10]; exact kShl_le (by omega)
  have y10 : v10 = ((2 ^ kn : Nat) : Int) := by rw [e10, n7]; exact al1
  refine K_iconst (pc := 11) (i := 7) rfl ?_
  refine K_isub (pc := 12) (i := 8) rfl ?_
  refine K_ist_n (pc := 13) (i := 9) (lo' := [(0, _), (1, _), (2, _)]) rfl rfl rfl rfl ?_
  refine K_iload_n (pc := 14) (i := 10) rfl rfl ?_
  refine K_ist_n (pc := 15) (i := 11) (lo' := [(0, _), (1, _), (2, _), (3, _)]) rfl rfl rfl rfl ?_
  refine K_iconst (pc := 16) (i := 12) rfl ?_
  refine K_ist (pc := 17) (i := 13) (lo' := [(0, _), (1, _), (2, _), (3, _), (4, _)]) rfl rfl rfl rfl ?_
  have L19 : ∀ (n : Nat) (x3 : Int) (x4 : Int), (257 - x4).toNat < n → ((0 ≤ x4 ∧ x4 ≤ v10) ∧ FWc (fun s => LSt (fun i j => mt h f i j) kn s) (v10 - 1) x3 x4) → K X_Tangle_fewest G (kZm G 5 (kQi (fun z h' => Fx (fun c i => c = 183) h h' ∧ (Gd g h' ∧ ∃ k : Nat, (h f 6 = k ∧ k < 9) ∧ FWc (fun s => LSt (fun i j => mt h f i j) k s) ((2 ^ k : Nat) - 1 : Int) z ((2 ^ k : Nat) : Int))))) 19 [(0, .ref (G.2.2.2 182)), (1, .ref (G.2.2.2 f)), (2, kI (v10 - 1)), (3, kI x3), (4, kI x4)] [] h2 := by
    intro n
    induction n with
    | zero => intro x3 x4 hm; exact absurd hm (Nat.not_lt_zero _)
    | succ n ih19 =>
      intro x3 x4 hm19 hV19
      refine K_iload (pc := 19) (i := 14) rfl rfl ?_
      refine K_iload_n (pc := 21) (i := 15) rfl rfl ?_
      first | refine K_icmp_gt 63 (pc := 22) (i := 16) rfl rfl (by omega) (by omega) (fun b22 => ?_) (fun b22 => ?_) | refine K_icmp_gt_an 63 (pc := 22) (i := 16) rfl rfl (fun b22 => ?_) (fun b22 => ?_)
      · skip
        refine K_iload_n (pc := 63) (i := 36) rfl rfl ?_
        exact K_retI (pc := 64) (i := 37) rfl rfl ⟨fx, ⟨hI, kn, ⟨ekn, kn9⟩, by have q := hV19.2; rw [show x4 = v10 by omega, y10] at q; exact q⟩⟩
      · skip
        refine K_iload (pc := 25) (i := 17) rfl rfl ?_
        refine K_cSI (pc := 27) (i := 18) rfl (c_Integer_bitCount G (x0 := x4)) (ls_Tangle_29 rfl) rfl rfl rfl rfl (fun v27 h27 q27 => ?_)
        obtain ⟨eh, r27⟩ := q27
        rw [eh]; clear eh
        have t27 : v27 = pcI x4 := r27.2 (by omega) (by omega)
        refine K_iload_n (pc := 30) (i := 19) rfl rfl ?_
        refine K_cSI (pc := 31) (i := 20) rfl (c_Integer_bitCount G (x0 := x3)) (ls_Tangle_29 rfl) rfl rfl rfl rfl (fun v31 h31 q31 => ?_)
        obtain ⟨eh, r31⟩ := q31
        rw [eh]; clear eh
        have t31 : v31 = pcI x3 := r31.2 (by have q := hV19.2.1; omega) (by have q := hV19.2.1; omega)
        first | refine K_icmp_ge 57 (pc := 34) (i := 21) rfl rfl (by omega) (by omega) (fun b34 => ?_) (fun b34 => ?_) | refine K_icmp_ge_an 57 (pc := 34) (i := 21) rfl rfl (fun b34 => ?_) (fun b34 => ?_)
        · skip
          refine K_inc (pc := 57) (i := 34) (q := 4) (lo' := [(0, _), (1, _), (2, _), (3, _), (4, _)]) rfl rfl rfl rfl rfl ?_
          refine K_goto 19 (pc := 60) (i := 35) rfl rfl ?_
          exact ih19 x3 (x4 + 1) (by omega) (by first | exact ⟨by omega, hV19.2.yes (by omega) (r48.elim (fun q => q.2) (fun q => absurd q.1 (by omega))) (by omega)⟩ | exact ⟨by omega, hV19.2.no (by omega) (fun _ => by omega) (fun e _ => by rw [← e]; omega)⟩ | exact ⟨by omega, hV19.2.no (by omega) (fun q => absurd q (r48.elim (fun e => absurd e.1 (by omega)) (fun e => e.2))) (fun _ q => absurd q (r48.elim (fun e => absurd e.1 (by omega)) (fun e => e.2)))⟩)
        · skip
          refine K_aload_n (pc := 37) (i := 22) rfl rfl ?_
          refine K_iload_n (pc := 38) (i := 23) rfl rfl ?_
          refine K_iload (pc := 39) (i := 24) rfl rfl ?_
          refine K_iconst (pc := 41) (i := 25) rfl ?_
          refine K_ixor (pc := 42) (i := 26) rfl ?_
          refine K_nm (fun v42 e42 => ?_)
          have r42 := kXor_R x4 (-1)
          rw [← e42] at r42
          refine K_iand (pc := 43) (i := 27) rfl ?_
          refine K_nm (fun v43 e43 => ?_)
          have r43 := kAnd_R (v10 - 1) v42
          rw [← e43] at r43
          refine K_aload_n (pc := 44) (i := 28) rfl rfl ?_
          refine K_getI (pc := 45) (i := 29) (j := 6) rfl (S_Fl hf) rfl (by decide) rfl fw_Tangle_15 ?_
          refine K_nm (fun v45 e45 => ?_)
          have r45 := rd_kites hI hf
          rw [← e45] at r45
          have n45 : v45 = kn := by rw [e45, fx2 f 6 (by first | (dsimp only; omega) | omega | exact not_false), ekn]
          refine K_cVI (pc := 48) (i := 30) rfl (c_Tangle_isLoose G (x1 := v43) (x2 := v45) (hI := hI) (s2 := by omega)) S_182 rfl (lv_Tangle_35 rfl) rfl rfl rfl rfl rfl (fun v48 h48 q48 => ?_)
          obtain ⟨eh, r48⟩ := q48
          rw [eh]; clear eh
          rw [n45] at r48
          have lk : LK h h2 f kn := by rw [← ekn]; exact lk2
          have lo : LSb h2 v43 kn ↔ LSt (fun i j => mt h f i j) kn x4 := loose_ok kn9 lk (by rw [e43, e42, ← y10])
          rw [lo] at r48
          first | refine K_if_eq 57 (pc := 51) (i := 31) rfl rfl (by omega) (fun b51 => ?_) (fun b51 => ?_) | refine K_if_eq_an 57 (pc := 51) (i := 31) rfl rfl (fun b51 => ?_) (fun b51 => ?_)
          · skip
            refine K_inc (pc := 57) (i := 34) (q := 4) (lo' := [(0, _), (1, _), (2, _), (3, _), (4, _)]) rfl rfl rfl rfl rfl ?_
            refine K_goto 19 (pc := 60) (i := 35) rfl rfl ?_
            exact ih19 x3 (x4 + 1) (by omega) (by first | exact ⟨by omega, hV19.2.yes (by omega) (r48.elim (fun q => q.2) (fun q => absurd q.1 (by omega))) (by omega)⟩ | exact ⟨by omega, hV19.2.no (by omega) (fun _ => by omega) (fun e _ => by rw [← e]; omega)⟩ | exact ⟨by omega, hV19.2.no (by omega) (fun q => absurd q (r48.elim (fun e => absurd e.1 (by omega)) (fun e => e.2))) (fun _ q => absurd q (r48.elim (fun e => absurd e.1 (by omega)) (fun e => e.2)))⟩)
          · skip
            refine K_iload (pc := 54) (i := 32) rfl rfl ?_
            refine K_ist_n (pc := 56) (i := 33) (lo' := [(0, _), (1, _), (2, _), (3, _), (4, _)]) rfl rfl rfl rfl ?_
            refine K_inc (pc := 57) (i := 34) (q := 4) (lo' := [(0, _), (1, _), (2, _), (3, _), (4, _)]) rfl rfl rfl rfl rfl ?_
            refine K_goto 19 (pc := 60) (i := 35) rfl rfl ?_
            exact ih19 x4 (x4 + 1) (by omega) (by first | exact ⟨by omega, hV19.2.yes (by omega) (r48.elim (fun q => q.2) (fun q => absurd q.1 (by omega))) (by omega)⟩ | exact ⟨by omega, hV19.2.no (by omega) (fun _ => by omega) (fun e _ => by rw [← e]; omega)⟩ | exact ⟨by omega, hV19.2.no (by omega) (fun q => absurd q (r48.elim (fun e => absurd e.1 (by omega)) (fun e => e.2))) (fun _ q => absurd q (r48.elim (fun e => absurd e.1 (by omega)) (fun e => e.2)))⟩)
  exact L19 _ (v10 - 1) 0 (Nat.lt_succ_self _) ⟨by omega, ⟨by omega, by omega⟩, (fun i j hi _ _ p _ _ => absurd p (by rw [y10, (al2 i (by omega)).2 (by omega)]; simp)), fun s p q => absurd q (by omega), Or.inl ⟨rfl, fun s p q => absurd q (by omega)⟩⟩
