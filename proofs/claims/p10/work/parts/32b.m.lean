/-- gusts of an autumn of the reference -/
def AUK (sd : Int) : Nat → (Nat → Int) → Int → (Nat → Int) → Int → (Nat → Int) → Prop
  | 0, k, n, k', n', d => k' = k ∧ n' = n ∧ ∀ t : Nat, t < 2 → d t = 0
  | m + 1, k, n, k', n', d => ∃ (k1 : Nat → Int) (n1 : Int) (d1 : Nat → Int) (z : Int) (d2 w : Nat → Int), AUK sd m k n k1 n1 d1 ∧ (∀ i : Nat, 1 ≤ i → i < 10 → w i = wdv (itr (9 * m + i) sd)) ∧ GSK w k1 n1 k' n' z d2 ∧ ∀ t : Nat, t < 2 → d t = d1 t + d2 t
theorem AUK.st {sd : Int} {k : Nat → Int} {n : Int} {m : Nat} {ha hb h1 h2 : kH} {x z l : Int} (p : AUK sd m k n (kap ha 40) x (ha 192)) (e7 : hb 187 = ha 187) (e9 : hb 192 = ha 192) (hw : ∀ i : Nat, 1 ≤ i → i < 10 → hb 188 i = wdv (itr (9 * m + i) sd)) (kr : kR z) (bx : BXK (kap hb 40) (kap h1 40) (hb 188) x) (ct : CtK (kap h1 40) (hb 188) x z) (fk : FK (kap h1 40) x) (e192 : h1 192 = hb 192) (hl : l = kc (pB z) x.toNat)
    (th : THK (kap h1 40) (kap h2 40) (pB z) x) (gn : GN (h1 192) (h2 192) z (fun i => kap h1 40 (5 * i)) x) : AUK sd (m + 1) k n (kap h2 40) l (h2 192) := by
  rw [kap_of e7] at bx
  refine ⟨kap ha 40, x, ha 192, z, fun t => h2 192 t - ha 192 t, hb 188, p, hw, ⟨kap h1 40, ⟨kr, bx, ct, fk⟩, hl, th, fun t ht => ?_⟩, fun t _ => by dsimp only; omega⟩
  have := gn t ht
  rw [e192, e9, cw_k bx] at this
  dsimp only
  omega
def CMautumn (h : kH) (sd x m z : Int) : Prop := (¬ (0 ≤ x ∧ x ≤ 1 ∧ 1 ≤ m ∧ m ≤ 20) ∧ z = -2) ∨ ((0 ≤ x ∧ x ≤ 1 ∧ 1 ≤ m ∧ m ≤ 20) ∧ ∃ (k0 k' : Nat → Int) (n' : Int) (d : Nat → Int), (∀ j, j < 40 → k0 j = h 187 j) ∧ AUK sd m.toNat k0 (h 184 4) k' n' d ∧ z = d x.toNat)
set_option maxHeartbeats 4000000 in
set_option maxRecDepth 100000 in
theorem c_Model_autumn (G : kG) {g : kGh} {h : kH}  (hT : g.2.2.2.2){x1 : Int} {x2 : Int} (s1 : kR x1) (s2 : kR x2) (hI : Gd g h) : Ctr G y_Model_autumn X_Model_autumn 13 [.ref (G.2.2.2 184), kI x1, kI x2] h (kQi (fun z h' => Fx (fun c i => (c = 187 ∧ 40 ≤ i) ∨ c = 192 ∨ c = 188 ∨ c = 198 ∨ (c = 184 ∧ i = 22)) h h' ∧ (((¬ (0 ≤ x1 ∧ x1 ≤ 1 ∧ 1 ≤ x2 ∧ x2 ≤ 20) ∧ Gd g h') ∨ ((0 ≤ x1 ∧ x1 ≤ 1 ∧ 1 ≤ x2 ∧ x2 ≤ 20) ∧ Gd (g.1, g.2.1, g.2.2.1, itr (9 * x2).toNat g.2.2.2.1, g.2.2.2.2) h')) ∧ (∀ i, i < 10 → h' 188 i = h 188 i) ∧ CMautumn h g.2.2.2.1 x1 x2 z))) := by
  refine Ctr.ofK (by decide) rfl T_Model_autumn (Nat.le_of_ble_eq_true rfl) (lo := [(0, .ref (G.2.2.2 184)), (1, kI x1), (2, kI x2)]) rfl ?_
  have fx : Fx (fun c i => (c = 187 ∧ 40 ≤ i) ∨ c = 192 ∨ c = 188 ∨ c = 198 ∨ (c = 184 ∧ i = 22)) h h := Fx.rf
  refine K_iload_n (pc := 0) (i := 0) rfl rfl ?_
  refine K_i2l (pc := 1) (i := 1) rfl ?_
  refine K_eqJ (kI2l_eq (a := x1) (by omega)) ?_
  refine K_lconst 0 (pc := 2) (i := 2) rfl rfl ?_
  refine K_lconst 1 (pc := 3) (i := 3) rfl rfl ?_
  refine K_cSI (pc := 4) (i := 4) rfl (c_Model_in G (l0 := x1) (l2 := 0) (l4 := 1) (s0 := by omega) (s2 := by omega) (s4 := by omega)) (ls_Model_65 rfl) rfl rfl rfl rfl (fun v4 h4 q4 => ?_)
  obtain ⟨eh, r4⟩ := q4
  rw [eh]; clear eh
  first | refine K_if_eq 22 (pc := 7) (i := 5) rfl rfl (by omega) (fun b7 => ?_) (fun b7 => ?_) | refine K_if_eq_an 22 (pc := 7) (i := 5) rfl rfl (fun b7 => ?_) (fun b7 => ?_)
  · skip
    refine K_bipush (pc := 22) (i := 12) rfl rfl ?_
    exact K_retI (pc := 24) (i := 13) rfl rfl ⟨fx, ⟨Or.inl ⟨by omega, hI⟩, fun _ _ => rfl, Or.inl ⟨by omega, rfl⟩⟩⟩
  · skip
    refine K_iload_n (pc := 10) (i := 6) rfl rfl ?_
    refine K_i2l (pc := 11) (i := 7) rfl ?_
    refine K_eqJ (kI2l_eq (a := x2) (by omega)) ?_
    refine K_lconst 1 (pc := 12) (i := 8) rfl rfl ?_
    refine K_ldc2 (20) (pc := 13) (i := 9) rfl cl_Model_163 (by decide) ?_
    refine K_cSI (pc := 16) (i := 10) rfl (c_Model_in G (l0 := x2) (l2 := 1) (l4 := 20) (s0 := by omega) (s2 := by omega) (s4 := by omega)) (ls_Model_65 rfl) rfl rfl rfl rfl (fun v16 h16 q16 => ?_)
    obtain ⟨eh, r16⟩ := q16
    rw [eh]; clear eh
    first | refine K_if_ne 25 (pc := 19) (i := 11) rfl rfl (by omega) (fun b19 => ?_) (fun b19 => ?_) | refine K_if_ne_an 25 (pc := 19) (i := 11) rfl rfl (fun b19 => ?_) (fun b19 => ?_)
    · skip
      refine K_iconst (pc := 25) (i := 14) rfl ?_
      refine K_ist_n (pc := 26) (i := 15) (lo' := [(0, _), (1, _), (2, _), (3, _)]) rfl rfl rfl rfl ?_
      have L27 : ∀ (n : Nat) (x3 : Int) (ha : kH), (10 - x3).toNat < n → (Gd g ha) → (Fx (fun c i => (c = 187 ∧ 40 ≤ i) ∨ c = 192 ∨ c = 188 ∨ c = 198 ∨ (c = 184 ∧ i = 22)) h ha) → ((1 ≤ x3 ∧ x3 ≤ 10) ∧ (∀ i : Nat, 1 ≤ i → (i : Int) < x3 → ha 198 i = h 188 i) ∧ ha 188 = h 188) → K X_Model_autumn G (kZm G 13 (kQi (fun z h' => Fx (fun c i => (c = 187 ∧ 40 ≤ i) ∨ c = 192 ∨ c = 188 ∨ c = 198 ∨ (c = 184 ∧ i = 22)) h h' ∧ (((¬ (0 ≤ x1 ∧ x1 ≤ 1 ∧ 1 ≤ x2 ∧ x2 ≤ 20) ∧ Gd g h') ∨ ((0 ≤ x1 ∧ x1 ≤ 1 ∧ 1 ≤ x2 ∧ x2 ≤ 20) ∧ Gd (g.1, g.2.1, g.2.2.1, itr (9 * x2).toNat g.2.2.2.1, g.2.2.2.2) h')) ∧ (∀ i, i < 10 → h' 188 i = h 188 i) ∧ CMautumn h g.2.2.2.1 x1 x2 z)))) 27 [(0, .ref (G.2.2.2 184)), (1, kI x1), (2, kI x2), (3, kI x3)] [] ha := by
        intro n
        induction n with
        | zero => intro x3 ha hm; exact absurd hm (Nat.not_lt_zero _)
        | succ n ih27 =>
          intro x3 ha hm27 hI fx hV27
          refine K_iload_n (pc := 27) (i := 16) rfl rfl ?_
          refine K_bipush (pc := 28) (i := 17) rfl rfl ?_
          first | refine K_icmp_ge 51 (pc := 30) (i := 18) rfl rfl (by omega) (by omega) (fun b30 => ?_) (fun b30 => ?_) | refine K_icmp_ge_an 51 (pc := 30) (i := 18) rfl rfl (fun b30 => ?_) (fun b30 => ?_)
          · skip
            have hJ := hI
            have fx51 := fx
            refine K_aload_n (pc := 51) (i := 29) rfl rfl ?_
            refine K_cVV (pc := 52) (i := 30) rfl (c_Model_copy G (hI := hI)) S_184 rfl (lv_Model_165 rfl) rfl rfl rfl rfl rfl (fun h52 q52 => ?_)
            obtain ⟨fx52, q52⟩ := q52
            obtain ⟨hI, cp52⟩ := q52
            have fx := fx.tr fx52 (fun c i q => (by first | (dsimp only at q ⊢; omega) | omega))
            have fk52 : FK (kap h52 40) (h52 184 4) := by rw [fx52 184 4 (by first | (dsimp only; omega) | omega | exact not_false)]; exact FK.copy (hJ.2.2.2.2.2 hT).1 (rd_many hJ).2 cp52
            have ow52 : (∀ i : Nat, 1 ≤ i → i < 10 → h52 198 i = h 188 i) ∧ h52 188 0 = h 188 0 := ⟨fun i p q => by rw [fx52.cell 198 (fun i => (by first | (dsimp only; omega) | omega))]; exact hV27.2.1 i p (by omega), by rw [fx52.cell 188 (fun i => (by first | (dsimp only; omega) | omega)), hV27.2.2]⟩
            refine K_aload_n (pc := 55) (i := 31) rfl rfl ?_
            refine K_getR (pc := 56) (i := 32) (j := 14) (d := 192) rfl S_184 rfl (by decide) rfl fw_Model_31 ?_
            refine K_iconst (pc := 59) (i := 33) rfl ?_
            refine K_iconst (pc := 60) (i := 34) rfl ?_
            refine K_iast (pc := 61) (i := 35) rfl S_192 (by omega) (by omega) (by decide) ?_
            have hI := st_free (c := 192) hI (by decide +kernel) (by decide) (i := (0 : Int).toNat) (v := 0)
            have fx := Fx.st (c := 192) (i := (0 : Int).toNat) (v := 0) fx (by first | (dsimp only; omega) | omega | exact not_false)
            refine K_aload_n (pc := 62) (i := 36) rfl rfl ?_
            refine K_getR (pc := 63) (i := 37) (j := 14) (d := 192) rfl S_184 rfl (by decide) rfl fw_Model_31 ?_
            refine K_iconst (pc := 66) (i := 38) rfl ?_
            refine K_iconst (pc := 67) (i := 39) rfl ?_
            refine K_iast (pc := 68) (i := 40) rfl S_192 (by omega) (by omega) (by decide) ?_
            have hI := st_free (c := 192) hI (by decide +kernel) (by decide) (i := (1 : Int).toNat) (v := 0)
            have fx := Fx.st (c := 192) (i := (1 : Int).toNat) (v := 0) fx (by first | (dsimp only; omega) | omega | exact not_false)
            have k68 : kap (kU (kU h52 192 ((0 : Int).toNat) 0) 192 ((1 : Int).toNat) 0) 40 = kap h52 40 := kap_of ((kU_c _ _ _ _ (by decide)).trans (kU_c _ _ _ _ (by decide)))
            have fk68 : FK (kap (kU (kU h52 192 ((0 : Int).toNat) 0) 192 ((1 : Int).toNat) 0) 40) (h52 184 4) := by rw [k68]; exact fk52
            have ow68 : (∀ i : Nat, 1 ≤ i → i < 10 → (kU (kU h52 192 ((0 : Int).toNat) 0) 192 ((1 : Int).toNat) 0) 198 i = h 188 i) ∧ (kU (kU h52 192 ((0 : Int).toNat) 0) 192 ((1 : Int).toNat) 0) 188 0 = h 188 0 := ⟨fun i p q => by rw [kU_c _ _ _ _ (by decide), kU_c _ _ _ _ (by decide)]; exact ow52.1 i p q, by rw [kU_c _ _ _ _ (by decide), kU_c _ _ _ _ (by decide)]; exact ow52.2⟩
            have ga68 : ∀ t : Nat, t < 2 → (kU (kU h52 192 ((0 : Int).toNat) 0) 192 ((1 : Int).toNat) 0) 192 t = 0 := fun t ht => by rcases (show t = 0 ∨ t = 1 by omega) with rfl | rfl <;> simp [kU]
            refine K_aload_n (pc := 69) (i := 41) rfl rfl ?_
            refine K_getI (pc := 70) (i := 42) (j := 4) rfl S_184 rfl (by decide) rfl fw_Model_59 ?_
            refine K_nm (fun v70 e70 => ?_)
            have r70 := rd_many hI
            rw [← e70] at r70
            have t70 : v70 = h52 184 4 := by rw [e70]; simp [kU]
            have y70 : v70 = h 184 4 := by rw [e70]; exact fx 184 4 (by first | (dsimp only; omega) | omega | exact not_false)
            refine K_ist_n (pc := 73) (i := 43) (lo' := [(0, _), (1, _), (2, _), (3, _)]) rfl rfl rfl rfl ?_
            refine K_iconst (pc := 74) (i := 44) rfl ?_
            refine K_ist (pc := 75) (i := 45) (lo' := [(0, _), (1, _), (2, _), (3, _), (4, _)]) rfl rfl rfl rfl ?_
            have L77 : ∀ (n : Nat) (x3 : Int) (x4 : Int) (ha2 : kH), (x2 - x4).toNat < n → (Fx (fun c i => (c = 187 ∧ 40 ≤ i) ∨ c = 192 ∨ c = 188 ∨ c = 198 ∨ (c = 184 ∧ i = 22)) h ha2) → (Gd (g.1, g.2.1, g.2.2.1, itr (9 * x4).toNat g.2.2.2.1, g.2.2.2.2) ha2 ∧ (0 ≤ x4 ∧ x4 ≤ x2) ∧ (0 ≤ x3 ∧ x3 ≤ 8) ∧ FK (kap ha2 40) x3 ∧ ((∀ i : Nat, 1 ≤ i → i < 10 → ha2 198 i = h 188 i) ∧ ha2 188 0 = h 188 0) ∧ AUK g.2.2.2.1 x4.toNat (kap h52 40) v70 (kap ha2 40) x3 (ha2 192)) → K X_Model_autumn G (kZm G 13 (kQi (fun z h' => Fx (fun c i => (c = 187 ∧ 40 ≤ i) ∨ c = 192 ∨ c = 188 ∨ c = 198 ∨ (c = 184 ∧ i = 22)) h h' ∧ (((¬ (0 ≤ x1 ∧ x1 ≤ 1 ∧ 1 ≤ x2 ∧ x2 ≤ 20) ∧ Gd g h') ∨ ((0 ≤ x1 ∧ x1 ≤ 1 ∧ 1 ≤ x2 ∧ x2 ≤ 20) ∧ Gd (g.1, g.2.1, g.2.2.1, itr (9 * x2).toNat g.2.2.2.1, g.2.2.2.2) h')) ∧ (∀ i, i < 10 → h' 188 i = h 188 i) ∧ CMautumn h g.2.2.2.1 x1 x2 z)))) 77 [(0, .ref (G.2.2.2 184)), (1, kI x1), (2, kI x2), (3, kI x3), (4, kI x4)] [] ha2 := by
              intro n
              induction n with
              | zero => intro x3 x4 ha2 hm; exact absurd hm (Nat.not_lt_zero _)
              | succ n ih77 =>
                intro x3 x4 ha2 hm77 fx hV77
                have hI := hV77.1
                have hV := hV77.2.1
                refine K_iload (pc := 77) (i := 46) rfl rfl ?_
                refine K_iload_n (pc := 79) (i := 47) rfl rfl ?_
                first | refine K_icmp_ge 161 (pc := 80) (i := 48) rfl rfl (by omega) (by omega) (fun b80 => ?_) (fun b80 => ?_) | refine K_icmp_ge_an 161 (pc := 80) (i := 48) rfl rfl (fun b80 => ?_) (fun b80 => ?_)
                · skip
                  refine K_iconst (pc := 161) (i := 90) rfl ?_
                  refine K_ist (pc := 162) (i := 91) (lo' := [(0, _), (1, _), (2, _), (3, _), (4, _)]) rfl rfl rfl rfl ?_
                  have L164 : ∀ (n : Nat) (x4d : Int) (hc : kH), (10 - x4d).toNat < n → (Fx (fun c i => (c = 187 ∧ 40 ≤ i) ∨ c = 192 ∨ c = 188 ∨ c = 198 ∨ (c = 184 ∧ i = 22)) h hc) → (Gd (g.1, g.2.1, g.2.2.1, itr (9 * x2).toNat g.2.2.2.1, g.2.2.2.2) hc ∧ (1 ≤ x4d ∧ x4d ≤ 10) ∧ (∀ i : Nat, (i : Int) < x4d → hc 188 i = h 188 i) ∧ ((∀ i : Nat, 1 ≤ i → i < 10 → hc 198 i = h 188 i) ∧ hc 188 0 = h 188 0) ∧ hc 192 = ha2 192) → K X_Model_autumn G (kZm G 13 (kQi (fun z h' => Fx (fun c i => (c = 187 ∧ 40 ≤ i) ∨ c = 192 ∨ c = 188 ∨ c = 198 ∨ (c = 184 ∧ i = 22)) h h' ∧ (((¬ (0 ≤ x1 ∧ x1 ≤ 1 ∧ 1 ≤ x2 ∧ x2 ≤ 20) ∧ Gd g h') ∨ ((0 ≤ x1 ∧ x1 ≤ 1 ∧ 1 ≤ x2 ∧ x2 ≤ 20) ∧ Gd (g.1, g.2.1, g.2.2.1, itr (9 * x2).toNat g.2.2.2.1, g.2.2.2.2) h')) ∧ (∀ i, i < 10 → h' 188 i = h 188 i) ∧ CMautumn h g.2.2.2.1 x1 x2 z)))) 164 [(0, .ref (G.2.2.2 184)), (1, kI x1), (2, kI x2), (3, kI x3), (4, kI x4d)] [] hc := by
                    intro n
                    induction n with
                    | zero => intro x4d hc hm; exact absurd hm (Nat.not_lt_zero _)
                    | succ n ih164 =>
                      intro x4d hc hm164 fx hV164
                      have hI := hV164.1
                      have hW := hV164.2.1
                      refine K_iload (pc := 164) (i := 92) rfl rfl ?_
                      refine K_bipush (pc := 166) (i := 93) rfl rfl ?_
                      first | refine K_icmp_ge 191 (pc := 168) (i := 94) rfl rfl (by omega) (by omega) (fun b168 => ?_) (fun b168 => ?_) | refine K_icmp_ge_an 191 (pc := 168) (i := 94) rfl rfl (fun b168 => ?_) (fun b168 => ?_)
                      · skip
                        refine K_aload_n (pc := 191) (i := 105) rfl rfl ?_
                        refine K_getR (pc := 192) (i := 106) (j := 14) (d := 192) rfl S_184 rfl (by decide) rfl fw_Model_31 ?_
                        refine K_iload_n (pc := 195) (i := 107) rfl rfl ?_
                        refine K_iald (pc := 196) (i := 108) rfl S_192 (by omega) (by omega) (by decide) ?_
                        refine K_nm (fun v196 e196 => ?_)
                        exact K_retI (pc := 197) (i := 109) rfl rfl ⟨fx, ⟨Or.inr ⟨by omega, hI⟩, fun i hi => hV164.2.2.1 i (by omega), Or.inr ⟨by omega, kap h52 40, _, _, ha2 192, fun j hj => (cp52 j hj).trans (fx51 187 j (by first | (dsimp only; omega) | omega | exact not_false)), by have q := hV77.2.2.2.2.2; rw [show x4 = x2 by omega, y70] at q; exact q, by rw [e196, hV164.2.2.2.2]⟩⟩⟩
                      · skip
                        refine K_aload_n (pc := 171) (i := 95) rfl rfl ?_
                        refine K_getR (pc := 172) (i := 96) (j := 5) (d := 188) rfl S_184 rfl (by decide) rfl fw_Model_19 ?_
                        refine K_iload (pc := 175) (i := 97) rfl rfl ?_
                        refine K_aload_n (pc := 177) (i := 98) rfl rfl ?_
                        refine K_getR (pc := 178) (i := 99) (j := 23) (d := 198) rfl S_184 rfl (by decide) rfl fw_Model_50 ?_
                        refine K_iload (pc := 181) (i := 100) rfl rfl ?_
                        refine K_iald (pc := 183) (i := 101) rfl S_198 (by omega) (by omega) (by decide) ?_
                        refine K_nm (fun v183 e183 => ?_)
                        have r183 := rd_spareWind hI (x4d).toNat
                        rw [← e183] at r183
                        have t183 : v183 = h 188 x4d.toNat := by rw [e183]; exact hV164.2.2.2.1.1 x4d.toNat (by omega) (by omega)
                        refine K_iast (pc := 184) (i := 102) rfl S_188 (by omega) (by omega) (by decide) ?_
                        have hI := st_mwinds hI (i := (x4d).toNat) (v := v183) (by omega)
                        have fx := Fx.st (c := 188) (i := (x4d).toNat) (v := v183) fx (by first | (dsimp only; omega) | omega | exact not_false)
                        have wr184 : ∀ i : Nat, (i : Int) < x4d + 1 → (kU hc 188 ((x4d).toNat) v183) 188 i = h 188 i := fun i q => by rw [kU_s]; by_cases e : i = x4d.toNat; (rw [if_pos e, t183, e]); (rw [if_neg e]; exact hV164.2.2.1 i (by omega))
                        have ow184 : (∀ i : Nat, 1 ≤ i → i < 10 → (kU hc 188 ((x4d).toNat) v183) 198 i = h 188 i) ∧ (kU hc 188 ((x4d).toNat) v183) 188 0 = h 188 0 := ⟨fun i p q => by rw [kU_c _ _ _ _ (by decide)]; exact hV164.2.2.2.1.1 i p q, wr184 0 (by omega)⟩
                        refine K_inc (pc := 185) (i := 103) (q := 4) (lo' := [(0, _), (1, _), (2, _), (3, _), (4, _)]) rfl rfl rfl rfl rfl ?_
                        refine K_goto 164 (pc := 188) (i := 104) rfl rfl ?_
                        exact ih164 (x4d + 1) _ (by omega) fx ⟨hI, by omega, wr184, ow184, (kU_c _ _ _ _ (by decide)).trans hV164.2.2.2.2⟩
                  exact L164 _ 1 _ (Nat.lt_succ_self _) fx ⟨Gd.msdT hI (by rw [show x4 = x2 by omega]), by omega, fun i p => by rw [show i = 0 by omega]; exact hV77.2.2.2.2.1.2, hV77.2.2.2.2.1, rfl⟩
                · skip
                  refine K_iconst (pc := 83) (i := 49) rfl ?_
                  refine K_ist (pc := 84) (i := 50) (lo' := [(0, _), (1, _), (2, _), (3, _), (4, _), (5, _)]) rfl rfl rfl rfl ?_
                  have L86 : ∀ (n : Nat) (x5 : Int) (hb : kH), (10 - x5).toNat < n → (Fx (fun c i => (c = 187 ∧ 40 ≤ i) ∨ c = 192 ∨ c = 188 ∨ c = 198 ∨ (c = 184 ∧ i = 22)) h hb) → (Gd (g.1, g.2.1, g.2.2.1, itr (9 * x4 + x5 - 1).toNat g.2.2.2.1, g.2.2.2.2) hb ∧ (1 ≤ x5 ∧ x5 ≤ 10) ∧ hb 187 = ha2 187 ∧ hb 198 = ha2 198 ∧ hb 188 0 = ha2 188 0 ∧ hb 192 = ha2 192 ∧ ∀ i : Nat, 1 ≤ i → (i : Int) < x5 → hb 188 i = wdv (itr (9 * x4.toNat + i) g.2.2.2.1)) → K X_Model_autumn G (kZm G 13 (kQi (fun z h' => Fx (fun c i => (c = 187 ∧ 40 ≤ i) ∨ c = 192 ∨ c = 188 ∨ c = 198 ∨ (c = 184 ∧ i = 22)) h h' ∧ (((¬ (0 ≤ x1 ∧ x1 ≤ 1 ∧ 1 ≤ x2 ∧ x2 ≤ 20) ∧ Gd g h') ∨ ((0 ≤ x1 ∧ x1 ≤ 1 ∧ 1 ≤ x2 ∧ x2 ≤ 20) ∧ Gd (g.1, g.2.1, g.2.2.1, itr (9 * x2).toNat g.2.2.2.1, g.2.2.2.2) h')) ∧ (∀ i, i < 10 → h' 188 i = h 188 i) ∧ CMautumn h g.2.2.2.1 x1 x2 z)))) 86 [(0, .ref (G.2.2.2 184)), (1, kI x1), (2, kI x2), (3, kI x3), (4, kI x4), (5, kI x5)] [] hb := by
                    intro n
                    induction n with
                    | zero => intro x5 hb hm; exact absurd hm (Nat.not_lt_zero _)
                    | succ n ih86 =>
                      intro x5 hb hm86 fx hV86
                      have hI := hV86.1
                      have hW := hV86.2.1
                      have e8 : hb 184 22 = itr (9 * x4 + x5 - 1).toNat g.2.2.2.1 := hI.2.2.2.2.1
                      refine K_iload (pc := 86) (i := 51) rfl rfl ?_
                      refine K_bipush (pc := 88) (i := 52) rfl rfl ?_
                      first | refine K_icmp_ge 136 (pc := 90) (i := 53) rfl rfl (by omega) (by omega) (fun b90 => ?_) (fun b90 => ?_) | refine K_icmp_ge_an 136 (pc := 90) (i := 53) rfl rfl (fun b90 => ?_) (fun b90 => ?_)
                      · skip
                        refine K_aload_n (pc := 136) (i := 77) rfl rfl ?_
                        refine K_bipush (pc := 137) (i := 78) rfl rfl ?_
                        refine K_iload_n (pc := 139) (i := 79) rfl rfl ?_
                        refine K_cVI (pc := 140) (i := 80) rfl (c_Model_blow40 G (x1 := 40) (x2 := x3) (hk := by rw [show kap hb (40 : Int).toNat = kap ha2 40 from kap_of hV86.2.2.1]; exact hV77.2.2.2.1) (hI := hI) (s1 := by omega) (s2 := by omega)) S_184 rfl (lv_Model_141 rfl) rfl rfl rfl rfl rfl (fun v140 h140 q140 => ?_)
                        obtain ⟨fx140, q140⟩ := q140
                        obtain ⟨hI, r140, bx140, ct140, fk140⟩ := q140
                        have fx := fx.tr fx140 (fun c i q => (by first | (dsimp only at q ⊢; omega) | omega))
                        refine K_ist (pc := 143) (i := 81) (lo' := [(0, _), (1, _), (2, _), (3, _), (4, _), (5, _)]) rfl rfl rfl rfl ?_
                        refine K_aload_n (pc := 145) (i := 82) rfl rfl ?_
                        refine K_bipush (pc := 146) (i := 83) rfl rfl ?_
                        refine K_iload_n (pc := 148) (i := 84) rfl rfl ?_
                        refine K_iload (pc := 149) (i := 85) rfl rfl ?_
                        refine K_cVI (pc := 151) (i := 86) rfl (c_Model_leave40 G (x1 := 40) (x2 := x3) (x3 := v140) (hI := hI) (s1 := by omega) (s2 := by omega)) S_184 rfl (lv_Model_144 rfl) rfl rfl rfl rfl rfl (fun v151 h151 q151 => ?_)
                        obtain ⟨fx151, q151⟩ := q151
                        obtain ⟨hI, r151, kc151, th151, gn151⟩ := q151
                        have fx := fx.tr fx151 (fun c i q => (by first | (dsimp only at q ⊢; omega) | omega))
                        have fk151 : FK (kap h151 40) v151 := by rw [kc151]; exact FK.thin fk140 th151 (by omega)
                        have ow151 : (∀ i : Nat, 1 ≤ i → i < 10 → h151 198 i = h 188 i) ∧ h151 188 0 = h 188 0 := ⟨fun i p q => by rw [fx151.cell 198 (fun i => (by first | (dsimp only; omega) | omega)), fx140.cell 198 (fun i => (by first | (dsimp only; omega) | omega)), hV86.2.2.2.1]; exact hV77.2.2.2.2.1.1 i p q, by rw [fx151.cell 188 (fun i => (by first | (dsimp only; omega) | omega)), fx140.cell 188 (fun i => (by first | (dsimp only; omega) | omega)), hV86.2.2.2.2.1]; exact hV77.2.2.2.2.1.2⟩
                        have au151 := AUK.st (hb := hb) (h1 := h140) (h2 := h151) (l := v151) hV77.2.2.2.2.2 hV86.2.2.1 hV86.2.2.2.2.2.1 (fun i p q => hV86.2.2.2.2.2.2 i p (by omega)) r140 bx140 ct140 fk140 (fx140.cell 192 (fun i => (by first | (dsimp only; omega) | omega))) kc151 th151 gn151
                        rw [show x4.toNat + 1 = (x4 + 1).toNat by omega] at au151
                        refine K_ist_n (pc := 154) (i := 87) (lo' := [(0, _), (1, _), (2, _), (3, _), (4, _), (5, _)]) rfl rfl rfl rfl ?_
                        refine K_inc (pc := 155) (i := 88) (q := 4) (lo' := [(0, _), (1, _), (2, _), (3, _), (4, _), (5, _)]) rfl rfl rfl rfl rfl ?_
                        refine K_goto 77 (pc := 158) (i := 89) rfl rfl ?_
                        refine K_drop (lo' := [(0, .ref (G.2.2.2 184)), (1, kI x1), (2, kI x2), (3, kI v151), (4, kI (x4 + 1))]) [0, 1, 2, 3, 4] rfl ?_
                        exact ih77 v151 (x4 + 1) _ (by omega) fx ⟨Gd.msdT hI (by rw [show (9 * (x4 + 1)).toNat = (9 * x4 + x5 - 1).toNat by omega]), by omega, by omega, fk151, ow151, au151⟩
                      · skip
                        refine K_aload_n (pc := 93) (i := 54) rfl rfl ?_
                        refine K_aload_n (pc := 94) (i := 55) rfl rfl ?_
                        refine K_getJ (pc := 95) (i := 56) (j := 22) rfl S_184 rfl (by decide) rfl fw_Model_198 ?_
                        refine K_ldc2 (6364136223846793005) (pc := 98) (i := 57) rfl cl_Model_202 (by decide) ?_
                        refine K_lmul (pc := 101) (i := 58) rfl ?_
                        refine K_ldc2 (1442695040888963407) (pc := 102) (i := 59) rfl cl_Model_204 (by decide) ?_
                        refine K_ladd (pc := 105) (i := 60) rfl ?_
                        refine K_putJ (pc := 106) (i := 61) (j := 22) rfl S_184 rfl (by decide) rfl rfl rfl fw_Model_198 ?_
                        have hI := st_mseed hI (v := hb 184 22 * 6364136223846793005 + 1442695040888963407)
                        have fx := Fx.st (c := 184) (i := 22) (v := ((hb 184 22) * 6364136223846793005) + 1442695040888963407) fx (by first | (dsimp only; omega) | omega | exact not_false)
                        refine K_aload_n (pc := 109) (i := 62) rfl rfl ?_
                        refine K_getR (pc := 110) (i := 63) (j := 5) (d := 188) rfl S_184 rfl (by decide) rfl fw_Model_19 ?_
                        refine K_iload (pc := 113) (i := 64) rfl rfl ?_
                        refine K_aload_n (pc := 115) (i := 65) rfl rfl ?_
                        refine K_getJ (pc := 116) (i := 66) (j := 22) rfl S_184 rfl (by decide) rfl fw_Model_198 ?_
                        refine K_bipush (pc := 119) (i := 67) rfl rfl ?_
                        refine K_lushr (pc := 121) (i := 68) rfl ?_
                        refine K_ldc2 (7) (pc := 122) (i := 69) rfl cl_Model_206 (by decide) ?_
                        refine K_lrem (pc := 125) (i := 70) rfl (by decide) ?_
                        refine K_l2i (pc := 126) (i := 71) rfl ?_
                        refine K_nm (fun v126 e126 => ?_)
                        have r126 := kL2i_R (kLrem (kLushr ((kU hb 184 22 (((hb 184 22) * 6364136223846793005) + 1442695040888963407)) 184 22) 33) 7)
                        rw [← e126] at r126
                        have t126 : 0 ≤ v126 ∧ v126 ≤ 6 := by rw [e126]; exact wd7 _
                        have y126 : v126 - 3 = wdv (itr (9 * x4.toNat + x5.toNat) g.2.2.2.1) := by unfold wdv; rw [e126, kU_at, if_pos ⟨rfl, rfl⟩, e8, show 9 * x4.toNat + x5.toNat = (9 * x4 + x5 - 1).toNat + 1 by omega, itr]
                        refine K_iconst (pc := 127) (i := 72) rfl ?_
                        refine K_isub (pc := 128) (i := 73) rfl ?_
                        refine K_iast (pc := 129) (i := 74) rfl S_188 (by omega) (by omega) (by decide) ?_
                        have hI := st_mwinds hI (i := (x5).toNat) (v := v126 - 3) (by omega)
                        have fx := Fx.st (c := 188) (i := (x5).toNat) (v := v126 - 3) fx (by first | (dsimp only; omega) | omega | exact not_false)
                        have wd129 : ∀ i : Nat, 1 ≤ i → (i : Int) < x5 + 1 → (kU (kU hb 184 22 (((hb 184 22) * 6364136223846793005) + 1442695040888963407)) 188 ((x5).toNat) (v126 - 3)) 188 i = wdv (itr (9 * x4.toNat + i) g.2.2.2.1) := fun i p q => by rw [kU_s]; by_cases e : i = x5.toNat; (rw [if_pos e, y126, e]); (rw [if_neg e, kU_c _ _ _ _ (by decide)]; exact hV86.2.2.2.2.2.2 i p (by omega))
                        refine K_inc (pc := 130) (i := 75) (q := 5) (lo' := [(0, _), (1, _), (2, _), (3, _), (4, _), (5, _)]) rfl rfl rfl rfl rfl ?_
                        refine K_goto 86 (pc := 133) (i := 76) rfl rfl ?_
                        exact ih86 (x5 + 1) _ (by omega) fx ⟨Gd.msdT hI (by rw [show (9 * x4 + (x5 + 1) - 1).toNat = (9 * x4 + x5 - 1).toNat + 1 by omega, itr, ← e8]), by omega, ((kU_c _ _ _ _ (by decide)).trans (kU_c _ _ _ _ (by decide))).trans hV86.2.2.1, ((kU_c _ _ _ _ (by decide)).trans (kU_c _ _ _ _ (by decide))).trans hV86.2.2.2.1, by rw [kU_at, if_neg (by omega), kU_c _ _ _ _ (by decide)]; exact hV86.2.2.2.2.1, ((kU_c _ _ _ _ (by decide)).trans (kU_c _ _ _ _ (by decide))).trans hV86.2.2.2.2.2.1, wd129⟩
                  exact L86 _ 1 _ (Nat.lt_succ_self _) fx ⟨Gd.msdT hI (by rw [show (9 * x4 + 1 - 1).toNat = (9 * x4).toNat by omega]), by omega, rfl, rfl, rfl, rfl, fun i p q => absurd q (by omega)⟩
            exact L77 _ v70 0 _ (Nat.lt_succ_self _) fx ⟨Gd.msd rfl hI, by omega, by omega, by rw [t70]; exact fk68, ow68, k68, rfl, ga68⟩
          · skip
            refine K_aload_n (pc := 33) (i := 19) rfl rfl ?_
            refine K_getR (pc := 34) (i := 20) (j := 23) (d := 198) rfl S_184 rfl (by decide) rfl fw_Model_50 ?_
            refine K_iload_n (pc := 37) (i := 21) rfl rfl ?_
            refine K_aload_n (pc := 38) (i := 22) rfl rfl ?_
            refine K_getR (pc := 39) (i := 23) (j := 5) (d := 188) rfl S_184 rfl (by decide) rfl fw_Model_19 ?_
            refine K_iload_n (pc := 42) (i := 24) rfl rfl ?_
            refine K_iald (pc := 43) (i := 25) rfl S_188 (by omega) (by omega) (by decide) ?_
            refine K_nm (fun v43 e43 => ?_)
            have r43 := rd_mwinds hI (x3).toNat
            rw [← e43] at r43
            have t43 : v43 = h 188 x3.toNat := by rw [e43, hV27.2.2]
            refine K_iast (pc := 44) (i := 26) rfl S_198 (by omega) (by omega) (by decide) ?_
            have hI := st_spareWind hI (i := (x3).toNat) (v := v43) (by omega)
            have fx := Fx.st (c := 198) (i := (x3).toNat) (v := v43) fx (by first | (dsimp only; omega) | omega | exact not_false)
            have sw44 : ∀ i : Nat, 1 ≤ i → (i : Int) < x3 + 1 → (kU ha 198 ((x3).toNat) v43) 198 i = h 188 i := fun i p q => by rw [kU_s]; by_cases e : i = x3.toNat; (rw [if_pos e, t43, e]); (rw [if_neg e]; exact hV27.2.1 i p (by omega))
            refine K_inc (pc := 45) (i := 27) (q := 3) (lo' := [(0, _), (1, _), (2, _), (3, _)]) rfl rfl rfl rfl rfl ?_
            refine K_goto 27 (pc := 48) (i := 28) rfl rfl ?_
            exact ih27 (x3 + 1) _ (by omega) hI fx ⟨by omega, sw44, (kU_c _ _ _ _ (by decide)).trans hV27.2.2⟩
      exact L27 _ 1 _ (Nat.lt_succ_self _) hI fx ⟨by omega, fun i p q => absurd q (by omega), rfl⟩
    · skip
      refine K_bipush (pc := 22) (i := 12) rfl rfl ?_
      exact K_retI (pc := 24) (i := 13) rfl rfl ⟨fx, ⟨Or.inl ⟨by omega, hI⟩, fun _ _ => rfl, Or.inl ⟨by omega, rfl⟩⟩⟩
