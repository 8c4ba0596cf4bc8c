/-- the lead with a kite launched: its stake and its height as one number -/
def PC (h : kH) (t gl n : Int) (c : Nat) (v : Int) : Prop := ∃ ht ha hz : kH, FC ht 16 h 6 ∧ (∀ i, i < 10 → ht 14 i = h 4 i) ∧ FA ht ha 16 t ((c / 9 : Nat) : Int) ((c / 9 : Nat) : Int) (((c % 9 : Nat) : Int) + 1) gl ∧ ha 14 = ht 14 ∧ BTW 13 n.toNat ha hz ∧ v = (hz 22 t.toNat - h 12 t.toNat) - (hz 22 (1 - t).toNat - h 12 (1 - t).toNat)
theorem PC.mk {h hb h97 h115 h123 : kH} {t gl n s e : Int} {c : Nat} (ec : ((c / 9 : Nat) : Int) = s) (ee : ((c % 9 : Nat) : Int) + 1 = e) (fs : ∀ c, 4 ≤ c → c ≤ 12 → hb c = h c) (fc : FC h97 16 hb 6) (wc : ∀ i, h97 14 i = if i < 10 then hb 4 i else hb 14 i) (fa : FA h97 h115 16 t s s e gl) (ew : h115 14 = h97 14) (bt : BTW 13 n.toNat h115 h123) : PC h t gl n c ((h123 22 t.toNat - h 12 t.toNat) - (h123 22 (1 - t).toNat - h 12 (1 - t).toNat)) := by
  subst ec; subst ee
  refine ⟨h97, h115, h123, (FC.same (fun c a b => fs c (by omega) (by omega))).tr fc, fun i hi => ?_, fa, ew, bt, rfl⟩
  rw [wc i, if_pos hi, fs 4 (by omega) (by omega)]
theorem PC.bd {h : kH} {t gl n v : Int} {c : Nat} (a : PC h t gl n c v) (h0 : 0 ≤ h 6 6) (h7 : h 6 6 ≤ 7) (hn : 0 ≤ n ∧ n ≤ 5) (ht2 : 0 ≤ t ∧ t ≤ 1) : -40 ≤ v ∧ v ≤ 40 := by
  obtain ⟨ht, ha, hz, a1, a2, a3, a4, a5, a6⟩ := a
  have k0 : ht 16 6 = h 6 6 := a1.1
  have k1 : ha 16 6 = ht 16 6 + 1 := a3.1
  have b := BTW.bd (s := 13) (h := ha) (show 0 ≤ ha 16 6 by omega) (show ha 16 6 ≤ 8 by omega) a5
  have w : ∀ i, i < 2 → ha 22 i = h 12 i := fun i hi => (a3.2.2.2 i).trans (a1.2.2 i hi)
  have b0 : ha 22 t.toNat ≤ hz 22 t.toNat ∧ hz 22 t.toNat ≤ ha 22 t.toNat + 8 * n.toNat := b.2 t.toNat (by omega)
  have b1 : ha 22 (1 - t).toNat ≤ hz 22 (1 - t).toNat ∧ hz 22 (1 - t).toNat ≤ ha 22 (1 - t).toNat + 8 * n.toNat := b.2 (1 - t).toNat (by omega)
  rw [w _ (by omega)] at b0 b1
  omega
def CWtoLaunch (h : kH) (t gl n z : Int) : Prop := (¬ ((0 ≤ t ∧ t ≤ 1) ∧ (0 ≤ gl ∧ gl ≤ 9) ∧ 1 ≤ n ∧ n ≤ 5) ∧ z = -2) ∨ (((0 ≤ t ∧ t ≤ 1) ∧ (0 ≤ gl ∧ gl ≤ 9) ∧ 1 ≤ n ∧ n ≤ 5) ∧ 8 ≤ h 6 6 ∧ z = -4) ∨ (((0 ≤ t ∧ t ≤ 1) ∧ (0 ≤ gl ∧ gl ≤ 9) ∧ 1 ≤ n ∧ n ≤ 5) ∧ h 6 6 < 8 ∧ ∃ m : Int, TLR (PC h t gl n) (fun s => ¬ hsF h 6 s) (-100) 0 369 m z)
theorem hsF.of {h h' : kH} {x : Int} (e : ∀ c, 6 ≤ c → c ≤ 12 → h' c = h c) : hsF h' 6 x ↔ hsF h 6 x := by
  unfold hsF
  rw [e 6 (by omega) (by omega), e (6 + 2) (by omega) (by omega)]
set_option maxHeartbeats 4000000 in
set_option maxRecDepth 100000 in
theorem c_War_toLaunch (G : kG) {g : kGh} {h : kH} {x1 : Int} {x2 : Int} {x3 : Int} (s1 : kR x1) (s2 : kR x2) (s3 : kR x3) (hI : Gd g h) : Ctr G y_War_toLaunch X_War_toLaunch 13 [.ref (G.2.2.2 0), kI x1, kI x2, kI x3] h (kQi (fun z h' => Fx (fun c i => 13 ≤ c ∧ c ≤ 22) h h' ∧ (Gd g h' ∧ CWtoLaunch h x1 x2 x3 z))) := by
  refine Ctr.ofK (by decide) rfl T_War_toLaunch (Nat.le_of_ble_eq_true rfl) (lo := [(0, .ref (G.2.2.2 0)), (1, kI x1), (2, kI x2), (3, kI x3)]) rfl ?_
  have fx : Fx (fun c i => 13 ≤ c ∧ c ≤ 22) h h := Fx.rf
  have n00 := rd_kites hI fl6
  refine K_iload_n (pc := 0) (i := 0) rfl rfl ?_
  refine K_cSI (pc := 1) (i := 1) rfl (c_War_isTown G (x0 := x1) (s0 := by omega)) (ls_War_146 rfl) rfl rfl rfl rfl (fun v1 h1 q1 => ?_)
  obtain ⟨eh, r1⟩ := q1
  rw [eh]; clear eh
  first | refine K_if_eq 23 (pc := 4) (i := 2) rfl rfl (by omega) (fun b4 => ?_) (fun b4 => ?_) | refine K_if_eq_an 23 (pc := 4) (i := 2) rfl rfl (fun b4 => ?_) (fun b4 => ?_)
  · skip
    refine K_bipush (pc := 23) (i := 11) rfl rfl ?_
    exact K_retI (pc := 25) (i := 12) rfl rfl ⟨fx, ⟨hI, Or.inl ⟨by omega, rfl⟩⟩⟩
  · skip
    refine K_iload_n (pc := 7) (i := 3) rfl rfl ?_
    refine K_cSI (pc := 8) (i := 4) rfl (c_War_isGlass G (x0 := x2) (s0 := by omega)) (ls_War_149 rfl) rfl rfl rfl rfl (fun v8 h8 q8 => ?_)
    obtain ⟨eh, r8⟩ := q8
    rw [eh]; clear eh
    first | refine K_if_eq 23 (pc := 11) (i := 5) rfl rfl (by omega) (fun b11 => ?_) (fun b11 => ?_) | refine K_if_eq_an 23 (pc := 11) (i := 5) rfl rfl (fun b11 => ?_) (fun b11 => ?_)
    · skip
      refine K_bipush (pc := 23) (i := 11) rfl rfl ?_
      exact K_retI (pc := 25) (i := 12) rfl rfl ⟨fx, ⟨hI, Or.inl ⟨by omega, rfl⟩⟩⟩
    · skip
      refine K_iload_n (pc := 14) (i := 6) rfl rfl ?_
      refine K_iconst (pc := 15) (i := 7) rfl ?_
      refine K_iconst (pc := 16) (i := 8) rfl ?_
      refine K_cSI (pc := 17) (i := 9) rfl (c_War_isWithin G (x0 := x3) (x1 := 1) (x2 := 5) (s0 := by omega) (s1 := by omega) (s2 := by omega)) (ls_War_124 rfl) rfl rfl rfl rfl (fun v17 h17 q17 => ?_)
      obtain ⟨eh, r17⟩ := q17
      rw [eh]; clear eh
      first | refine K_if_ne 26 (pc := 20) (i := 10) rfl rfl (by omega) (fun b20 => ?_) (fun b20 => ?_) | refine K_if_ne_an 26 (pc := 20) (i := 10) rfl rfl (fun b20 => ?_) (fun b20 => ?_)
      · skip
        refine K_aload_n (pc := 26) (i := 13) rfl rfl ?_
        refine K_getR (pc := 27) (i := 14) (j := 1) (d := 3) rfl S_0 rfl (by decide) rfl fw_War_19 ?_
        refine K_getR (pc := 30) (i := 15) (j := 0) (d := 6) rfl (S_Sk sk3) rfl (by decide) rfl fw_War_88 ?_
        refine K_getI (pc := 33) (i := 16) (j := 6) rfl (S_Fl fl6) rfl (by decide) rfl fw_War_92 ?_
        refine K_nm (fun v33 e33 => ?_)
        have r33 := rd_kites hI fl6
        rw [← e33] at r33
        have t33 : v33 = h 6 6 := e33
        refine K_bipush (pc := 36) (i := 17) rfl rfl ?_
        first | refine K_icmp_lt 44 (pc := 38) (i := 18) rfl rfl (by omega) (by omega) (fun b38 => ?_) (fun b38 => ?_) | refine K_icmp_lt_an 44 (pc := 38) (i := 18) rfl rfl (fun b38 => ?_) (fun b38 => ?_)
        · skip
          refine K_bipush (pc := 44) (i := 21) rfl rfl ?_
          refine K_ist (pc := 46) (i := 22) (lo' := [(0, _), (1, _), (2, _), (3, _), (4, _)]) rfl rfl rfl rfl ?_
          refine K_iconst (pc := 48) (i := 23) rfl ?_
          refine K_ist (pc := 49) (i := 24) (lo' := [(0, _), (1, _), (2, _), (3, _), (4, _), (5, _)]) rfl rfl rfl rfl ?_
          refine K_iconst (pc := 51) (i := 25) rfl ?_
          refine K_ist (pc := 52) (i := 26) (lo' := [(0, _), (1, _), (2, _), (3, _), (4, _), (5, _), (6, _)]) rfl rfl rfl rfl ?_
          have L54 : ∀ (n : Nat) (x4 : Int) (x5 : Int) (x6 : Int) (ha : kH), (41 - x6).toNat < n → (Gd g ha) → (Fx (fun c i => 13 ≤ c ∧ c ≤ 22) h ha) → ((0 ≤ x6 ∧ x6 ≤ 41) ∧ (-100 ≤ x4 ∧ x4 ≤ 100) ∧ TLR (PC h x1 x2 x3) (fun s => ¬ hsF h 6 s) (-100) 0 (9 * x6.toNat) x4 x5) → K X_War_toLaunch G (kZm G 13 (kQi (fun z h' => Fx (fun c i => 13 ≤ c ∧ c ≤ 22) h h' ∧ (Gd g h' ∧ CWtoLaunch h x1 x2 x3 z)))) 54 [(0, .ref (G.2.2.2 0)), (1, kI x1), (2, kI x2), (3, kI x3), (4, kI x4), (5, kI x5), (6, kI x6)] [] ha := by
            intro n
            induction n with
            | zero => intro x4 x5 x6 ha hm; exact absurd hm (Nat.not_lt_zero _)
            | succ n ih54 =>
              intro x4 x5 x6 ha hm54 hI fx hV54
              refine K_iload (pc := 54) (i := 27) rfl rfl ?_
              refine K_bipush (pc := 56) (i := 28) rfl rfl ?_
              first | refine K_icmp_gt 174 (pc := 58) (i := 29) rfl rfl (by omega) (by omega) (fun b58 => ?_) (fun b58 => ?_) | refine K_icmp_gt_an 174 (pc := 58) (i := 29) rfl rfl (fun b58 => ?_) (fun b58 => ?_)
              · skip
                refine K_iload (pc := 174) (i := 85) rfl rfl ?_
                exact K_retI (pc := 176) (i := 86) rfl rfl ⟨fx, ⟨hI, Or.inr (Or.inr ⟨by omega, by omega, x4, by have q := hV54.2.2; rwa [show x6.toNat = 41 by omega] at q⟩)⟩⟩
              · skip
                refine K_aload_n (pc := 61) (i := 30) rfl rfl ?_
                refine K_getR (pc := 62) (i := 31) (j := 1) (d := 3) rfl S_0 rfl (by decide) rfl fw_War_19 ?_
                refine K_getR (pc := 65) (i := 32) (j := 0) (d := 6) rfl (S_Sk sk3) rfl (by decide) rfl fw_War_88 ?_
                refine K_iload (pc := 68) (i := 33) rfl rfl ?_
                refine K_cVI (pc := 70) (i := 34) rfl (c_Fleet_hasStake G (f := 6) (hf := fl6) (x1 := x6) (hI := hI) (s1 := by omega)) (S_Fl fl6) rfl (lv_War_138 rfl) rfl rfl rfl rfl rfl (fun v70 h70 q70 => ?_)
                obtain ⟨eh, r70⟩ := q70
                rw [eh]; clear eh
                have hs70 : ∀ c, 6 ≤ c → c ≤ 12 → ha c = h c := fun c p q => fx.cell c (fun i => (by first | (dsimp only; omega) | omega | exact not_false))
                rw [hsF.of hs70] at r70
                have k70 : v70 = 0 ∨ v70 = 1 := r70.elim (fun q => Or.inr q.1) (fun q => Or.inl q.1)
                first | refine K_if_eq 79 (pc := 73) (i := 35) rfl rfl (by omega) (fun b73 => ?_) (fun b73 => ?_) | refine K_if_eq_an 79 (pc := 73) (i := 35) rfl rfl (fun b73 => ?_) (fun b73 => ?_)
                · skip
                  refine K_iconst (pc := 79) (i := 37) rfl ?_
                  refine K_ist (pc := 80) (i := 38) (lo' := [(0, _), (1, _), (2, _), (3, _), (4, _), (5, _), (6, _), (7, _)]) rfl rfl rfl rfl ?_
                  have L82 : ∀ (n : Nat) (x4b : Int) (x5b : Int) (x7b : Int) (hb : kH), (10 - x7b).toNat < n → (Gd g hb) → (Fx (fun c i => 13 ≤ c ∧ c ≤ 22) h hb) → ((1 ≤ x7b ∧ x7b ≤ 10) ∧ (-100 ≤ x4b ∧ x4b ≤ 100) ∧ TLR (PC h x1 x2 x3) (fun s => ¬ hsF h 6 s) (-100) 0 (9 * x6.toNat + (x7b - 1).toNat) x4b x5b) → K X_War_toLaunch G (kZm G 13 (kQi (fun z h' => Fx (fun c i => 13 ≤ c ∧ c ≤ 22) h h' ∧ (Gd g h' ∧ CWtoLaunch h x1 x2 x3 z)))) 82 [(0, .ref (G.2.2.2 0)), (1, kI x1), (2, kI x2), (3, kI x3), (4, kI x4b), (5, kI x5b), (6, kI x6), (7, kI x7b)] [] hb := by
                    intro n
                    induction n with
                    | zero => intro x4b x5b x7b hb hm; exact absurd hm (Nat.not_lt_zero _)
                    | succ n ih82 =>
                      intro x4b x5b x7b hb hm82 hI fx hV82
                      refine K_iload (pc := 82) (i := 39) rfl rfl ?_
                      refine K_bipush (pc := 84) (i := 40) rfl rfl ?_
                      first | refine K_icmp_gt 168 (pc := 86) (i := 41) rfl rfl (by omega) (by omega) (fun b86 => ?_) (fun b86 => ?_) | refine K_icmp_gt_an 168 (pc := 86) (i := 41) rfl rfl (fun b86 => ?_) (fun b86 => ?_)
                      · skip
                        refine K_inc (pc := 168) (i := 83) (q := 6) (lo' := [(0, _), (1, _), (2, _), (3, _), (4, _), (5, _), (6, _), (7, _)]) rfl rfl rfl rfl rfl ?_
                        refine K_goto 54 (pc := 171) (i := 84) rfl rfl ?_
                        refine K_drop (lo' := [(0, .ref (G.2.2.2 0)), (1, kI x1), (2, kI x2), (3, kI x3), (4, kI x4b), (5, kI x5b), (6, kI (x6 + 1))]) [0, 1, 2, 3, 4, 5, 6] rfl ?_
                        exact ih54 x4b x5b (x6 + 1) _ (by omega) hI fx (by first | exact ⟨by omega, by omega, by rw [show 9 * (x6 + 1).toNat = 9 * x6.toNat + 9 by omega]; exact hV54.2.2.skip2 (j := 0) (fun q => q (by rw [show ((x6.toNat : Nat) : Int) = x6 by omega]; exact r70.elim (fun e => e.2) (fun e => absurd e.1 (by omega)))) (by omega)⟩ | exact ⟨by omega, by omega, by rw [show 9 * (x6 + 1).toNat = 9 * x6.toNat + (x7b - 1).toNat by omega]; exact hV82.2.2⟩)
                      · skip
                        have fxb := fx
                        have fr82 : ¬ hsF h 6 (((9 * x6.toNat + (x7b - 1).toNat) / 9 : Nat) : Int) := by rw [show (((9 * x6.toNat + (x7b - 1).toNat) / 9 : Nat) : Int) = x6 by omega]; exact r70.elim (fun e => absurd e.1 (by omega)) (fun e => e.2)
                        refine K_aload_n (pc := 89) (i := 42) rfl rfl ?_
                        refine K_getR (pc := 90) (i := 43) (j := 2) (d := 13) rfl S_0 rfl (by decide) rfl fw_War_23 ?_
                        refine K_aload_n (pc := 93) (i := 44) rfl rfl ?_
                        refine K_getR (pc := 94) (i := 45) (j := 1) (d := 3) rfl S_0 rfl (by decide) rfl fw_War_19 ?_
                        refine K_cVV (pc := 97) (i := 46) rfl (c_Sky_copyFrom G (s := 13) (hs := sk13) (s2 := 3) (hs2 := sk3) (hI := hI) (dj := by omega)) (S_Sk sk13) rfl (lv_War_201 rfl) rfl rfl rfl rfl rfl (fun h97 q97 => ?_)
                        obtain ⟨fx97, q97⟩ := q97
                        obtain ⟨hI, fc97, wc97⟩ := q97
                        have fx := fx.tr fx97 (fun c i q => (by first | (dsimp only at q ⊢; omega) | omega))
                        have fs97 : ∀ c, 4 ≤ c → c ≤ 12 → hb c = h c := fun c p q => fxb.cell c (fun i => (by first | (dsimp only; omega) | omega | exact not_false))
                        have k97 : h97 16 6 = h 6 6 := by have q := fc97.1; rw [fs97 6 (by omega) (by omega)] at q; exact q
                        refine K_aload_n (pc := 100) (i := 47) rfl rfl ?_
                        refine K_getR (pc := 101) (i := 48) (j := 2) (d := 13) rfl S_0 rfl (by decide) rfl fw_War_23 ?_
                        refine K_getR (pc := 104) (i := 49) (j := 0) (d := 16) rfl (S_Sk sk13) rfl (by decide) rfl fw_War_88 ?_
                        refine K_iload_n (pc := 107) (i := 50) rfl rfl ?_
                        refine K_iload (pc := 108) (i := 51) rfl rfl ?_
                        refine K_iload (pc := 110) (i := 52) rfl rfl ?_
                        refine K_iload (pc := 112) (i := 53) rfl rfl ?_
                        refine K_iload_n (pc := 114) (i := 54) rfl rfl ?_
                        refine K_cVV (pc := 115) (i := 55) rfl (c_Fleet_add G (f := 16) (hf := fl16) (x1 := x1) (x2 := x6) (x3 := x6) (x4 := x7b) (x5 := x2) (hI := hI) (s1 := by omega) (s2 := by omega) (s3 := by omega) (s4 := by omega) (s5 := by omega)) (S_Fl fl16) rfl (lv_War_152 rfl) rfl rfl rfl rfl rfl (fun h115 q115 => ?_)
                        obtain ⟨fx115, q115⟩ := q115
                        obtain ⟨hI, fr115, fa115⟩ := q115
                        have fx := fx.tr fx115 (fun c i q => (by first | (dsimp only at q ⊢; omega) | omega))
                        refine K_aload_n (pc := 118) (i := 56) rfl rfl ?_
                        refine K_getR (pc := 119) (i := 57) (j := 2) (d := 13) rfl S_0 rfl (by decide) rfl fw_War_23 ?_
                        refine K_iload_n (pc := 122) (i := 58) rfl rfl ?_
                        refine K_cVV (pc := 123) (i := 59) rfl (c_Sky_blowTimes G (s := 13) (hs := sk13) (x1 := x3) (hI := hI) (s1 := by omega)) (S_Sk sk13) rfl (lv_War_204 rfl) rfl rfl rfl rfl rfl (fun h123 q123 => ?_)
                        obtain ⟨fx123, q123⟩ := q123
                        obtain ⟨hI, bt123⟩ := q123
                        have fx := fx.tr fx123 (fun c i q => (by first | (dsimp only at q ⊢; omega) | omega))
                        refine K_aload_n (pc := 126) (i := 60) rfl rfl ?_
                        refine K_iload_n (pc := 127) (i := 61) rfl rfl ?_
                        refine K_cVI (pc := 128) (i := 62) rfl (c_War_wonInTrial G (x1 := x1) (hI := hI) (s1 := by omega)) S_0 rfl (lv_War_207 rfl) rfl rfl rfl rfl rfl (fun v128 h128 q128 => ?_)
                        obtain ⟨eh, r128⟩ := q128
                        rw [eh]; clear eh
                        refine K_aload_n (pc := 131) (i := 63) rfl rfl ?_
                        refine K_iconst (pc := 132) (i := 64) rfl ?_
                        refine K_iload_n (pc := 133) (i := 65) rfl rfl ?_
                        refine K_isub (pc := 134) (i := 66) rfl ?_
                        refine K_cVI (pc := 135) (i := 67) rfl (c_War_wonInTrial G (x1 := 1 - x1) (hI := hI) (s1 := by omega)) S_0 rfl (lv_War_207 rfl) rfl rfl rfl rfl rfl (fun v135 h135 q135 => ?_)
                        obtain ⟨eh, r135⟩ := q135
                        rw [eh]; clear eh
                        have pc135 := PC.mk (c := 9 * x6.toNat + (x7b - 1).toNat) (n := x3) (by omega) (by omega) fs97 fc97 wc97 (fa115 (by rw [k97]; omega)) (fx115.cell 14 (fun i => (by first | (dsimp only; omega) | omega | exact not_false))) bt123
                        have z135 : v128 - v135 = (h123 22 x1.toNat - h 12 x1.toNat) - (h123 22 (1 - x1).toNat - h 12 (1 - x1).toNat) := by rw [r128, r135, fx 12 x1.toNat (by first | (dsimp only; omega) | omega | exact not_false), fx 12 (1 - x1).toNat (by first | (dsimp only; omega) | omega | exact not_false)]
                        rw [← z135] at pc135
                        have bd135 := pc135.bd n00.1 (by omega) (by omega) (by omega)
                        refine K_isub (pc := 138) (i := 68) rfl ?_
                        refine K_ist (pc := 139) (i := 69) (lo' := [(0, _), (1, _), (2, _), (3, _), (4, _), (5, _), (6, _), (7, _), (8, _)]) rfl rfl rfl rfl ?_
                        refine K_iload (pc := 141) (i := 70) rfl rfl ?_
                        refine K_iload (pc := 143) (i := 71) rfl rfl ?_
                        first | refine K_icmp_le 162 (pc := 145) (i := 72) rfl rfl (by omega) (by omega) (fun b145 => ?_) (fun b145 => ?_) | refine K_icmp_le_an 162 (pc := 145) (i := 72) rfl rfl (fun b145 => ?_) (fun b145 => ?_)
                        · skip
                          refine K_inc (pc := 162) (i := 81) (q := 7) (lo' := [(0, _), (1, _), (2, _), (3, _), (4, _), (5, _), (6, _), (7, _), (8, _)]) rfl rfl rfl rfl rfl ?_
                          refine K_goto 82 (pc := 165) (i := 82) rfl rfl ?_
                          refine K_drop (lo' := [(0, .ref (G.2.2.2 0)), (1, kI x1), (2, kI x2), (3, kI x3), (4, kI x4b), (5, kI x5b), (6, kI x6), (7, kI (x7b + 1))]) [0, 1, 2, 3, 4, 5, 6, 7] rfl ?_
                          exact ih82 x4b x5b (x7b + 1) _ (by omega) hI fx (by first | exact ⟨by omega, by omega, by rw [show 9 * x6.toNat + (x7b + 1 - 1).toNat = (9 * x6.toNat + (x7b - 1).toNat) + 1 by omega]; exact hV82.2.2.gt fr82 pc135 (by omega) (by omega)⟩ | exact ⟨by omega, by omega, by rw [show 9 * x6.toNat + (x7b + 1 - 1).toNat = (9 * x6.toNat + (x7b - 1).toNat) + 1 by omega]; exact hV82.2.2.le fr82 pc135 (by omega)⟩)
                        · skip
                          refine K_iload (pc := 148) (i := 73) rfl rfl ?_
                          refine K_ist (pc := 150) (i := 74) (lo' := [(0, _), (1, _), (2, _), (3, _), (4, _), (5, _), (6, _), (7, _), (8, _)]) rfl rfl rfl rfl ?_
                          refine K_bipush (pc := 152) (i := 75) rfl rfl ?_
                          refine K_iload (pc := 154) (i := 76) rfl rfl ?_
                          refine K_imul (pc := 156) (i := 77) rfl ?_
                          refine K_iload (pc := 157) (i := 78) rfl rfl ?_
                          refine K_iadd (pc := 159) (i := 79) rfl ?_
                          refine K_ist (pc := 160) (i := 80) (lo' := [(0, _), (1, _), (2, _), (3, _), (4, _), (5, _), (6, _), (7, _), (8, _)]) rfl rfl rfl rfl ?_
                          refine K_inc (pc := 162) (i := 81) (q := 7) (lo' := [(0, _), (1, _), (2, _), (3, _), (4, _), (5, _), (6, _), (7, _), (8, _)]) rfl rfl rfl rfl rfl ?_
                          refine K_goto 82 (pc := 165) (i := 82) rfl rfl ?_
                          refine K_drop (lo' := [(0, .ref (G.2.2.2 0)), (1, kI x1), (2, kI x2), (3, kI x3), (4, kI (v128 - v135)), (5, kI ((10 * x6) + x7b)), (6, kI x6), (7, kI (x7b + 1))]) [0, 1, 2, 3, 4, 5, 6, 7] rfl ?_
                          exact ih82 (v128 - v135) ((10 * x6) + x7b) (x7b + 1) _ (by omega) hI fx (by first | exact ⟨by omega, by omega, by rw [show 9 * x6.toNat + (x7b + 1 - 1).toNat = (9 * x6.toNat + (x7b - 1).toNat) + 1 by omega]; exact hV82.2.2.gt fr82 pc135 (by omega) (by omega)⟩ | exact ⟨by omega, by omega, by rw [show 9 * x6.toNat + (x7b + 1 - 1).toNat = (9 * x6.toNat + (x7b - 1).toNat) + 1 by omega]; exact hV82.2.2.le fr82 pc135 (by omega)⟩)
                  exact L82 _ x4 x5 1 _ (Nat.lt_succ_self _) hI fx ⟨by omega, by omega, hV54.2.2⟩
                · skip
                  refine K_goto 168 (pc := 76) (i := 36) rfl rfl ?_
                  refine K_inc (pc := 168) (i := 83) (q := 6) (lo' := [(0, _), (1, _), (2, _), (3, _), (4, _), (5, _), (6, _)]) rfl rfl rfl rfl rfl ?_
                  refine K_goto 54 (pc := 171) (i := 84) rfl rfl ?_
                  exact ih54 x4 x5 (x6 + 1) _ (by omega) hI fx (by first | exact ⟨by omega, by omega, by rw [show 9 * (x6 + 1).toNat = 9 * x6.toNat + 9 by omega]; exact hV54.2.2.skip2 (j := 0) (fun q => q (by rw [show ((x6.toNat : Nat) : Int) = x6 by omega]; exact r70.elim (fun e => e.2) (fun e => absurd e.1 (by omega)))) (by omega)⟩ | exact ⟨by omega, by omega, by rw [show 9 * (x6 + 1).toNat = 9 * x6.toNat + (x7b - 1).toNat by omega]; exact hV82.2.2⟩)
          exact L54 _ (-100) 0 0 _ (Nat.lt_succ_self _) hI fx ⟨by omega, by omega, rfl, rfl⟩
        · skip
          refine K_bipush (pc := 41) (i := 19) rfl rfl ?_
          exact K_retI (pc := 43) (i := 20) rfl rfl ⟨fx, ⟨hI, Or.inr (Or.inl ⟨by omega, by omega, rfl⟩)⟩⟩
      · skip
        refine K_bipush (pc := 23) (i := 11) rfl rfl ?_
        exact K_retI (pc := 25) (i := 12) rfl rfl ⟨fx, ⟨hI, Or.inl ⟨by omega, rfl⟩⟩⟩
