set_option maxHeartbeats 4000000 in
set_option maxRecDepth 100000 in
theorem c_Model_layFits (G : kG) {g : kGh} {h : kH}  (hT : g.2.2.2.2) (hI : Gd g h) : Ctr G y_Model_layFits X_Model_layFits 3 [.ref (G.2.2.2 184)] h (kQi (fun z h' => Fx (fun c i => (c = 187 ∧ 40 ≤ i) ∨ c = 196 ∨ c = 197) h h' ∧ (Gd g h' ∧ kR z))) := by
  refine Ctr.ofK (by decide) rfl T_Model_layFits (Nat.le_of_ble_eq_true rfl) (lo := [(0, .ref (G.2.2.2 184))]) rfl ?_
  have fx : Fx (fun c i => (c = 187 ∧ 40 ≤ i) ∨ c = 196 ∨ c = 197) h h := Fx.rf
  refine K_aload_n (pc := 0) (i := 0) rfl rfl ?_
  refine K_getI (pc := 1) (i := 1) (j := 4) rfl S_184 rfl (by decide) rfl fw_Model_59 ?_
  refine K_nm (fun v1 e1 => ?_)
  have r1 := rd_many hI
  rw [← e1] at r1
  refine K_iconst (pc := 4) (i := 2) rfl ?_
  first | refine K_icmp_ge 15 (pc := 5) (i := 3) rfl rfl (by omega) (by omega) (fun b5 => ?_) (fun b5 => ?_) | refine K_icmp_ge_an 15 (pc := 5) (i := 3) rfl rfl (fun b5 => ?_) (fun b5 => ?_)
  · skip
    refine K_iconst (pc := 15) (i := 7) rfl ?_
    refine K_ist_n (pc := 16) (i := 8) (lo' := [(0, _), (1, _)]) rfl rfl rfl rfl ?_
    refine K_iconst (pc := 17) (i := 9) rfl ?_
    refine K_ist_n (pc := 18) (i := 10) (lo' := [(0, _), (1, _), (2, _)]) rfl rfl rfl rfl ?_
    refine K_iconst (pc := 19) (i := 11) rfl ?_
    refine K_ist_n (pc := 20) (i := 12) (lo' := [(0, _), (1, _), (2, _), (3, _)]) rfl rfl rfl rfl ?_
    have L21 : ∀ (n : Nat) (x2 : Int) (x3 : Int) (ha : kH), (4 - x3).toNat < n → (Gd g ha) → (Fx (fun c i => (c = 187 ∧ 40 ≤ i) ∨ c = 196 ∨ c = 197) h ha) → ((x3 = 0 ∧ x2 = 1) ∨ (x3 = 1 ∧ x2 = 9) ∨ (x3 = 2 ∧ x2 = 81) ∨ (x3 = 3 ∧ x2 = 729) ∨ (x3 = 4 ∧ x2 = 6561)) → K X_Model_layFits G (kZm G 3 (kQi (fun z h' => Fx (fun c i => (c = 187 ∧ 40 ≤ i) ∨ c = 196 ∨ c = 197) h h' ∧ (Gd g h' ∧ kR z)))) 21 [(0, .ref (G.2.2.2 184)), (1, kI 4), (2, kI x2), (3, kI x3)] [] ha := by
      intro n
      induction n with
      | zero => intro x2 x3 ha hm; exact absurd hm (Nat.not_lt_zero _)
      | succ n ih21 =>
        intro x2 x3 ha hm21 hI fx hV21
        refine K_iload_n (pc := 21) (i := 13) rfl rfl ?_
        refine K_iload_n (pc := 22) (i := 14) rfl rfl ?_
        first | refine K_icmp_ge 52 (pc := 23) (i := 15) rfl rfl (by omega) (by omega) (fun b23 => ?_) (fun b23 => ?_) | refine K_icmp_ge_an 52 (pc := 23) (i := 15) rfl rfl (fun b23 => ?_) (fun b23 => ?_)
        · skip
          refine K_iconst (pc := 52) (i := 32) rfl ?_
          refine K_ist_n (pc := 53) (i := 33) (lo' := [(0, _), (1, _), (2, _), (3, _)]) rfl rfl rfl rfl ?_
          have hJ := hI
          refine K_aload_n (pc := 54) (i := 34) rfl rfl ?_
          refine K_cVV (pc := 55) (i := 35) rfl (c_Model_copy G (hI := hI)) S_184 rfl (lv_Model_165 rfl) rfl rfl rfl rfl rfl (fun h55 q55 => ?_)
          obtain ⟨fx55, q55⟩ := q55
          obtain ⟨hI, cp55⟩ := q55
          have fx := fx.tr fx55 (fun c i q => (by first | (dsimp only at q ⊢; omega) | omega))
          have fk55 : FK (kap h55 40) (h55 184 4) := by rw [fx55 184 4 (by first | (dsimp only; omega) | omega | exact not_false)]; exact FK.copy (hJ.2.2.2.2.2 hT).1 (rd_many hJ).2 cp55
          have m55 : h55 184 4 = h 184 4 := fx 184 4 (by first | (dsimp only; omega) | omega | exact not_false)
          rw [m55] at fk55
          refine K_iconst (pc := 58) (i := 36) rfl ?_
          refine K_ist (pc := 59) (i := 37) (lo' := [(0, _), (1, _), (2, _), (3, _), (4, _)]) rfl rfl rfl rfl ?_
          have L61 : ∀ (n : Nat) (x3 : Int) (x4 : Int) (hb : kH), (6561 - x4).toNat < n → (Gd g hb) → (Fx (fun c i => (c = 187 ∧ 40 ≤ i) ∨ c = 196 ∨ c = 197) h hb) → ((0 ≤ x4 ∧ x4 ≤ 6561) ∧ FK (kap hb 40) (h 184 4)) → K X_Model_layFits G (kZm G 3 (kQi (fun z h' => Fx (fun c i => (c = 187 ∧ 40 ≤ i) ∨ c = 196 ∨ c = 197) h h' ∧ (Gd g h' ∧ kR z)))) 61 [(0, .ref (G.2.2.2 184)), (1, kI 4), (2, kI x2), (3, kI x3), (4, kI x4)] [] hb := by
            intro n
            induction n with
            | zero => intro x3 x4 hb hm; exact absurd hm (Nat.not_lt_zero _)
            | succ n ih61 =>
              intro x3 x4 hb hm61 hI fx hV61
              refine K_iload (pc := 61) (i := 38) rfl rfl ?_
              refine K_iload_n (pc := 63) (i := 39) rfl rfl ?_
              first | refine K_icmp_ge 328 (pc := 64) (i := 40) rfl rfl (by omega) (by omega) (fun b64 => ?_) (fun b64 => ?_) | refine K_icmp_ge_an 328 (pc := 64) (i := 40) rfl rfl (fun b64 => ?_) (fun b64 => ?_)
              · skip
                refine K_iload_n (pc := 328) (i := 181) rfl rfl ?_
                refine K_any (fun v329 r329 => ?_)
                exact K_retI (pc := 329) (i := 182) rfl rfl ⟨fx, ⟨hI, by omega⟩⟩
              · skip
                refine K_iload (pc := 67) (i := 41) rfl rfl ?_
                refine K_ist (pc := 69) (i := 42) (lo' := [(0, _), (1, _), (2, _), (3, _), (4, _), (5, _)]) rfl rfl rfl rfl ?_
                refine K_iconst (pc := 71) (i := 43) rfl ?_
                refine K_ist (pc := 72) (i := 44) (lo' := [(0, _), (1, _), (2, _), (3, _), (4, _), (5, _), (6, _)]) rfl rfl rfl rfl ?_
                have L74 : ∀ (n : Nat) (x5 : Int) (x6 : Int) (hc : kH), (4 - x6).toNat < n → (Gd g hc) → (Fx (fun c i => (c = 187 ∧ 40 ≤ i) ∨ c = 196 ∨ c = 197) h hc) → (((0 ≤ x6 ∧ x6 ≤ 4) ∧ 0 ≤ x5 ∧ kR x5) ∧ True ∧ FK (kap hc 40) (h 184 4)) → K X_Model_layFits G (kZm G 3 (kQi (fun z h' => Fx (fun c i => (c = 187 ∧ 40 ≤ i) ∨ c = 196 ∨ c = 197) h h' ∧ (Gd g h' ∧ kR z)))) 74 [(0, .ref (G.2.2.2 184)), (1, kI 4), (2, kI x2), (3, kI x3), (4, kI x4), (5, kI x5), (6, kI x6)] [] hc := by
                  intro n
                  induction n with
                  | zero => intro x5 x6 hc hm; exact absurd hm (Nat.not_lt_zero _)
                  | succ n ih74 =>
                    intro x5 x6 hc hm74 hI fx hV74
                    refine K_iload (pc := 74) (i := 45) rfl rfl ?_
                    refine K_iload_n (pc := 76) (i := 46) rfl rfl ?_
                    first | refine K_icmp_ge 114 (pc := 77) (i := 47) rfl rfl (by omega) (by omega) (fun b77 => ?_) (fun b77 => ?_) | refine K_icmp_ge_an 114 (pc := 77) (i := 47) rfl rfl (fun b77 => ?_) (fun b77 => ?_)
                    · skip
                      refine K_iconst (pc := 114) (i := 69) rfl ?_
                      refine K_ist (pc := 115) (i := 70) (lo' := [(0, _), (1, _), (2, _), (3, _), (4, _), (5, _), (6, _)]) rfl rfl rfl rfl ?_
                      refine K_iconst (pc := 117) (i := 71) rfl ?_
                      refine K_ist (pc := 118) (i := 72) (lo' := [(0, _), (1, _), (2, _), (3, _), (4, _), (5, _), (6, _), (7, _)]) rfl rfl rfl rfl ?_
                      have L120 : ∀ (n : Nat) (x6 : Int) (x7 : Int), (8 - x7).toNat < n → (0 ≤ x7 ∧ x7 ≤ 8) → K X_Model_layFits G (kZm G 3 (kQi (fun z h' => Fx (fun c i => (c = 187 ∧ 40 ≤ i) ∨ c = 196 ∨ c = 197) h h' ∧ (Gd g h' ∧ kR z)))) 120 [(0, .ref (G.2.2.2 184)), (1, kI 4), (2, kI x2), (3, kI x3), (4, kI x4), (5, kI x5), (6, kI x6), (7, kI x7)] [] hc := by
                        intro n
                        induction n with
                        | zero => intro x6 x7 hm; exact absurd hm (Nat.not_lt_zero _)
                        | succ n ih120 =>
                          intro x6 x7 hm120 hV120
                          refine K_iload (pc := 120) (i := 73) rfl rfl ?_
                          refine K_aload_n (pc := 122) (i := 74) rfl rfl ?_
                          refine K_getI (pc := 123) (i := 75) (j := 16) rfl S_184 rfl (by decide) rfl fw_Model_192 ?_
                          refine K_nm (fun v123 e123 => ?_)
                          have r123 := rd_mseen hI
                          rw [← e123] at r123
                          first | refine K_icmp_ge 211 (pc := 126) (i := 76) rfl rfl (by omega) (by omega) (fun b126 => ?_) (fun b126 => ?_) | refine K_icmp_ge_an 211 (pc := 126) (i := 76) rfl rfl (fun b126 => ?_) (fun b126 => ?_)
                          · skip
                            refine K_iload_n (pc := 211) (i := 119) rfl rfl ?_
                            refine K_iload (pc := 212) (i := 120) rfl rfl ?_
                            first | refine K_if_eq 221 (pc := 214) (i := 121) rfl rfl (by omega) (fun b214 => ?_) (fun b214 => ?_) | refine K_if_eq_an 221 (pc := 214) (i := 121) rfl rfl (fun b214 => ?_) (fun b214 => ?_)
                            · skip
                              refine K_iconst (pc := 221) (i := 124) rfl ?_
                              refine K_iadd (pc := 222) (i := 125) rfl ?_
                              refine K_ist_n (pc := 223) (i := 126) (lo' := [(0, _), (1, _), (2, _), (3, _), (4, _), (5, _), (6, _), (7, _)]) rfl rfl rfl rfl ?_
                              refine K_iconst (pc := 224) (i := 127) rfl ?_
                              refine K_ist (pc := 225) (i := 128) (lo' := [(0, _), (1, _), (2, _), (3, _), (4, _), (5, _), (6, _), (7, _)]) rfl rfl rfl rfl ?_
                              have L227 : ∀ (n : Nat) (x7 : Int) (hd : kH), (4 - x7).toNat < n → (Gd g hd) → (Fx (fun c i => (c = 187 ∧ 40 ≤ i) ∨ c = 196 ∨ c = 197) h hd) → ((0 ≤ x7 ∧ x7 ≤ 4) ∧ hd 187 = hc 187) → K X_Model_layFits G (kZm G 3 (kQi (fun z h' => Fx (fun c i => (c = 187 ∧ 40 ≤ i) ∨ c = 196 ∨ c = 197) h h' ∧ (Gd g h' ∧ kR z)))) 227 [(0, .ref (G.2.2.2 184)), (1, kI 4), (2, kI x2), (3, kI (x3 + 0)), (4, kI x4), (5, kI x5), (6, kI x6), (7, kI x7)] [] hd := by
                                intro n
                                induction n with
                                | zero => intro x7 hd hm; exact absurd hm (Nat.not_lt_zero _)
                                | succ n ih227 =>
                                  intro x7 hd hm227 hI fx hV227
                                  refine K_iload (pc := 227) (i := 129) rfl rfl ?_
                                  refine K_iload_n (pc := 229) (i := 130) rfl rfl ?_
                                  first | refine K_icmp_ge 322 (pc := 230) (i := 131) rfl rfl (by omega) (by omega) (fun b230 => ?_) (fun b230 => ?_) | refine K_icmp_ge_an 322 (pc := 230) (i := 131) rfl rfl (fun b230 => ?_) (fun b230 => ?_)
                                  · skip
                                    refine K_inc (pc := 322) (i := 179) (q := 4) (lo' := [(0, _), (1, _), (2, _), (3, _), (4, _), (5, _), (6, _), (7, _)]) rfl rfl rfl rfl rfl ?_
                                    refine K_goto 61 (pc := 325) (i := 180) rfl rfl ?_
                                    refine K_drop (lo' := [(0, .ref (G.2.2.2 184)), (1, kI 4), (2, kI x2), (3, kI (x3 + 0)), (4, kI (x4 + 1))]) [0, 1, 2, 3, 4] rfl ?_
                                    exact ih61 (x3 + 0) (x4 + 1) _ (by omega) hI fx ⟨by omega, by rw [kap_of hV227.2]; exact hV74.2.2⟩
                                  · skip
                                    refine K_iload (pc := 233) (i := 132) rfl rfl ?_
                                    first | refine K_if_eq 322 (pc := 235) (i := 133) rfl rfl (by omega) (fun b235 => ?_) (fun b235 => ?_) | refine K_if_eq_an 322 (pc := 235) (i := 133) rfl rfl (fun b235 => ?_) (fun b235 => ?_)
                                    · skip
                                      refine K_inc (pc := 322) (i := 179) (q := 4) (lo' := [(0, _), (1, _), (2, _), (3, _), (4, _), (5, _), (6, _), (7, _)]) rfl rfl rfl rfl rfl ?_
                                      refine K_goto 61 (pc := 325) (i := 180) rfl rfl ?_
                                      refine K_drop (lo' := [(0, .ref (G.2.2.2 184)), (1, kI 4), (2, kI x2), (3, kI (x3 + 0)), (4, kI (x4 + 1))]) [0, 1, 2, 3, 4] rfl ?_
                                      exact ih61 (x3 + 0) (x4 + 1) _ (by omega) hI fx ⟨by omega, by rw [kap_of hV227.2]; exact hV74.2.2⟩
                                    · skip
                                      refine K_aload_n (pc := 238) (i := 134) rfl rfl ?_
                                      refine K_getR (pc := 239) (i := 135) (j := 3) (d := 187) rfl S_184 rfl (by decide) rfl fw_Model_16 ?_
                                      refine K_bipush (pc := 242) (i := 136) rfl rfl ?_
                                      refine K_iconst (pc := 244) (i := 137) rfl ?_
                                      refine K_iload (pc := 245) (i := 138) rfl rfl ?_
                                      refine K_imul (pc := 247) (i := 139) rfl ?_
                                      refine K_iadd (pc := 248) (i := 140) rfl ?_
                                      refine K_iconst (pc := 249) (i := 141) rfl ?_
                                      refine K_iadd (pc := 250) (i := 142) rfl ?_
                                      refine K_iald (pc := 251) (i := 143) rfl S_187 (by omega) (by omega) (by decide) ?_
                                      refine K_nm (fun v251 e251 => ?_)
                                      have r251 := (rd_mkites hI ((40 + (5 * x7)) + 3).toNat).2.1 (by omega)
                                      rw [← e251] at r251
                                      refine K_ist (pc := 252) (i := 144) (lo' := [(0, _), (1, _), (2, _), (3, _), (4, _), (5, _), (6, _), (7, _), (8, _)]) rfl rfl rfl rfl ?_
                                      refine K_aload_n (pc := 254) (i := 145) rfl rfl ?_
                                      refine K_getR (pc := 255) (i := 146) (j := 20) (d := 196) rfl S_184 rfl (by decide) rfl fw_Model_44 ?_
                                      refine K_iload (pc := 258) (i := 147) rfl rfl ?_
                                      refine K_iload (pc := 260) (i := 148) rfl rfl ?_
                                      refine K_aload_n (pc := 262) (i := 149) rfl rfl ?_
                                      refine K_getR (pc := 263) (i := 150) (j := 20) (d := 196) rfl S_184 rfl (by decide) rfl fw_Model_44 ?_
                                      refine K_iload (pc := 266) (i := 151) rfl rfl ?_
                                      refine K_iald (pc := 268) (i := 152) rfl S_196 (by omega) (by omega) (by decide) ?_
                                      refine K_any (fun v268 r268 => ?_)
                                      first | refine K_icmp_ge 277 (pc := 269) (i := 153) rfl rfl (by omega) (by omega) (fun b269 => ?_) (fun b269 => ?_) | refine K_icmp_ge_an 277 (pc := 269) (i := 153) rfl rfl (fun b269 => ?_) (fun b269 => ?_)
                                      · skip
                                        refine K_aload_n (pc := 277) (i := 156) rfl rfl ?_
                                        refine K_getR (pc := 278) (i := 157) (j := 20) (d := 196) rfl S_184 rfl (by decide) rfl fw_Model_44 ?_
                                        refine K_iload (pc := 281) (i := 158) rfl rfl ?_
                                        refine K_iald (pc := 283) (i := 159) rfl S_196 (by omega) (by omega) (by decide) ?_
                                        refine K_any (fun v283 r283 => ?_)
                                        refine K_iast (pc := 284) (i := 160) rfl S_196 (by omega) (by omega) (by decide) ?_
                                        have hI := st_free (c := 196) hI (by decide +kernel) (by decide) (i := (x7).toNat) (v := v283)
                                        have fx := Fx.st (c := 196) (i := (x7).toNat) (v := v283) fx (by first | (dsimp only; omega) | omega | exact not_false)
                                        refine K_aload_n (pc := 285) (i := 161) rfl rfl ?_
                                        refine K_getR (pc := 286) (i := 162) (j := 21) (d := 197) rfl S_184 rfl (by decide) rfl fw_Model_47 ?_
                                        refine K_iload (pc := 289) (i := 163) rfl rfl ?_
                                        refine K_iload (pc := 291) (i := 164) rfl rfl ?_
                                        refine K_aload_n (pc := 293) (i := 165) rfl rfl ?_
                                        refine K_getR (pc := 294) (i := 166) (j := 21) (d := 197) rfl S_184 rfl (by decide) rfl fw_Model_47 ?_
                                        refine K_iload (pc := 297) (i := 167) rfl rfl ?_
                                        refine K_iald (pc := 299) (i := 168) rfl S_197 (by omega) (by omega) (by decide) ?_
                                        refine K_any (fun v299 r299 => ?_)
                                        first | refine K_icmp_le 308 (pc := 300) (i := 169) rfl rfl (by omega) (by omega) (fun b300 => ?_) (fun b300 => ?_) | refine K_icmp_le_an 308 (pc := 300) (i := 169) rfl rfl (fun b300 => ?_) (fun b300 => ?_)
                                        · skip
                                          refine K_aload_n (pc := 308) (i := 172) rfl rfl ?_
                                          refine K_getR (pc := 309) (i := 173) (j := 21) (d := 197) rfl S_184 rfl (by decide) rfl fw_Model_47 ?_
                                          refine K_iload (pc := 312) (i := 174) rfl rfl ?_
                                          refine K_iald (pc := 314) (i := 175) rfl S_197 (by omega) (by omega) (by decide) ?_
                                          refine K_any (fun v314 r314 => ?_)
                                          refine K_iast (pc := 315) (i := 176) rfl S_197 (by omega) (by omega) (by decide) ?_
                                          have hI := st_free (c := 197) hI (by decide +kernel) (by decide) (i := (x7).toNat) (v := v314)
                                          have fx := Fx.st (c := 197) (i := (x7).toNat) (v := v314) fx (by first | (dsimp only; omega) | omega | exact not_false)
                                          refine K_inc (pc := 316) (i := 177) (q := 7) (lo' := [(0, _), (1, _), (2, _), (3, _), (4, _), (5, _), (6, _), (7, _), (8, _)]) rfl rfl rfl rfl rfl ?_
                                          refine K_goto 227 (pc := 319) (i := 178) rfl rfl ?_
                                          refine K_drop (lo' := [(0, .ref (G.2.2.2 184)), (1, kI 4), (2, kI x2), (3, kI (x3 + 0)), (4, kI x4), (5, kI x5), (6, kI x6), (7, kI (x7 + 1))]) [0, 1, 2, 3, 4, 5, 6, 7] rfl ?_
                                          exact ih227 (x7 + 1) _ (by omega) hI fx ⟨by omega, ((kU_c _ _ _ _ (by decide)).trans (kU_c _ _ _ _ (by decide))).trans hV227.2⟩
                                        · skip
                                          refine K_iload (pc := 303) (i := 170) rfl rfl ?_
                                          refine K_goto 315 (pc := 305) (i := 171) rfl rfl ?_
                                          refine K_iast (pc := 315) (i := 176) rfl S_197 (by omega) (by omega) (by decide) ?_
                                          have hI := st_free (c := 197) hI (by decide +kernel) (by decide) (i := (x7).toNat) (v := v251)
                                          have fx := Fx.st (c := 197) (i := (x7).toNat) (v := v251) fx (by first | (dsimp only; omega) | omega | exact not_false)
                                          refine K_inc (pc := 316) (i := 177) (q := 7) (lo' := [(0, _), (1, _), (2, _), (3, _), (4, _), (5, _), (6, _), (7, _), (8, _)]) rfl rfl rfl rfl rfl ?_
                                          refine K_goto 227 (pc := 319) (i := 178) rfl rfl ?_
                                          refine K_drop (lo' := [(0, .ref (G.2.2.2 184)), (1, kI 4), (2, kI x2), (3, kI (x3 + 0)), (4, kI x4), (5, kI x5), (6, kI x6), (7, kI (x7 + 1))]) [0, 1, 2, 3, 4, 5, 6, 7] rfl ?_
                                          exact ih227 (x7 + 1) _ (by omega) hI fx ⟨by omega, ((kU_c _ _ _ _ (by decide)).trans (kU_c _ _ _ _ (by decide))).trans hV227.2⟩
                                      · skip
                                        refine K_iload (pc := 272) (i := 154) rfl rfl ?_
                                        refine K_goto 284 (pc := 274) (i := 155) rfl rfl ?_
                                        refine K_iast (pc := 284) (i := 160) rfl S_196 (by omega) (by omega) (by decide) ?_
                                        have hI := st_free (c := 196) hI (by decide +kernel) (by decide) (i := (x7).toNat) (v := v251)
                                        have fx := Fx.st (c := 196) (i := (x7).toNat) (v := v251) fx (by first | (dsimp only; omega) | omega | exact not_false)
                                        refine K_aload_n (pc := 285) (i := 161) rfl rfl ?_
                                        refine K_getR (pc := 286) (i := 162) (j := 21) (d := 197) rfl S_184 rfl (by decide) rfl fw_Model_47 ?_
                                        refine K_iload (pc := 289) (i := 163) rfl rfl ?_
                                        refine K_iload (pc := 291) (i := 164) rfl rfl ?_
                                        refine K_aload_n (pc := 293) (i := 165) rfl rfl ?_
                                        refine K_getR (pc := 294) (i := 166) (j := 21) (d := 197) rfl S_184 rfl (by decide) rfl fw_Model_47 ?_
                                        refine K_iload (pc := 297) (i := 167) rfl rfl ?_
                                        refine K_iald (pc := 299) (i := 168) rfl S_197 (by omega) (by omega) (by decide) ?_
                                        refine K_any (fun v299 r299 => ?_)
                                        first | refine K_icmp_le 308 (pc := 300) (i := 169) rfl rfl (by omega) (by omega) (fun b300 => ?_) (fun b300 => ?_) | refine K_icmp_le_an 308 (pc := 300) (i := 169) rfl rfl (fun b300 => ?_) (fun b300 => ?_)
                                        · skip
                                          refine K_aload_n (pc := 308) (i := 172) rfl rfl ?_
                                          refine K_getR (pc := 309) (i := 173) (j := 21) (d := 197) rfl S_184 rfl (by decide) rfl fw_Model_47 ?_
                                          refine K_iload (pc := 312) (i := 174) rfl rfl ?_
                                          refine K_iald (pc := 314) (i := 175) rfl S_197 (by omega) (by omega) (by decide) ?_
                                          refine K_any (fun v314 r314 => ?_)
                                          refine K_iast (pc := 315) (i := 176) rfl S_197 (by omega) (by omega) (by decide) ?_
                                          have hI := st_free (c := 197) hI (by decide +kernel) (by decide) (i := (x7).toNat) (v := v314)
                                          have fx := Fx.st (c := 197) (i := (x7).toNat) (v := v314) fx (by first | (dsimp only; omega) | omega | exact not_false)
                                          refine K_inc (pc := 316) (i := 177) (q := 7) (lo' := [(0, _), (1, _), (2, _), (3, _), (4, _), (5, _), (6, _), (7, _), (8, _)]) rfl rfl rfl rfl rfl ?_
                                          refine K_goto 227 (pc := 319) (i := 178) rfl rfl ?_
                                          refine K_drop (lo' := [(0, .ref (G.2.2.2 184)), (1, kI 4), (2, kI x2), (3, kI (x3 + 0)), (4, kI x4), (5, kI x5), (6, kI x6), (7, kI (x7 + 1))]) [0, 1, 2, 3, 4, 5, 6, 7] rfl ?_
                                          exact ih227 (x7 + 1) _ (by omega) hI fx ⟨by omega, ((kU_c _ _ _ _ (by decide)).trans (kU_c _ _ _ _ (by decide))).trans hV227.2⟩
                                        · skip
                                          refine K_iload (pc := 303) (i := 170) rfl rfl ?_
                                          refine K_goto 315 (pc := 305) (i := 171) rfl rfl ?_
                                          refine K_iast (pc := 315) (i := 176) rfl S_197 (by omega) (by omega) (by decide) ?_
                                          have hI := st_free (c := 197) hI (by decide +kernel) (by decide) (i := (x7).toNat) (v := v251)
                                          have fx := Fx.st (c := 197) (i := (x7).toNat) (v := v251) fx (by first | (dsimp only; omega) | omega | exact not_false)
                                          refine K_inc (pc := 316) (i := 177) (q := 7) (lo' := [(0, _), (1, _), (2, _), (3, _), (4, _), (5, _), (6, _), (7, _), (8, _)]) rfl rfl rfl rfl rfl ?_
                                          refine K_goto 227 (pc := 319) (i := 178) rfl rfl ?_
                                          refine K_drop (lo' := [(0, .ref (G.2.2.2 184)), (1, kI 4), (2, kI x2), (3, kI (x3 + 0)), (4, kI x4), (5, kI x5), (6, kI x6), (7, kI (x7 + 1))]) [0, 1, 2, 3, 4, 5, 6, 7] rfl ?_
                                          exact ih227 (x7 + 1) _ (by omega) hI fx ⟨by omega, ((kU_c _ _ _ _ (by decide)).trans (kU_c _ _ _ _ (by decide))).trans hV227.2⟩
                              exact L227 _ 0 _ (Nat.lt_succ_self _) hI fx ⟨by omega, rfl⟩
                            · skip
                              refine K_iconst (pc := 217) (i := 122) rfl ?_
                              refine K_goto 222 (pc := 218) (i := 123) rfl rfl ?_
                              refine K_iadd (pc := 222) (i := 125) rfl ?_
                              refine K_ist_n (pc := 223) (i := 126) (lo' := [(0, _), (1, _), (2, _), (3, _), (4, _), (5, _), (6, _), (7, _)]) rfl rfl rfl rfl ?_
                              refine K_iconst (pc := 224) (i := 127) rfl ?_
                              refine K_ist (pc := 225) (i := 128) (lo' := [(0, _), (1, _), (2, _), (3, _), (4, _), (5, _), (6, _), (7, _)]) rfl rfl rfl rfl ?_
                              have L227 : ∀ (n : Nat) (x7 : Int) (hd : kH), (4 - x7).toNat < n → (Gd g hd) → (Fx (fun c i => (c = 187 ∧ 40 ≤ i) ∨ c = 196 ∨ c = 197) h hd) → ((0 ≤ x7 ∧ x7 ≤ 4) ∧ hd 187 = hc 187) → K X_Model_layFits G (kZm G 3 (kQi (fun z h' => Fx (fun c i => (c = 187 ∧ 40 ≤ i) ∨ c = 196 ∨ c = 197) h h' ∧ (Gd g h' ∧ kR z)))) 227 [(0, .ref (G.2.2.2 184)), (1, kI 4), (2, kI x2), (3, kI (x3 + 1)), (4, kI x4), (5, kI x5), (6, kI x6), (7, kI x7)] [] hd := by
                                intro n
                                induction n with
                                | zero => intro x7 hd hm; exact absurd hm (Nat.not_lt_zero _)
                                | succ n ih227 =>
                                  intro x7 hd hm227 hI fx hV227
                                  refine K_iload (pc := 227) (i := 129) rfl rfl ?_
                                  refine K_iload_n (pc := 229) (i := 130) rfl rfl ?_
                                  first | refine K_icmp_ge 322 (pc := 230) (i := 131) rfl rfl (by omega) (by omega) (fun b230 => ?_) (fun b230 => ?_) | refine K_icmp_ge_an 322 (pc := 230) (i := 131) rfl rfl (fun b230 => ?_) (fun b230 => ?_)
                                  · skip
                                    refine K_inc (pc := 322) (i := 179) (q := 4) (lo' := [(0, _), (1, _), (2, _), (3, _), (4, _), (5, _), (6, _), (7, _)]) rfl rfl rfl rfl rfl ?_
                                    refine K_goto 61 (pc := 325) (i := 180) rfl rfl ?_
                                    refine K_drop (lo' := [(0, .ref (G.2.2.2 184)), (1, kI 4), (2, kI x2), (3, kI (x3 + 1)), (4, kI (x4 + 1))]) [0, 1, 2, 3, 4] rfl ?_
                                    exact ih61 (x3 + 1) (x4 + 1) _ (by omega) hI fx ⟨by omega, by rw [kap_of hV227.2]; exact hV74.2.2⟩
                                  · skip
                                    refine K_iload (pc := 233) (i := 132) rfl rfl ?_
                                    first | refine K_if_eq 322 (pc := 235) (i := 133) rfl rfl (by omega) (fun b235 => ?_) (fun b235 => ?_) | refine K_if_eq_an 322 (pc := 235) (i := 133) rfl rfl (fun b235 => ?_) (fun b235 => ?_)
                                    · skip
                                      refine K_inc (pc := 322) (i := 179) (q := 4) (lo' := [(0, _), (1, _), (2, _), (3, _), (4, _), (5, _), (6, _), (7, _)]) rfl rfl rfl rfl rfl ?_
                                      refine K_goto 61 (pc := 325) (i := 180) rfl rfl ?_
                                      refine K_drop (lo' := [(0, .ref (G.2.2.2 184)), (1, kI 4), (2, kI x2), (3, kI (x3 + 1)), (4, kI (x4 + 1))]) [0, 1, 2, 3, 4] rfl ?_
                                      exact ih61 (x3 + 1) (x4 + 1) _ (by omega) hI fx ⟨by omega, by rw [kap_of hV227.2]; exact hV74.2.2⟩
                                    · skip
                                      refine K_aload_n (pc := 238) (i := 134) rfl rfl ?_
                                      refine K_getR (pc := 239) (i := 135) (j := 3) (d := 187) rfl S_184 rfl (by decide) rfl fw_Model_16 ?_
                                      refine K_bipush (pc := 242) (i := 136) rfl rfl ?_
                                      refine K_iconst (pc := 244) (i := 137) rfl ?_
                                      refine K_iload (pc := 245) (i := 138) rfl rfl ?_
                                      refine K_imul (pc := 247) (i := 139) rfl ?_
                                      refine K_iadd (pc := 248) (i := 140) rfl ?_
                                      refine K_iconst (pc := 249) (i := 141) rfl ?_
                                      refine K_iadd (pc := 250) (i := 142) rfl ?_
                                      refine K_iald (pc := 251) (i := 143) rfl S_187 (by omega) (by omega) (by decide) ?_
                                      refine K_nm (fun v251 e251 => ?_)
                                      have r251 := (rd_mkites hI ((40 + (5 * x7)) + 3).toNat).2.1 (by omega)
                                      rw [← e251] at r251
                                      refine K_ist (pc := 252) (i := 144) (lo' := [(0, _), (1, _), (2, _), (3, _), (4, _), (5, _), (6, _), (7, _), (8, _)]) rfl rfl rfl rfl ?_
                                      refine K_aload_n (pc := 254) (i := 145) rfl rfl ?_
                                      refine K_getR (pc := 255) (i := 146) (j := 20) (d := 196) rfl S_184 rfl (by decide) rfl fw_Model_44 ?_
                                      refine K_iload (pc := 258) (i := 147) rfl rfl ?_
                                      refine K_iload (pc := 260) (i := 148) rfl rfl ?_
                                      refine K_aload_n (pc := 262) (i := 149) rfl rfl ?_
                                      refine K_getR (pc := 263) (i := 150) (j := 20) (d := 196) rfl S_184 rfl (by decide) rfl fw_Model_44 ?_
                                      refine K_iload (pc := 266) (i := 151) rfl rfl ?_
                                      refine K_iald (pc := 268) (i := 152) rfl S_196 (by omega) (by omega) (by decide) ?_
                                      refine K_any (fun v268 r268 => ?_)
                                      first | refine K_icmp_ge 277 (pc := 269) (i := 153) rfl rfl (by omega) (by omega) (fun b269 => ?_) (fun b269 => ?_) | refine K_icmp_ge_an 277 (pc := 269) (i := 153) rfl rfl (fun b269 => ?_) (fun b269 => ?_)
                                      · skip
                                        refine K_aload_n (pc := 277) (i := 156) rfl rfl ?_
                                        refine K_getR (pc := 278) (i := 157) (j := 20) (d := 196) rfl S_184 rfl (by decide) rfl fw_Model_44 ?_
                                        refine K_iload (pc := 281) (i := 158) rfl rfl ?_
                                        refine K_iald (pc := 283) (i := 159) rfl S_196 (by omega) (by omega) (by decide) ?_
                                        refine K_any (fun v283 r283 => ?_)
                                        refine K_iast (pc := 284) (i := 160) rfl S_196 (by omega) (by omega) (by decide) ?_
                                        have hI := st_free (c := 196) hI (by decide +kernel) (by decide) (i := (x7).toNat) (v := v283)
                                        have fx := Fx.st (c := 196) (i := (x7).toNat) (v := v283) fx (by first | (dsimp only; omega) | omega | exact not_false)
                                        refine K_aload_n (pc := 285) (i := 161) rfl rfl ?_
                                        refine K_getR (pc := 286) (i := 162) (j := 21) (d := 197) rfl S_184 rfl (by decide) rfl fw_Model_47 ?_
                                        refine K_iload (pc := 289) (i := 163) rfl rfl ?_
                                        refine K_iload (pc := 291) (i := 164) rfl rfl ?_
                                        refine K_aload_n (pc := 293) (i := 165) rfl rfl ?_
                                        refine K_getR (pc := 294) (i := 166) (j := 21) (d := 197) rfl S_184 rfl (by decide) rfl fw_Model_47 ?_
                                        refine K_iload (pc := 297) (i := 167) rfl rfl ?_
                                        refine K_iald (pc := 299) (i := 168) rfl S_197 (by omega) (by omega) (by decide) ?_
                                        refine K_any (fun v299 r299 => ?_)
                                        first | refine K_icmp_le 308 (pc := 300) (i := 169) rfl rfl (by omega) (by omega) (fun b300 => ?_) (fun b300 => ?_) | refine K_icmp_le_an 308 (pc := 300) (i := 169) rfl rfl (fun b300 => ?_) (fun b300 => ?_)
                                        · skip
                                          refine K_aload_n (pc := 308) (i := 172) rfl rfl ?_
                                          refine K_getR (pc := 309) (i := 173) (j := 21) (d := 197) rfl S_184 rfl (by decide) rfl fw_Model_47 ?_
                                          refine K_iload (pc := 312) (i := 174) rfl rfl ?_
                                          refine K_iald (pc := 314) (i := 175) rfl S_197 (by omega) (by omega) (by decide) ?_
                                          refine K_any (fun v314 r314 => ?_)
                                          refine K_iast (pc := 315) (i := 176) rfl S_197 (by omega) (by omega) (by decide) ?_
                                          have hI := st_free (c := 197) hI (by decide +kernel) (by decide) (i := (x7).toNat) (v := v314)
                                          have fx := Fx.st (c := 197) (i := (x7).toNat) (v := v314) fx (by first | (dsimp only; omega) | omega | exact not_false)
                                          refine K_inc (pc := 316) (i := 177) (q := 7) (lo' := [(0, _), (1, _), (2, _), (3, _), (4, _), (5, _), (6, _), (7, _), (8, _)]) rfl rfl rfl rfl rfl ?_
                                          refine K_goto 227 (pc := 319) (i := 178) rfl rfl ?_
                                          refine K_drop (lo' := [(0, .ref (G.2.2.2 184)), (1, kI 4), (2, kI x2), (3, kI (x3 + 1)), (4, kI x4), (5, kI x5), (6, kI x6), (7, kI (x7 + 1))]) [0, 1, 2, 3, 4, 5, 6, 7] rfl ?_
                                          exact ih227 (x7 + 1) _ (by omega) hI fx ⟨by omega, ((kU_c _ _ _ _ (by decide)).trans (kU_c _ _ _ _ (by decide))).trans hV227.2⟩
                                        · skip
                                          refine K_iload (pc := 303) (i := 170) rfl rfl ?_
                                          refine K_goto 315 (pc := 305) (i := 171) rfl rfl ?_
                                          refine K_iast (pc := 315) (i := 176) rfl S_197 (by omega) (by omega) (by decide) ?_
                                          have hI := st_free (c := 197) hI (by decide +kernel) (by decide) (i := (x7).toNat) (v := v251)
                                          have fx := Fx.st (c := 197) (i := (x7).toNat) (v := v251) fx (by first | (dsimp only; omega) | omega | exact not_false)
                                          refine K_inc (pc := 316) (i := 177) (q := 7) (lo' := [(0, _), (1, _), (2, _), (3, _), (4, _), (5, _), (6, _), (7, _), (8, _)]) rfl rfl rfl rfl rfl ?_
                                          refine K_goto 227 (pc := 319) (i := 178) rfl rfl ?_
                                          refine K_drop (lo' := [(0, .ref (G.2.2.2 184)), (1, kI 4), (2, kI x2), (3, kI (x3 + 1)), (4, kI x4), (5, kI x5), (6, kI x6), (7, kI (x7 + 1))]) [0, 1, 2, 3, 4, 5, 6, 7] rfl ?_
                                          exact ih227 (x7 + 1) _ (by omega) hI fx ⟨by omega, ((kU_c _ _ _ _ (by decide)).trans (kU_c _ _ _ _ (by decide))).trans hV227.2⟩
                                      · skip
                                        refine K_iload (pc := 272) (i := 154) rfl rfl ?_
                                        refine K_goto 284 (pc := 274) (i := 155) rfl rfl ?_
                                        refine K_iast (pc := 284) (i := 160) rfl S_196 (by omega) (by omega) (by decide) ?_
                                        have hI := st_free (c := 196) hI (by decide +kernel) (by decide) (i := (x7).toNat) (v := v251)
                                        have fx := Fx.st (c := 196) (i := (x7).toNat) (v := v251) fx (by first | (dsimp only; omega) | omega | exact not_false)
                                        refine K_aload_n (pc := 285) (i := 161) rfl rfl ?_
                                        refine K_getR (pc := 286) (i := 162) (j := 21) (d := 197) rfl S_184 rfl (by decide) rfl fw_Model_47 ?_
                                        refine K_iload (pc := 289) (i := 163) rfl rfl ?_
                                        refine K_iload (pc := 291) (i := 164) rfl rfl ?_
                                        refine K_aload_n (pc := 293) (i := 165) rfl rfl ?_
                                        refine K_getR (pc := 294) (i := 166) (j := 21) (d := 197) rfl S_184 rfl (by decide) rfl fw_Model_47 ?_
                                        refine K_iload (pc := 297) (i := 167) rfl rfl ?_
                                        refine K_iald (pc := 299) (i := 168) rfl S_197 (by omega) (by omega) (by decide) ?_
                                        refine K_any (fun v299 r299 => ?_)
                                        first | refine K_icmp_le 308 (pc := 300) (i := 169) rfl rfl (by omega) (by omega) (fun b300 => ?_) (fun b300 => ?_) | refine K_icmp_le_an 308 (pc := 300) (i := 169) rfl rfl (fun b300 => ?_) (fun b300 => ?_)
                                        · skip
                                          refine K_aload_n (pc := 308) (i := 172) rfl rfl ?_
                                          refine K_getR (pc := 309) (i := 173) (j := 21) (d := 197) rfl S_184 rfl (by decide) rfl fw_Model_47 ?_
                                          refine K_iload (pc := 312) (i := 174) rfl rfl ?_
                                          refine K_iald (pc := 314) (i := 175) rfl S_197 (by omega) (by omega) (by decide) ?_
                                          refine K_any (fun v314 r314 => ?_)
                                          refine K_iast (pc := 315) (i := 176) rfl S_197 (by omega) (by omega) (by decide) ?_
                                          have hI := st_free (c := 197) hI (by decide +kernel) (by decide) (i := (x7).toNat) (v := v314)
                                          have fx := Fx.st (c := 197) (i := (x7).toNat) (v := v314) fx (by first | (dsimp only; omega) | omega | exact not_false)
                                          refine K_inc (pc := 316) (i := 177) (q := 7) (lo' := [(0, _), (1, _), (2, _), (3, _), (4, _), (5, _), (6, _), (7, _), (8, _)]) rfl rfl rfl rfl rfl ?_
                                          refine K_goto 227 (pc := 319) (i := 178) rfl rfl ?_
                                          refine K_drop (lo' := [(0, .ref (G.2.2.2 184)), (1, kI 4), (2, kI x2), (3, kI (x3 + 1)), (4, kI x4), (5, kI x5), (6, kI x6), (7, kI (x7 + 1))]) [0, 1, 2, 3, 4, 5, 6, 7] rfl ?_
                                          exact ih227 (x7 + 1) _ (by omega) hI fx ⟨by omega, ((kU_c _ _ _ _ (by decide)).trans (kU_c _ _ _ _ (by decide))).trans hV227.2⟩
                                        · skip
                                          refine K_iload (pc := 303) (i := 170) rfl rfl ?_
                                          refine K_goto 315 (pc := 305) (i := 171) rfl rfl ?_
                                          refine K_iast (pc := 315) (i := 176) rfl S_197 (by omega) (by omega) (by decide) ?_
                                          have hI := st_free (c := 197) hI (by decide +kernel) (by decide) (i := (x7).toNat) (v := v251)
                                          have fx := Fx.st (c := 197) (i := (x7).toNat) (v := v251) fx (by first | (dsimp only; omega) | omega | exact not_false)
                                          refine K_inc (pc := 316) (i := 177) (q := 7) (lo' := [(0, _), (1, _), (2, _), (3, _), (4, _), (5, _), (6, _), (7, _), (8, _)]) rfl rfl rfl rfl rfl ?_
                                          refine K_goto 227 (pc := 319) (i := 178) rfl rfl ?_
                                          refine K_drop (lo' := [(0, .ref (G.2.2.2 184)), (1, kI 4), (2, kI x2), (3, kI (x3 + 1)), (4, kI x4), (5, kI x5), (6, kI x6), (7, kI (x7 + 1))]) [0, 1, 2, 3, 4, 5, 6, 7] rfl ?_
                                          exact ih227 (x7 + 1) _ (by omega) hI fx ⟨by omega, ((kU_c _ _ _ _ (by decide)).trans (kU_c _ _ _ _ (by decide))).trans hV227.2⟩
                              exact L227 _ 0 _ (Nat.lt_succ_self _) hI fx ⟨by omega, rfl⟩
                          · skip
                            refine K_iload (pc := 129) (i := 77) rfl rfl ?_
                            first | refine K_if_eq 211 (pc := 131) (i := 78) rfl rfl (by omega) (fun b131 => ?_) (fun b131 => ?_) | refine K_if_eq_an 211 (pc := 131) (i := 78) rfl rfl (fun b131 => ?_) (fun b131 => ?_)
                            · skip
                              refine K_iload_n (pc := 211) (i := 119) rfl rfl ?_
                              refine K_iload (pc := 212) (i := 120) rfl rfl ?_
                              first | refine K_if_eq 221 (pc := 214) (i := 121) rfl rfl (by omega) (fun b214 => ?_) (fun b214 => ?_) | refine K_if_eq_an 221 (pc := 214) (i := 121) rfl rfl (fun b214 => ?_) (fun b214 => ?_)
                              · skip
                                refine K_iconst (pc := 221) (i := 124) rfl ?_
                                refine K_iadd (pc := 222) (i := 125) rfl ?_
                                refine K_ist_n (pc := 223) (i := 126) (lo' := [(0, _), (1, _), (2, _), (3, _), (4, _), (5, _), (6, _), (7, _)]) rfl rfl rfl rfl ?_
                                refine K_iconst (pc := 224) (i := 127) rfl ?_
                                refine K_ist (pc := 225) (i := 128) (lo' := [(0, _), (1, _), (2, _), (3, _), (4, _), (5, _), (6, _), (7, _)]) rfl rfl rfl rfl ?_
                                have L227 : ∀ (n : Nat) (x7 : Int) (hd : kH), (4 - x7).toNat < n → (Gd g hd) → (Fx (fun c i => (c = 187 ∧ 40 ≤ i) ∨ c = 196 ∨ c = 197) h hd) → ((0 ≤ x7 ∧ x7 ≤ 4) ∧ hd 187 = hc 187) → K X_Model_layFits G (kZm G 3 (kQi (fun z h' => Fx (fun c i => (c = 187 ∧ 40 ≤ i) ∨ c = 196 ∨ c = 197) h h' ∧ (Gd g h' ∧ kR z)))) 227 [(0, .ref (G.2.2.2 184)), (1, kI 4), (2, kI x2), (3, kI (x3 + 0)), (4, kI x4), (5, kI x5), (6, kI x6), (7, kI x7)] [] hd := by
                                  intro n
                                  induction n with
                                  | zero => intro x7 hd hm; exact absurd hm (Nat.not_lt_zero _)
                                  | succ n ih227 =>
                                    intro x7 hd hm227 hI fx hV227
                                    refine K_iload (pc := 227) (i := 129) rfl rfl ?_
                                    refine K_iload_n (pc := 229) (i := 130) rfl rfl ?_
                                    first | refine K_icmp_ge 322 (pc := 230) (i := 131) rfl rfl (by omega) (by omega) (fun b230 => ?_) (fun b230 => ?_) | refine K_icmp_ge_an 322 (pc := 230) (i := 131) rfl rfl (fun b230 => ?_) (fun b230 => ?_)
                                    · skip
                                      refine K_inc (pc := 322) (i := 179) (q := 4) (lo' := [(0, _), (1, _), (2, _), (3, _), (4, _), (5, _), (6, _), (7, _)]) rfl rfl rfl rfl rfl ?_
                                      refine K_goto 61 (pc := 325) (i := 180) rfl rfl ?_
                                      refine K_drop (lo' := [(0, .ref (G.2.2.2 184)), (1, kI 4), (2, kI x2), (3, kI (x3 + 0)), (4, kI (x4 + 1))]) [0, 1, 2, 3, 4] rfl ?_
                                      exact ih61 (x3 + 0) (x4 + 1) _ (by omega) hI fx ⟨by omega, by rw [kap_of hV227.2]; exact hV74.2.2⟩
                                    · skip
                                      refine K_iload (pc := 233) (i := 132) rfl rfl ?_
                                      first | refine K_if_eq 322 (pc := 235) (i := 133) rfl rfl (by omega) (fun b235 => ?_) (fun b235 => ?_) | refine K_if_eq_an 322 (pc := 235) (i := 133) rfl rfl (fun b235 => ?_) (fun b235 => ?_)
                                      · skip
                                        refine K_inc (pc := 322) (i := 179) (q := 4) (lo' := [(0, _), (1, _), (2, _), (3, _), (4, _), (5, _), (6, _), (7, _)]) rfl rfl rfl rfl rfl ?_
                                        refine K_goto 61 (pc := 325) (i := 180) rfl rfl ?_
                                        refine K_drop (lo' := [(0, .ref (G.2.2.2 184)), (1, kI 4), (2, kI x2), (3, kI (x3 + 0)), (4, kI (x4 + 1))]) [0, 1, 2, 3, 4] rfl ?_
                                        exact ih61 (x3 + 0) (x4 + 1) _ (by omega) hI fx ⟨by omega, by rw [kap_of hV227.2]; exact hV74.2.2⟩
                                      · skip
                                        refine K_aload_n (pc := 238) (i := 134) rfl rfl ?_
                                        refine K_getR (pc := 239) (i := 135) (j := 3) (d := 187) rfl S_184 rfl (by decide) rfl fw_Model_16 ?_
                                        refine K_bipush (pc := 242) (i := 136) rfl rfl ?_
                                        refine K_iconst (pc := 244) (i := 137) rfl ?_
                                        refine K_iload (pc := 245) (i := 138) rfl rfl ?_
                                        refine K_imul (pc := 247) (i := 139) rfl ?_
                                        refine K_iadd (pc := 248) (i := 140) rfl ?_
                                        refine K_iconst (pc := 249) (i := 141) rfl ?_
                                        refine K_iadd (pc := 250) (i := 142) rfl ?_
                                        refine K_iald (pc := 251) (i := 143) rfl S_187 (by omega) (by omega) (by decide) ?_
                                        refine K_nm (fun v251 e251 => ?_)
                                        have r251 := (rd_mkites hI ((40 + (5 * x7)) + 3).toNat).2.1 (by omega)
                                        rw [← e251] at r251
                                        refine K_ist (pc := 252) (i := 144) (lo' := [(0, _), (1, _), (2, _), (3, _), (4, _), (5, _), (6, _), (7, _), (8, _)]) rfl rfl rfl rfl ?_
                                        refine K_aload_n (pc := 254) (i := 145) rfl rfl ?_
                                        refine K_getR (pc := 255) (i := 146) (j := 20) (d := 196) rfl S_184 rfl (by decide) rfl fw_Model_44 ?_
                                        refine K_iload (pc := 258) (i := 147) rfl rfl ?_
                                        refine K_iload (pc := 260) (i := 148) rfl rfl ?_
                                        refine K_aload_n (pc := 262) (i := 149) rfl rfl ?_
                                        refine K_getR (pc := 263) (i := 150) (j := 20) (d := 196) rfl S_184 rfl (by decide) rfl fw_Model_44 ?_
                                        refine K_iload (pc := 266) (i := 151) rfl rfl ?_
                                        refine K_iald (pc := 268) (i := 152) rfl S_196 (by omega) (by omega) (by decide) ?_
                                        refine K_any (fun v268 r268 => ?_)
                                        first | refine K_icmp_ge 277 (pc := 269) (i := 153) rfl rfl (by omega) (by omega) (fun b269 => ?_) (fun b269 => ?_) | refine K_icmp_ge_an 277 (pc := 269) (i := 153) rfl rfl (fun b269 => ?_) (fun b269 => ?_)
                                        · skip
                                          refine K_aload_n (pc := 277) (i := 156) rfl rfl ?_
                                          refine K_getR (pc := 278) (i := 157) (j := 20) (d := 196) rfl S_184 rfl (by decide) rfl fw_Model_44 ?_
                                          refine K_iload (pc := 281) (i := 158) rfl rfl ?_
                                          refine K_iald (pc := 283) (i := 159) rfl S_196 (by omega) (by omega) (by decide) ?_
                                          refine K_any (fun v283 r283 => ?_)
                                          refine K_iast (pc := 284) (i := 160) rfl S_196 (by omega) (by omega) (by decide) ?_
                                          have hI := st_free (c := 196) hI (by decide +kernel) (by decide) (i := (x7).toNat) (v := v283)
                                          have fx := Fx.st (c := 196) (i := (x7).toNat) (v := v283) fx (by first | (dsimp only; omega) | omega | exact not_false)
                                          refine K_aload_n (pc := 285) (i := 161) rfl rfl ?_
                                          refine K_getR (pc := 286) (i := 162) (j := 21) (d := 197) rfl S_184 rfl (by decide) rfl fw_Model_47 ?_
                                          refine K_iload (pc := 289) (i := 163) rfl rfl ?_
                                          refine K_iload (pc := 291) (i := 164) rfl rfl ?_
                                          refine K_aload_n (pc := 293) (i := 165) rfl rfl ?_
                                          refine K_getR (pc := 294) (i := 166) (j := 21) (d := 197) rfl S_184 rfl (by decide) rfl fw_Model_47 ?_
                                          refine K_iload (pc := 297) (i := 167) rfl rfl ?_
                                          refine K_iald (pc := 299) (i := 168) rfl S_197 (by omega) (by omega) (by decide) ?_
                                          refine K_any (fun v299 r299 => ?_)
                                          first | refine K_icmp_le 308 (pc := 300) (i := 169) rfl rfl (by omega) (by omega) (fun b300 => ?_) (fun b300 => ?_) | refine K_icmp_le_an 308 (pc := 300) (i := 169) rfl rfl (fun b300 => ?_) (fun b300 => ?_)
                                          · skip
                                            refine K_aload_n (pc := 308) (i := 172) rfl rfl ?_
                                            refine K_getR (pc := 309) (i := 173) (j := 21) (d := 197) rfl S_184 rfl (by decide) rfl fw_Model_47 ?_
                                            refine K_iload (pc := 312) (i := 174) rfl rfl ?_
                                            refine K_iald (pc := 314) (i := 175) rfl S_197 (by omega) (by omega) (by decide) ?_
                                            refine K_any (fun v314 r314 => ?_)
                                            refine K_iast (pc := 315) (i := 176) rfl S_197 (by omega) (by omega) (by decide) ?_
                                            have hI := st_free (c := 197) hI (by decide +kernel) (by decide) (i := (x7).toNat) (v := v314)
                                            have fx := Fx.st (c := 197) (i := (x7).toNat) (v := v314) fx (by first | (dsimp only; omega) | omega | exact not_false)
                                            refine K_inc (pc := 316) (i := 177) (q := 7) (lo' := [(0, _), (1, _), (2, _), (3, _), (4, _), (5, _), (6, _), (7, _), (8, _)]) rfl rfl rfl rfl rfl ?_
                                            refine K_goto 227 (pc := 319) (i := 178) rfl rfl ?_
                                            refine K_drop (lo' := [(0, .ref (G.2.2.2 184)), (1, kI 4), (2, kI x2), (3, kI (x3 + 0)), (4, kI x4), (5, kI x5), (6, kI x6), (7, kI (x7 + 1))]) [0, 1, 2, 3, 4, 5, 6, 7] rfl ?_
                                            exact ih227 (x7 + 1) _ (by omega) hI fx ⟨by omega, ((kU_c _ _ _ _ (by decide)).trans (kU_c _ _ _ _ (by decide))).trans hV227.2⟩
                                          · skip
                                            refine K_iload (pc := 303) (i := 170) rfl rfl ?_
                                            refine K_goto 315 (pc := 305) (i := 171) rfl rfl ?_
                                            refine K_iast (pc := 315) (i := 176) rfl S_197 (by omega) (by omega) (by decide) ?_
                                            have hI := st_free (c := 197) hI (by decide +kernel) (by decide) (i := (x7).toNat) (v := v251)
                                            have fx := Fx.st (c := 197) (i := (x7).toNat) (v := v251) fx (by first | (dsimp only; omega) | omega | exact not_false)
                                            refine K_inc (pc := 316) (i := 177) (q := 7) (lo' := [(0, _), (1, _), (2, _), (3, _), (4, _), (5, _), (6, _), (7, _), (8, _)]) rfl rfl rfl rfl rfl ?_
                                            refine K_goto 227 (pc := 319) (i := 178) rfl rfl ?_
                                            refine K_drop (lo' := [(0, .ref (G.2.2.2 184)), (1, kI 4), (2, kI x2), (3, kI (x3 + 0)), (4, kI x4), (5, kI x5), (6, kI x6), (7, kI (x7 + 1))]) [0, 1, 2, 3, 4, 5, 6, 7] rfl ?_
                                            exact ih227 (x7 + 1) _ (by omega) hI fx ⟨by omega, ((kU_c _ _ _ _ (by decide)).trans (kU_c _ _ _ _ (by decide))).trans hV227.2⟩
                                        · skip
                                          refine K_iload (pc := 272) (i := 154) rfl rfl ?_
                                          refine K_goto 284 (pc := 274) (i := 155) rfl rfl ?_
                                          refine K_iast (pc := 284) (i := 160) rfl S_196 (by omega) (by omega) (by decide) ?_
                                          have hI := st_free (c := 196) hI (by decide +kernel) (by decide) (i := (x7).toNat) (v := v251)
                                          have fx := Fx.st (c := 196) (i := (x7).toNat) (v := v251) fx (by first | (dsimp only; omega) | omega | exact not_false)
                                          refine K_aload_n (pc := 285) (i := 161) rfl rfl ?_
                                          refine K_getR (pc := 286) (i := 162) (j := 21) (d := 197) rfl S_184 rfl (by decide) rfl fw_Model_47 ?_
                                          refine K_iload (pc := 289) (i := 163) rfl rfl ?_
                                          refine K_iload (pc := 291) (i := 164) rfl rfl ?_
                                          refine K_aload_n (pc := 293) (i := 165) rfl rfl ?_
                                          refine K_getR (pc := 294) (i := 166) (j := 21) (d := 197) rfl S_184 rfl (by decide) rfl fw_Model_47 ?_
                                          refine K_iload (pc := 297) (i := 167) rfl rfl ?_
                                          refine K_iald (pc := 299) (i := 168) rfl S_197 (by omega) (by omega) (by decide) ?_
                                          refine K_any (fun v299 r299 => ?_)
                                          first | refine K_icmp_le 308 (pc := 300) (i := 169) rfl rfl (by omega) (by omega) (fun b300 => ?_) (fun b300 => ?_) | refine K_icmp_le_an 308 (pc := 300) (i := 169) rfl rfl (fun b300 => ?_) (fun b300 => ?_)
                                          · skip
                                            refine K_aload_n (pc := 308) (i := 172) rfl rfl ?_
                                            refine K_getR (pc := 309) (i := 173) (j := 21) (d := 197) rfl S_184 rfl (by decide) rfl fw_Model_47 ?_
                                            refine K_iload (pc := 312) (i := 174) rfl rfl ?_
                                            refine K_iald (pc := 314) (i := 175) rfl S_197 (by omega) (by omega) (by decide) ?_
                                            refine K_any (fun v314 r314 => ?_)
                                            refine K_iast (pc := 315) (i := 176) rfl S_197 (by omega) (by omega) (by decide) ?_
                                            have hI := st_free (c := 197) hI (by decide +kernel) (by decide) (i := (x7).toNat) (v := v314)
                                            have fx := Fx.st (c := 197) (i := (x7).toNat) (v := v314) fx (by first | (dsimp only; omega) | omega | exact not_false)
                                            refine K_inc (pc := 316) (i := 177) (q := 7) (lo' := [(0, _), (1, _), (2, _), (3, _), (4, _), (5, _), (6, _), (7, _), (8, _)]) rfl rfl rfl rfl rfl ?_
                                            refine K_goto 227 (pc := 319) (i := 178) rfl rfl ?_
                                            refine K_drop (lo' := [(0, .ref (G.2.2.2 184)), (1, kI 4), (2, kI x2), (3, kI (x3 + 0)), (4, kI x4), (5, kI x5), (6, kI x6), (7, kI (x7 + 1))]) [0, 1, 2, 3, 4, 5, 6, 7] rfl ?_
                                            exact ih227 (x7 + 1) _ (by omega) hI fx ⟨by omega, ((kU_c _ _ _ _ (by decide)).trans (kU_c _ _ _ _ (by decide))).trans hV227.2⟩
                                          · skip
                                            refine K_iload (pc := 303) (i := 170) rfl rfl ?_
                                            refine K_goto 315 (pc := 305) (i := 171) rfl rfl ?_
                                            refine K_iast (pc := 315) (i := 176) rfl S_197 (by omega) (by omega) (by decide) ?_
                                            have hI := st_free (c := 197) hI (by decide +kernel) (by decide) (i := (x7).toNat) (v := v251)
                                            have fx := Fx.st (c := 197) (i := (x7).toNat) (v := v251) fx (by first | (dsimp only; omega) | omega | exact not_false)
                                            refine K_inc (pc := 316) (i := 177) (q := 7) (lo' := [(0, _), (1, _), (2, _), (3, _), (4, _), (5, _), (6, _), (7, _), (8, _)]) rfl rfl rfl rfl rfl ?_
                                            refine K_goto 227 (pc := 319) (i := 178) rfl rfl ?_
                                            refine K_drop (lo' := [(0, .ref (G.2.2.2 184)), (1, kI 4), (2, kI x2), (3, kI (x3 + 0)), (4, kI x4), (5, kI x5), (6, kI x6), (7, kI (x7 + 1))]) [0, 1, 2, 3, 4, 5, 6, 7] rfl ?_
                                            exact ih227 (x7 + 1) _ (by omega) hI fx ⟨by omega, ((kU_c _ _ _ _ (by decide)).trans (kU_c _ _ _ _ (by decide))).trans hV227.2⟩
                                exact L227 _ 0 _ (Nat.lt_succ_self _) hI fx ⟨by omega, rfl⟩
                              · skip
                                refine K_iconst (pc := 217) (i := 122) rfl ?_
                                refine K_goto 222 (pc := 218) (i := 123) rfl rfl ?_
                                refine K_iadd (pc := 222) (i := 125) rfl ?_
                                refine K_ist_n (pc := 223) (i := 126) (lo' := [(0, _), (1, _), (2, _), (3, _), (4, _), (5, _), (6, _), (7, _)]) rfl rfl rfl rfl ?_
                                refine K_iconst (pc := 224) (i := 127) rfl ?_
                                refine K_ist (pc := 225) (i := 128) (lo' := [(0, _), (1, _), (2, _), (3, _), (4, _), (5, _), (6, _), (7, _)]) rfl rfl rfl rfl ?_
                                have L227 : ∀ (n : Nat) (x7 : Int) (hd : kH), (4 - x7).toNat < n → (Gd g hd) → (Fx (fun c i => (c = 187 ∧ 40 ≤ i) ∨ c = 196 ∨ c = 197) h hd) → ((0 ≤ x7 ∧ x7 ≤ 4) ∧ hd 187 = hc 187) → K X_Model_layFits G (kZm G 3 (kQi (fun z h' => Fx (fun c i => (c = 187 ∧ 40 ≤ i) ∨ c = 196 ∨ c = 197) h h' ∧ (Gd g h' ∧ kR z)))) 227 [(0, .ref (G.2.2.2 184)), (1, kI 4), (2, kI x2), (3, kI (x3 + 1)), (4, kI x4), (5, kI x5), (6, kI x6), (7, kI x7)] [] hd := by
                                  intro n
                                  induction n with
                                  | zero => intro x7 hd hm; exact absurd hm (Nat.not_lt_zero _)
                                  | succ n ih227 =>
                                    intro x7 hd hm227 hI fx hV227
                                    refine K_iload (pc := 227) (i := 129) rfl rfl ?_
                                    refine K_iload_n (pc := 229) (i := 130) rfl rfl ?_
                                    first | refine K_icmp_ge 322 (pc := 230) (i := 131) rfl rfl (by omega) (by omega) (fun b230 => ?_) (fun b230 => ?_) | refine K_icmp_ge_an 322 (pc := 230) (i := 131) rfl rfl (fun b230 => ?_) (fun b230 => ?_)
                                    · skip
                                      refine K_inc (pc := 322) (i := 179) (q := 4) (lo' := [(0, _), (1, _), (2, _), (3, _), (4, _), (5, _), (6, _), (7, _)]) rfl rfl rfl rfl rfl ?_
                                      refine K_goto 61 (pc := 325) (i := 180) rfl rfl ?_
                                      refine K_drop (lo' := [(0, .ref (G.2.2.2 184)), (1, kI 4), (2, kI x2), (3, kI (x3 + 1)), (4, kI (x4 + 1))]) [0, 1, 2, 3, 4] rfl ?_
                                      exact ih61 (x3 + 1) (x4 + 1) _ (by omega) hI fx ⟨by omega, by rw [kap_of hV227.2]; exact hV74.2.2⟩
                                    · skip
                                      refine K_iload (pc := 233) (i := 132) rfl rfl ?_
                                      first | refine K_if_eq 322 (pc := 235) (i := 133) rfl rfl (by omega) (fun b235 => ?_) (fun b235 => ?_) | refine K_if_eq_an 322 (pc := 235) (i := 133) rfl rfl (fun b235 => ?_) (fun b235 => ?_)
                                      · skip
                                        refine K_inc (pc := 322) (i := 179) (q := 4) (lo' := [(0, _), (1, _), (2, _), (3, _), (4, _), (5, _), (6, _), (7, _)]) rfl rfl rfl rfl rfl ?_
                                        refine K_goto 61 (pc := 325) (i := 180) rfl rfl ?_
                                        refine K_drop (lo' := [(0, .ref (G.2.2.2 184)), (1, kI 4), (2, kI x2), (3, kI (x3 + 1)), (4, kI (x4 + 1))]) [0, 1, 2, 3, 4] rfl ?_
                                        exact ih61 (x3 + 1) (x4 + 1) _ (by omega) hI fx ⟨by omega, by rw [kap_of hV227.2]; exact hV74.2.2⟩
                                      · skip
                                        refine K_aload_n (pc := 238) (i := 134) rfl rfl ?_
                                        refine K_getR (pc := 239) (i := 135) (j := 3) (d := 187) rfl S_184 rfl (by decide) rfl fw_Model_16 ?_
                                        refine K_bipush (pc := 242) (i := 136) rfl rfl ?_
                                        refine K_iconst (pc := 244) (i := 137) rfl ?_
                                        refine K_iload (pc := 245) (i := 138) rfl rfl ?_
                                        refine K_imul (pc := 247) (i := 139) rfl ?_
                                        refine K_iadd (pc := 248) (i := 140) rfl ?_
                                        refine K_iconst (pc := 249) (i := 141) rfl ?_
                                        refine K_iadd (pc := 250) (i := 142) rfl ?_
                                        refine K_iald (pc := 251) (i := 143) rfl S_187 (by omega) (by omega) (by decide) ?_
                                        refine K_nm (fun v251 e251 => ?_)
                                        have r251 := (rd_mkites hI ((40 + (5 * x7)) + 3).toNat).2.1 (by omega)
                                        rw [← e251] at r251
                                        refine K_ist (pc := 252) (i := 144) (lo' := [(0, _), (1, _), (2, _), (3, _), (4, _), (5, _), (6, _), (7, _), (8, _)]) rfl rfl rfl rfl ?_
                                        refine K_aload_n (pc := 254) (i := 145) rfl rfl ?_
                                        refine K_getR (pc := 255) (i := 146) (j := 20) (d := 196) rfl S_184 rfl (by decide) rfl fw_Model_44 ?_
                                        refine K_iload (pc := 258) (i := 147) rfl rfl ?_
                                        refine K_iload (pc := 260) (i := 148) rfl rfl ?_
                                        refine K_aload_n (pc := 262) (i := 149) rfl rfl ?_
                                        refine K_getR (pc := 263) (i := 150) (j := 20) (d := 196) rfl S_184 rfl (by decide) rfl fw_Model_44 ?_
                                        refine K_iload (pc := 266) (i := 151) rfl rfl ?_
                                        refine K_iald (pc := 268) (i := 152) rfl S_196 (by omega) (by omega) (by decide) ?_
                                        refine K_any (fun v268 r268 => ?_)
                                        first | refine K_icmp_ge 277 (pc := 269) (i := 153) rfl rfl (by omega) (by omega) (fun b269 => ?_) (fun b269 => ?_) | refine K_icmp_ge_an 277 (pc := 269) (i := 153) rfl rfl (fun b269 => ?_) (fun b269 => ?_)
                                        · skip
                                          refine K_aload_n (pc := 277) (i := 156) rfl rfl ?_
                                          refine K_getR (pc := 278) (i := 157) (j := 20) (d := 196) rfl S_184 rfl (by decide) rfl fw_Model_44 ?_
                                          refine K_iload (pc := 281) (i := 158) rfl rfl ?_
                                          refine K_iald (pc := 283) (i := 159) rfl S_196 (by omega) (by omega) (by decide) ?_
                                          refine K_any (fun v283 r283 => ?_)
                                          refine K_iast (pc := 284) (i := 160) rfl S_196 (by omega) (by omega) (by decide) ?_
                                          have hI := st_free (c := 196) hI (by decide +kernel) (by decide) (i := (x7).toNat) (v := v283)
                                          have fx := Fx.st (c := 196) (i := (x7).toNat) (v := v283) fx (by first | (dsimp only; omega) | omega | exact not_false)
                                          refine K_aload_n (pc := 285) (i := 161) rfl rfl ?_
                                          refine K_getR (pc := 286) (i := 162) (j := 21) (d := 197) rfl S_184 rfl (by decide) rfl fw_Model_47 ?_
                                          refine K_iload (pc := 289) (i := 163) rfl rfl ?_
                                          refine K_iload (pc := 291) (i := 164) rfl rfl ?_
                                          refine K_aload_n (pc := 293) (i := 165) rfl rfl ?_
                                          refine K_getR (pc := 294) (i := 166) (j := 21) (d := 197) rfl S_184 rfl (by decide) rfl fw_Model_47 ?_
                                          refine K_iload (pc := 297) (i := 167) rfl rfl ?_
                                          refine K_iald (pc := 299) (i := 168) rfl S_197 (by omega) (by omega) (by decide) ?_
                                          refine K_any (fun v299 r299 => ?_)
                                          first | refine K_icmp_le 308 (pc := 300) (i := 169) rfl rfl (by omega) (by omega) (fun b300 => ?_) (fun b300 => ?_) | refine K_icmp_le_an 308 (pc := 300) (i := 169) rfl rfl (fun b300 => ?_) (fun b300 => ?_)
                                          · skip
                                            refine K_aload_n (pc := 308) (i := 172) rfl rfl ?_
                                            refine K_getR (pc := 309) (i := 173) (j := 21) (d := 197) rfl S_184 rfl (by decide) rfl fw_Model_47 ?_
                                            refine K_iload (pc := 312) (i := 174) rfl rfl ?_
                                            refine K_iald (pc := 314) (i := 175) rfl S_197 (by omega) (by omega) (by decide) ?_
                                            refine K_any (fun v314 r314 => ?_)
                                            refine K_iast (pc := 315) (i := 176) rfl S_197 (by omega) (by omega) (by decide) ?_
                                            have hI := st_free (c := 197) hI (by decide +kernel) (by decide) (i := (x7).toNat) (v := v314)
                                            have fx := Fx.st (c := 197) (i := (x7).toNat) (v := v314) fx (by first | (dsimp only; omega) | omega | exact not_false)
                                            refine K_inc (pc := 316) (i := 177) (q := 7) (lo' := [(0, _), (1, _), (2, _), (3, _), (4, _), (5, _), (6, _), (7, _), (8, _)]) rfl rfl rfl rfl rfl ?_
                                            refine K_goto 227 (pc := 319) (i := 178) rfl rfl ?_
                                            refine K_drop (lo' := [(0, .ref (G.2.2.2 184)), (1, kI 4), (2, kI x2), (3, kI (x3 + 1)), (4, kI x4), (5, kI x5), (6, kI x6), (7, kI (x7 + 1))]) [0, 1, 2, 3, 4, 5, 6, 7] rfl ?_
                                            exact ih227 (x7 + 1) _ (by omega) hI fx ⟨by omega, ((kU_c _ _ _ _ (by decide)).trans (kU_c _ _ _ _ (by decide))).trans hV227.2⟩
                                          · skip
                                            refine K_iload (pc := 303) (i := 170) rfl rfl ?_
                                            refine K_goto 315 (pc := 305) (i := 171) rfl rfl ?_
                                            refine K_iast (pc := 315) (i := 176) rfl S_197 (by omega) (by omega) (by decide) ?_
                                            have hI := st_free (c := 197) hI (by decide +kernel) (by decide) (i := (x7).toNat) (v := v251)
                                            have fx := Fx.st (c := 197) (i := (x7).toNat) (v := v251) fx (by first | (dsimp only; omega) | omega | exact not_false)
                                            refine K_inc (pc := 316) (i := 177) (q := 7) (lo' := [(0, _), (1, _), (2, _), (3, _), (4, _), (5, _), (6, _), (7, _), (8, _)]) rfl rfl rfl rfl rfl ?_
                                            refine K_goto 227 (pc := 319) (i := 178) rfl rfl ?_
                                            refine K_drop (lo' := [(0, .ref (G.2.2.2 184)), (1, kI 4), (2, kI x2), (3, kI (x3 + 1)), (4, kI x4), (5, kI x5), (6, kI x6), (7, kI (x7 + 1))]) [0, 1, 2, 3, 4, 5, 6, 7] rfl ?_
                                            exact ih227 (x7 + 1) _ (by omega) hI fx ⟨by omega, ((kU_c _ _ _ _ (by decide)).trans (kU_c _ _ _ _ (by decide))).trans hV227.2⟩
                                        · skip
                                          refine K_iload (pc := 272) (i := 154) rfl rfl ?_
                                          refine K_goto 284 (pc := 274) (i := 155) rfl rfl ?_
                                          refine K_iast (pc := 284) (i := 160) rfl S_196 (by omega) (by omega) (by decide) ?_
                                          have hI := st_free (c := 196) hI (by decide +kernel) (by decide) (i := (x7).toNat) (v := v251)
                                          have fx := Fx.st (c := 196) (i := (x7).toNat) (v := v251) fx (by first | (dsimp only; omega) | omega | exact not_false)
                                          refine K_aload_n (pc := 285) (i := 161) rfl rfl ?_
                                          refine K_getR (pc := 286) (i := 162) (j := 21) (d := 197) rfl S_184 rfl (by decide) rfl fw_Model_47 ?_
                                          refine K_iload (pc := 289) (i := 163) rfl rfl ?_
                                          refine K_iload (pc := 291) (i := 164) rfl rfl ?_
                                          refine K_aload_n (pc := 293) (i := 165) rfl rfl ?_
                                          refine K_getR (pc := 294) (i := 166) (j := 21) (d := 197) rfl S_184 rfl (by decide) rfl fw_Model_47 ?_
                                          refine K_iload (pc := 297) (i := 167) rfl rfl ?_
                                          refine K_iald (pc := 299) (i := 168) rfl S_197 (by omega) (by omega) (by decide) ?_
                                          refine K_any (fun v299 r299 => ?_)
                                          first | refine K_icmp_le 308 (pc := 300) (i := 169) rfl rfl (by omega) (by omega) (fun b300 => ?_) (fun b300 => ?_) | refine K_icmp_le_an 308 (pc := 300) (i := 169) rfl rfl (fun b300 => ?_) (fun b300 => ?_)
                                          · skip
                                            refine K_aload_n (pc := 308) (i := 172) rfl rfl ?_
                                            refine K_getR (pc := 309) (i := 173) (j := 21) (d := 197) rfl S_184 rfl (by decide) rfl fw_Model_47 ?_
                                            refine K_iload (pc := 312) (i := 174) rfl rfl ?_
                                            refine K_iald (pc := 314) (i := 175) rfl S_197 (by omega) (by omega) (by decide) ?_
                                            refine K_any (fun v314 r314 => ?_)
                                            refine K_iast (pc := 315) (i := 176) rfl S_197 (by omega) (by omega) (by decide) ?_
                                            have hI := st_free (c := 197) hI (by decide +kernel) (by decide) (i := (x7).toNat) (v := v314)
                                            have fx := Fx.st (c := 197) (i := (x7).toNat) (v := v314) fx (by first | (dsimp only; omega) | omega | exact not_false)
                                            refine K_inc (pc := 316) (i := 177) (q := 7) (lo' := [(0, _), (1, _), (2, _), (3, _), (4, _), (5, _), (6, _), (7, _), (8, _)]) rfl rfl rfl rfl rfl ?_
                                            refine K_goto 227 (pc := 319) (i := 178) rfl rfl ?_
                                            refine K_drop (lo' := [(0, .ref (G.2.2.2 184)), (1, kI 4), (2, kI x2), (3, kI (x3 + 1)), (4, kI x4), (5, kI x5), (6, kI x6), (7, kI (x7 + 1))]) [0, 1, 2, 3, 4, 5, 6, 7] rfl ?_
                                            exact ih227 (x7 + 1) _ (by omega) hI fx ⟨by omega, ((kU_c _ _ _ _ (by decide)).trans (kU_c _ _ _ _ (by decide))).trans hV227.2⟩
                                          · skip
                                            refine K_iload (pc := 303) (i := 170) rfl rfl ?_
                                            refine K_goto 315 (pc := 305) (i := 171) rfl rfl ?_
                                            refine K_iast (pc := 315) (i := 176) rfl S_197 (by omega) (by omega) (by decide) ?_
                                            have hI := st_free (c := 197) hI (by decide +kernel) (by decide) (i := (x7).toNat) (v := v251)
                                            have fx := Fx.st (c := 197) (i := (x7).toNat) (v := v251) fx (by first | (dsimp only; omega) | omega | exact not_false)
                                            refine K_inc (pc := 316) (i := 177) (q := 7) (lo' := [(0, _), (1, _), (2, _), (3, _), (4, _), (5, _), (6, _), (7, _), (8, _)]) rfl rfl rfl rfl rfl ?_
                                            refine K_goto 227 (pc := 319) (i := 178) rfl rfl ?_
                                            refine K_drop (lo' := [(0, .ref (G.2.2.2 184)), (1, kI 4), (2, kI x2), (3, kI (x3 + 1)), (4, kI x4), (5, kI x5), (6, kI x6), (7, kI (x7 + 1))]) [0, 1, 2, 3, 4, 5, 6, 7] rfl ?_
                                            exact ih227 (x7 + 1) _ (by omega) hI fx ⟨by omega, ((kU_c _ _ _ _ (by decide)).trans (kU_c _ _ _ _ (by decide))).trans hV227.2⟩
                                exact L227 _ 0 _ (Nat.lt_succ_self _) hI fx ⟨by omega, rfl⟩
                            · skip
                              refine K_aload_n (pc := 134) (i := 79) rfl rfl ?_
                              refine K_getR (pc := 135) (i := 80) (j := 17) (d := 193) rfl S_184 rfl (by decide) rfl fw_Model_34 ?_
                              refine K_iload (pc := 138) (i := 81) rfl rfl ?_
                              refine K_iald (pc := 140) (i := 82) rfl S_193 (by omega) (by omega) (by decide) ?_
                              refine K_nm (fun v140 e140 => ?_)
                              have r140 := rd_mseenone hI (x7).toNat
                              rw [← e140] at r140
                              refine K_iload_n (pc := 141) (i := 83) rfl rfl ?_
                              first | refine K_icmp_ge 160 (pc := 142) (i := 84) rfl rfl (by omega) (by omega) (fun b142 => ?_) (fun b142 => ?_) | refine K_icmp_ge_an 160 (pc := 142) (i := 84) rfl rfl (fun b142 => ?_) (fun b142 => ?_)
                              · skip
                                refine K_iconst (pc := 160) (i := 93) rfl ?_
                                refine K_ist (pc := 161) (i := 94) (lo' := [(0, _), (1, _), (2, _), (3, _), (4, _), (5, _), (6, _), (7, _), (8, _)]) rfl rfl rfl rfl ?_
                                refine K_iload (pc := 163) (i := 95) rfl rfl ?_
                                refine K_if_eq 198 (pc := 165) (i := 96) rfl rfl (by omega) (fun _ => ?_) (fun b165 => False.elim (by omega))
                                refine K_iconst (pc := 198) (i := 113) rfl ?_
                                refine K_goto 203 (pc := 199) (i := 114) rfl rfl ?_
                                refine K_ist (pc := 203) (i := 116) (lo' := [(0, _), (1, _), (2, _), (3, _), (4, _), (5, _), (6, _), (7, _), (8, _)]) rfl rfl rfl rfl ?_
                                refine K_inc (pc := 205) (i := 117) (q := 7) (lo' := [(0, _), (1, _), (2, _), (3, _), (4, _), (5, _), (6, _), (7, _), (8, _)]) rfl rfl rfl rfl rfl ?_
                                refine K_goto 120 (pc := 208) (i := 118) rfl rfl ?_
                                refine K_drop (lo' := [(0, .ref (G.2.2.2 184)), (1, kI 4), (2, kI x2), (3, kI x3), (4, kI x4), (5, kI x5), (6, kI 1), (7, kI (x7 + 1))]) [0, 1, 2, 3, 4, 5, 6, 7] rfl ?_
                                exact ih120 1 (x7 + 1) (by omega) (by omega)
                              · skip
                                refine K_aload_n (pc := 145) (i := 85) rfl rfl ?_
                                refine K_getR (pc := 146) (i := 86) (j := 18) (d := 194) rfl S_184 rfl (by decide) rfl fw_Model_37 ?_
                                refine K_iload (pc := 149) (i := 87) rfl rfl ?_
                                refine K_iald (pc := 151) (i := 88) rfl S_194 (by omega) (by omega) (by decide) ?_
                                refine K_nm (fun v151 e151 => ?_)
                                have r151 := rd_mseenother hI (x7).toNat
                                rw [← e151] at r151
                                refine K_iload_n (pc := 152) (i := 89) rfl rfl ?_
                                first | refine K_icmp_ge 160 (pc := 153) (i := 90) rfl rfl (by omega) (by omega) (fun b153 => ?_) (fun b153 => ?_) | refine K_icmp_ge_an 160 (pc := 153) (i := 90) rfl rfl (fun b153 => ?_) (fun b153 => ?_)
                                · skip
                                  refine K_iconst (pc := 160) (i := 93) rfl ?_
                                  refine K_ist (pc := 161) (i := 94) (lo' := [(0, _), (1, _), (2, _), (3, _), (4, _), (5, _), (6, _), (7, _), (8, _)]) rfl rfl rfl rfl ?_
                                  refine K_iload (pc := 163) (i := 95) rfl rfl ?_
                                  refine K_if_eq 198 (pc := 165) (i := 96) rfl rfl (by omega) (fun _ => ?_) (fun b165 => False.elim (by omega))
                                  refine K_iconst (pc := 198) (i := 113) rfl ?_
                                  refine K_goto 203 (pc := 199) (i := 114) rfl rfl ?_
                                  refine K_ist (pc := 203) (i := 116) (lo' := [(0, _), (1, _), (2, _), (3, _), (4, _), (5, _), (6, _), (7, _), (8, _)]) rfl rfl rfl rfl ?_
                                  refine K_inc (pc := 205) (i := 117) (q := 7) (lo' := [(0, _), (1, _), (2, _), (3, _), (4, _), (5, _), (6, _), (7, _), (8, _)]) rfl rfl rfl rfl rfl ?_
                                  refine K_goto 120 (pc := 208) (i := 118) rfl rfl ?_
                                  refine K_drop (lo' := [(0, .ref (G.2.2.2 184)), (1, kI 4), (2, kI x2), (3, kI x3), (4, kI x4), (5, kI x5), (6, kI 1), (7, kI (x7 + 1))]) [0, 1, 2, 3, 4, 5, 6, 7] rfl ?_
                                  exact ih120 1 (x7 + 1) (by omega) (by omega)
                                · skip
                                  refine K_iconst (pc := 156) (i := 91) rfl ?_
                                  refine K_goto 161 (pc := 157) (i := 92) rfl rfl ?_
                                  refine K_ist (pc := 161) (i := 94) (lo' := [(0, _), (1, _), (2, _), (3, _), (4, _), (5, _), (6, _), (7, _), (8, _)]) rfl rfl rfl rfl ?_
                                  refine K_iload (pc := 163) (i := 95) rfl rfl ?_
                                  refine K_if_eq 198 (pc := 165) (i := 96) rfl rfl (by omega) (fun b165 => False.elim (by omega)) (fun _ => ?_)
                                  refine K_aload_n (pc := 168) (i := 97) rfl rfl ?_
                                  refine K_bipush (pc := 169) (i := 98) rfl rfl ?_
                                  refine K_aload_n (pc := 171) (i := 99) rfl rfl ?_
                                  refine K_getR (pc := 172) (i := 100) (j := 17) (d := 193) rfl S_184 rfl (by decide) rfl fw_Model_34 ?_
                                  refine K_iload (pc := 175) (i := 101) rfl rfl ?_
                                  refine K_iald (pc := 177) (i := 102) rfl S_193 (by omega) (by omega) (by decide) ?_
                                  refine K_nm (fun v177 e177 => ?_)
                                  have r177 := rd_mseenone hI (x7).toNat
                                  rw [← e177] at r177
                                  refine K_aload_n (pc := 178) (i := 103) rfl rfl ?_
                                  refine K_getR (pc := 179) (i := 104) (j := 18) (d := 194) rfl S_184 rfl (by decide) rfl fw_Model_37 ?_
                                  refine K_iload (pc := 182) (i := 105) rfl rfl ?_
                                  refine K_iald (pc := 184) (i := 106) rfl S_194 (by omega) (by omega) (by decide) ?_
                                  refine K_nm (fun v184 e184 => ?_)
                                  have r184 := rd_mseenother hI (x7).toNat
                                  rw [← e184] at r184
                                  refine K_cVI (pc := 185) (i := 107) rfl (c_Model_doCross G (x1 := 40) (x2 := v177) (x3 := v184) (hk := hV74.2.2) (hI := hI) (hn := by omega) (s1 := by omega) (s2 := by omega) (s3 := by omega)) S_184 rfl (lv_Model_137 rfl) rfl rfl rfl rfl rfl (fun v185 h185 q185 => ?_)
                                  obtain ⟨eh, r185⟩ := q185
                                  rw [eh]; clear eh
                                  refine K_aload_n (pc := 188) (i := 108) rfl rfl ?_
                                  refine K_getR (pc := 189) (i := 109) (j := 19) (d := 195) rfl S_184 rfl (by decide) rfl fw_Model_40 ?_
                                  refine K_iload (pc := 192) (i := 110) rfl rfl ?_
                                  refine K_bald (pc := 194) (i := 111) rfl S_195 (by omega) (by omega) (by decide) ?_
                                  refine K_nm (fun v194 e194 => ?_)
                                  have r194 := rd_seenCross hI (x7).toNat
                                  rw [← e194] at r194
                                  first | refine K_icmp_ne 202 (pc := 195) (i := 112) rfl rfl (by omega) (by omega) (fun b195 => ?_) (fun b195 => ?_) | refine K_icmp_ne_an 202 (pc := 195) (i := 112) rfl rfl (fun b195 => ?_) (fun b195 => ?_)
                                  · skip
                                    refine K_iconst (pc := 202) (i := 115) rfl ?_
                                    refine K_ist (pc := 203) (i := 116) (lo' := [(0, _), (1, _), (2, _), (3, _), (4, _), (5, _), (6, _), (7, _), (8, _)]) rfl rfl rfl rfl ?_
                                    refine K_inc (pc := 205) (i := 117) (q := 7) (lo' := [(0, _), (1, _), (2, _), (3, _), (4, _), (5, _), (6, _), (7, _), (8, _)]) rfl rfl rfl rfl rfl ?_
                                    refine K_goto 120 (pc := 208) (i := 118) rfl rfl ?_
                                    refine K_drop (lo' := [(0, .ref (G.2.2.2 184)), (1, kI 4), (2, kI x2), (3, kI x3), (4, kI x4), (5, kI x5), (6, kI 0), (7, kI (x7 + 1))]) [0, 1, 2, 3, 4, 5, 6, 7] rfl ?_
                                    exact ih120 0 (x7 + 1) (by omega) (by omega)
                                  · skip
                                    refine K_iconst (pc := 198) (i := 113) rfl ?_
                                    refine K_goto 203 (pc := 199) (i := 114) rfl rfl ?_
                                    refine K_ist (pc := 203) (i := 116) (lo' := [(0, _), (1, _), (2, _), (3, _), (4, _), (5, _), (6, _), (7, _), (8, _)]) rfl rfl rfl rfl ?_
                                    refine K_inc (pc := 205) (i := 117) (q := 7) (lo' := [(0, _), (1, _), (2, _), (3, _), (4, _), (5, _), (6, _), (7, _), (8, _)]) rfl rfl rfl rfl rfl ?_
                                    refine K_goto 120 (pc := 208) (i := 118) rfl rfl ?_
                                    refine K_drop (lo' := [(0, .ref (G.2.2.2 184)), (1, kI 4), (2, kI x2), (3, kI x3), (4, kI x4), (5, kI x5), (6, kI 1), (7, kI (x7 + 1))]) [0, 1, 2, 3, 4, 5, 6, 7] rfl ?_
                                    exact ih120 1 (x7 + 1) (by omega) (by omega)
                      exact L120 _ 1 0 (Nat.lt_succ_self _) (by omega)
                    · skip
                      refine K_aload_n (pc := 80) (i := 48) rfl rfl ?_
                      refine K_getR (pc := 81) (i := 49) (j := 3) (d := 187) rfl S_184 rfl (by decide) rfl fw_Model_16 ?_
                      refine K_bipush (pc := 84) (i := 50) rfl rfl ?_
                      refine K_iconst (pc := 86) (i := 51) rfl ?_
                      refine K_iload (pc := 87) (i := 52) rfl rfl ?_
                      refine K_imul (pc := 89) (i := 53) rfl ?_
                      refine K_iadd (pc := 90) (i := 54) rfl ?_
                      refine K_iconst (pc := 91) (i := 55) rfl ?_
                      refine K_iadd (pc := 92) (i := 56) rfl ?_
                      refine K_iconst (pc := 93) (i := 57) rfl ?_
                      refine K_iload (pc := 94) (i := 58) rfl rfl ?_
                      refine K_bipush (pc := 96) (i := 59) rfl rfl ?_
                      refine K_irem (pc := 98) (i := 60) rfl (by omega) (by omega) ?_
                      refine K_eq (kRem_eq (by omega) (by omega) (by omega) (by omega)) ?_
                      refine K_iadd (pc := 99) (i := 61) rfl ?_
                      refine K_iast (pc := 100) (i := 62) rfl S_187 (by omega) (by omega) (by decide) ?_
                      have hI := st_mkites hI (i := ((40 + (5 * x6)) + 3).toNat) (v := 1 + (x5 % 9)) (by unfold bK; omega) (fun _ a => a.hi (rd_many hI).2 (by omega))
                      have fx := Fx.st (c := 187) (i := ((40 + (5 * x6)) + 3).toNat) (v := 1 + (x5 % 9)) fx (by first | (dsimp only; omega) | omega | exact not_false)
                      have fk100 := FK.kH (o := 40) (i := ((40 + (5 * x6)) + 3).toNat) (v := 1 + (x5 % 9)) hV74.2.2 x6.toNat (by omega) (by omega)
                      refine K_iload (pc := 101) (i := 63) rfl rfl ?_
                      refine K_bipush (pc := 103) (i := 64) rfl rfl ?_
                      refine K_idiv (pc := 105) (i := 65) rfl (by omega) (by omega) ?_
                      refine K_eq (kDiv_eq (by omega) (by omega) (by omega) (by omega)) ?_
                      refine K_ist (pc := 106) (i := 66) (lo' := [(0, _), (1, _), (2, _), (3, _), (4, _), (5, _), (6, _)]) rfl rfl rfl rfl ?_
                      refine K_inc (pc := 108) (i := 67) (q := 6) (lo' := [(0, _), (1, _), (2, _), (3, _), (4, _), (5, _), (6, _)]) rfl rfl rfl rfl rfl ?_
                      refine K_goto 74 (pc := 111) (i := 68) rfl rfl ?_
                      exact ih74 (x5 / 9) (x6 + 1) _ (by omega) hI fx ⟨by omega, trivial, fk100⟩
                exact L74 _ x4 0 _ (Nat.lt_succ_self _) hI fx ⟨by omega, trivial, hV61.2⟩
          exact L61 _ 0 0 _ (Nat.lt_succ_self _) hI fx ⟨by omega, fk55⟩
        · skip
          refine K_iload_n (pc := 26) (i := 16) rfl rfl ?_
          refine K_bipush (pc := 27) (i := 17) rfl rfl ?_
          refine K_imul (pc := 29) (i := 18) rfl ?_
          refine K_ist_n (pc := 30) (i := 19) (lo' := [(0, _), (1, _), (2, _), (3, _)]) rfl rfl rfl rfl ?_
          refine K_aload_n (pc := 31) (i := 20) rfl rfl ?_
          refine K_getR (pc := 32) (i := 21) (j := 20) (d := 196) rfl S_184 rfl (by decide) rfl fw_Model_44 ?_
          refine K_iload_n (pc := 35) (i := 22) rfl rfl ?_
          refine K_bipush (pc := 36) (i := 23) rfl rfl ?_
          refine K_iast (pc := 38) (i := 24) rfl S_196 (by omega) (by omega) (by decide) ?_
          have hI := st_free (c := 196) hI (by decide +kernel) (by decide) (i := (x3).toNat) (v := 9)
          have fx := Fx.st (c := 196) (i := (x3).toNat) (v := 9) fx (by first | (dsimp only; omega) | omega | exact not_false)
          refine K_aload_n (pc := 39) (i := 25) rfl rfl ?_
          refine K_getR (pc := 40) (i := 26) (j := 21) (d := 197) rfl S_184 rfl (by decide) rfl fw_Model_47 ?_
          refine K_iload_n (pc := 43) (i := 27) rfl rfl ?_
          refine K_iconst (pc := 44) (i := 28) rfl ?_
          refine K_iast (pc := 45) (i := 29) rfl S_197 (by omega) (by omega) (by decide) ?_
          have hI := st_free (c := 197) hI (by decide +kernel) (by decide) (i := (x3).toNat) (v := 1)
          have fx := Fx.st (c := 197) (i := (x3).toNat) (v := 1) fx (by first | (dsimp only; omega) | omega | exact not_false)
          refine K_inc (pc := 46) (i := 30) (q := 3) (lo' := [(0, _), (1, _), (2, _), (3, _)]) rfl rfl rfl rfl rfl ?_
          refine K_goto 21 (pc := 49) (i := 31) rfl rfl ?_
          exact ih21 (x2 * 9) (x3 + 1) _ (by omega) hI fx (by omega)
    exact L21 _ 1 0 _ (Nat.lt_succ_self _) hI fx (by omega)
  · skip
    refine K_aload_n (pc := 8) (i := 4) rfl rfl ?_
    refine K_getI (pc := 9) (i := 5) (j := 4) rfl S_184 rfl (by decide) rfl fw_Model_59 ?_
    refine K_nm (fun v9 e9 => ?_)
    have r9 := rd_many hI
    rw [← e9] at r9
    have t9 : v9 = v1 := by rw [e9, e1]; try simp [kU]
    refine K_goto 16 (pc := 12) (i := 6) rfl rfl ?_
    refine K_ist_n (pc := 16) (i := 8) (lo' := [(0, _), (1, _)]) rfl rfl rfl rfl ?_
    refine K_iconst (pc := 17) (i := 9) rfl ?_
    refine K_ist_n (pc := 18) (i := 10) (lo' := [(0, _), (1, _), (2, _)]) rfl rfl rfl rfl ?_
    refine K_iconst (pc := 19) (i := 11) rfl ?_
    refine K_ist_n (pc := 20) (i := 12) (lo' := [(0, _), (1, _), (2, _), (3, _)]) rfl rfl rfl rfl ?_
    have L21 : ∀ (n : Nat) (x2 : Int) (x3 : Int) (ha : kH), (4 - x3).toNat < n → (Gd g ha) → (Fx (fun c i => (c = 187 ∧ 40 ≤ i) ∨ c = 196 ∨ c = 197) h ha) → ((x3 = 0 ∧ x2 = 1) ∨ (x3 = 1 ∧ x2 = 9) ∨ (x3 = 2 ∧ x2 = 81) ∨ (x3 = 3 ∧ x2 = 729) ∨ (x3 = 4 ∧ x2 = 6561)) → K X_Model_layFits G (kZm G 3 (kQi (fun z h' => Fx (fun c i => (c = 187 ∧ 40 ≤ i) ∨ c = 196 ∨ c = 197) h h' ∧ (Gd g h' ∧ kR z)))) 21 [(0, .ref (G.2.2.2 184)), (1, kI v9), (2, kI x2), (3, kI x3)] [] ha := by
      intro n
      induction n with
      | zero => intro x2 x3 ha hm; exact absurd hm (Nat.not_lt_zero _)
      | succ n ih21 =>
        intro x2 x3 ha hm21 hI fx hV21
        refine K_iload_n (pc := 21) (i := 13) rfl rfl ?_
        refine K_iload_n (pc := 22) (i := 14) rfl rfl ?_
        first | refine K_icmp_ge 52 (pc := 23) (i := 15) rfl rfl (by omega) (by omega) (fun b23 => ?_) (fun b23 => ?_) | refine K_icmp_ge_an 52 (pc := 23) (i := 15) rfl rfl (fun b23 => ?_) (fun b23 => ?_)
        · skip
          refine K_iconst (pc := 52) (i := 32) rfl ?_
          refine K_ist_n (pc := 53) (i := 33) (lo' := [(0, _), (1, _), (2, _), (3, _)]) rfl rfl rfl rfl ?_
          have hJ := hI
          refine K_aload_n (pc := 54) (i := 34) rfl rfl ?_
          refine K_cVV (pc := 55) (i := 35) rfl (c_Model_copy G (hI := hI)) S_184 rfl (lv_Model_165 rfl) rfl rfl rfl rfl rfl (fun h55 q55 => ?_)
          obtain ⟨fx55, q55⟩ := q55
          obtain ⟨hI, cp55⟩ := q55
          have fx := fx.tr fx55 (fun c i q => (by first | (dsimp only at q ⊢; omega) | omega))
          have fk55 : FK (kap h55 40) (h55 184 4) := by rw [fx55 184 4 (by first | (dsimp only; omega) | omega | exact not_false)]; exact FK.copy (hJ.2.2.2.2.2 hT).1 (rd_many hJ).2 cp55
          have m55 : h55 184 4 = h 184 4 := fx 184 4 (by first | (dsimp only; omega) | omega | exact not_false)
          rw [m55] at fk55
          refine K_iconst (pc := 58) (i := 36) rfl ?_
          refine K_ist (pc := 59) (i := 37) (lo' := [(0, _), (1, _), (2, _), (3, _), (4, _)]) rfl rfl rfl rfl ?_
          have L61 : ∀ (n : Nat) (x3 : Int) (x4 : Int) (hb : kH), (6561 - x4).toNat < n → (Gd g hb) → (Fx (fun c i => (c = 187 ∧ 40 ≤ i) ∨ c = 196 ∨ c = 197) h hb) → ((0 ≤ x4 ∧ x4 ≤ 6561) ∧ FK (kap hb 40) (h 184 4)) → K X_Model_layFits G (kZm G 3 (kQi (fun z h' => Fx (fun c i => (c = 187 ∧ 40 ≤ i) ∨ c = 196 ∨ c = 197) h h' ∧ (Gd g h' ∧ kR z)))) 61 [(0, .ref (G.2.2.2 184)), (1, kI v9), (2, kI x2), (3, kI x3), (4, kI x4)] [] hb := by
            intro n
            induction n with
            | zero => intro x3 x4 hb hm; exact absurd hm (Nat.not_lt_zero _)
            | succ n ih61 =>
              intro x3 x4 hb hm61 hI fx hV61
              refine K_iload (pc := 61) (i := 38) rfl rfl ?_
              refine K_iload_n (pc := 63) (i := 39) rfl rfl ?_
              first | refine K_icmp_ge 328 (pc := 64) (i := 40) rfl rfl (by omega) (by omega) (fun b64 => ?_) (fun b64 => ?_) | refine K_icmp_ge_an 328 (pc := 64) (i := 40) rfl rfl (fun b64 => ?_) (fun b64 => ?_)
              · skip
                refine K_iload_n (pc := 328) (i := 181) rfl rfl ?_
                refine K_any (fun v329 r329 => ?_)
                exact K_retI (pc := 329) (i := 182) rfl rfl ⟨fx, ⟨hI, by omega⟩⟩
              · skip
                refine K_iload (pc := 67) (i := 41) rfl rfl ?_
                refine K_ist (pc := 69) (i := 42) (lo' := [(0, _), (1, _), (2, _), (3, _), (4, _), (5, _)]) rfl rfl rfl rfl ?_
                refine K_iconst (pc := 71) (i := 43) rfl ?_
                refine K_ist (pc := 72) (i := 44) (lo' := [(0, _), (1, _), (2, _), (3, _), (4, _), (5, _), (6, _)]) rfl rfl rfl rfl ?_
                have L74 : ∀ (n : Nat) (x5 : Int) (x6 : Int) (hc : kH), (4 - x6).toNat < n → (Gd g hc) → (Fx (fun c i => (c = 187 ∧ 40 ≤ i) ∨ c = 196 ∨ c = 197) h hc) → (((0 ≤ x6 ∧ x6 ≤ 4) ∧ 0 ≤ x5 ∧ kR x5) ∧ True ∧ FK (kap hc 40) (h 184 4)) → K X_Model_layFits G (kZm G 3 (kQi (fun z h' => Fx (fun c i => (c = 187 ∧ 40 ≤ i) ∨ c = 196 ∨ c = 197) h h' ∧ (Gd g h' ∧ kR z)))) 74 [(0, .ref (G.2.2.2 184)), (1, kI v9), (2, kI x2), (3, kI x3), (4, kI x4), (5, kI x5), (6, kI x6)] [] hc := by
                  intro n
                  induction n with
                  | zero => intro x5 x6 hc hm; exact absurd hm (Nat.not_lt_zero _)
                  | succ n ih74 =>
                    intro x5 x6 hc hm74 hI fx hV74
                    refine K_iload (pc := 74) (i := 45) rfl rfl ?_
                    refine K_iload_n (pc := 76) (i := 46) rfl rfl ?_
                    first | refine K_icmp_ge 114 (pc := 77) (i := 47) rfl rfl (by omega) (by omega) (fun b77 => ?_) (fun b77 => ?_) | refine K_icmp_ge_an 114 (pc := 77) (i := 47) rfl rfl (fun b77 => ?_) (fun b77 => ?_)
                    · skip
                      refine K_iconst (pc := 114) (i := 69) rfl ?_
                      refine K_ist (pc := 115) (i := 70) (lo' := [(0, _), (1, _), (2, _), (3, _), (4, _), (5, _), (6, _)]) rfl rfl rfl rfl ?_
                      refine K_iconst (pc := 117) (i := 71) rfl ?_
                      refine K_ist (pc := 118) (i := 72) (lo' := [(0, _), (1, _), (2, _), (3, _), (4, _), (5, _), (6, _), (7, _)]) rfl rfl rfl rfl ?_
                      have L120 : ∀ (n : Nat) (x6 : Int) (x7 : Int), (8 - x7).toNat < n → (0 ≤ x7 ∧ x7 ≤ 8) → K X_Model_layFits G (kZm G 3 (kQi (fun z h' => Fx (fun c i => (c = 187 ∧ 40 ≤ i) ∨ c = 196 ∨ c = 197) h h' ∧ (Gd g h' ∧ kR z)))) 120 [(0, .ref (G.2.2.2 184)), (1, kI v9), (2, kI x2), (3, kI x3), (4, kI x4), (5, kI x5), (6, kI x6), (7, kI x7)] [] hc := by
                        intro n
                        induction n with
                        | zero => intro x6 x7 hm; exact absurd hm (Nat.not_lt_zero _)
                        | succ n ih120 =>
                          intro x6 x7 hm120 hV120
                          refine K_iload (pc := 120) (i := 73) rfl rfl ?_
                          refine K_aload_n (pc := 122) (i := 74) rfl rfl ?_
                          refine K_getI (pc := 123) (i := 75) (j := 16) rfl S_184 rfl (by decide) rfl fw_Model_192 ?_
                          refine K_nm (fun v123 e123 => ?_)
                          have r123 := rd_mseen hI
                          rw [← e123] at r123
                          first | refine K_icmp_ge 211 (pc := 126) (i := 76) rfl rfl (by omega) (by omega) (fun b126 => ?_) (fun b126 => ?_) | refine K_icmp_ge_an 211 (pc := 126) (i := 76) rfl rfl (fun b126 => ?_) (fun b126 => ?_)
                          · skip
                            refine K_iload_n (pc := 211) (i := 119) rfl rfl ?_
                            refine K_iload (pc := 212) (i := 120) rfl rfl ?_
                            first | refine K_if_eq 221 (pc := 214) (i := 121) rfl rfl (by omega) (fun b214 => ?_) (fun b214 => ?_) | refine K_if_eq_an 221 (pc := 214) (i := 121) rfl rfl (fun b214 => ?_) (fun b214 => ?_)
                            · skip
                              refine K_iconst (pc := 221) (i := 124) rfl ?_
                              refine K_iadd (pc := 222) (i := 125) rfl ?_
                              refine K_ist_n (pc := 223) (i := 126) (lo' := [(0, _), (1, _), (2, _), (3, _), (4, _), (5, _), (6, _), (7, _)]) rfl rfl rfl rfl ?_
                              refine K_iconst (pc := 224) (i := 127) rfl ?_
                              refine K_ist (pc := 225) (i := 128) (lo' := [(0, _), (1, _), (2, _), (3, _), (4, _), (5, _), (6, _), (7, _)]) rfl rfl rfl rfl ?_
                              have L227 : ∀ (n : Nat) (x7 : Int) (hd : kH), (4 - x7).toNat < n → (Gd g hd) → (Fx (fun c i => (c = 187 ∧ 40 ≤ i) ∨ c = 196 ∨ c = 197) h hd) → ((0 ≤ x7 ∧ x7 ≤ 4) ∧ hd 187 = hc 187) → K X_Model_layFits G (kZm G 3 (kQi (fun z h' => Fx (fun c i => (c = 187 ∧ 40 ≤ i) ∨ c = 196 ∨ c = 197) h h' ∧ (Gd g h' ∧ kR z)))) 227 [(0, .ref (G.2.2.2 184)), (1, kI v9), (2, kI x2), (3, kI (x3 + 0)), (4, kI x4), (5, kI x5), (6, kI x6), (7, kI x7)] [] hd := by
                                intro n
                                induction n with
                                | zero => intro x7 hd hm; exact absurd hm (Nat.not_lt_zero _)
                                | succ n ih227 =>
                                  intro x7 hd hm227 hI fx hV227
                                  refine K_iload (pc := 227) (i := 129) rfl rfl ?_
                                  refine K_iload_n (pc := 229) (i := 130) rfl rfl ?_
                                  first | refine K_icmp_ge 322 (pc := 230) (i := 131) rfl rfl (by omega) (by omega) (fun b230 => ?_) (fun b230 => ?_) | refine K_icmp_ge_an 322 (pc := 230) (i := 131) rfl rfl (fun b230 => ?_) (fun b230 => ?_)
                                  · skip
                                    refine K_inc (pc := 322) (i := 179) (q := 4) (lo' := [(0, _), (1, _), (2, _), (3, _), (4, _), (5, _), (6, _), (7, _)]) rfl rfl rfl rfl rfl ?_
                                    refine K_goto 61 (pc := 325) (i := 180) rfl rfl ?_
                                    refine K_drop (lo' := [(0, .ref (G.2.2.2 184)), (1, kI v9), (2, kI x2), (3, kI (x3 + 0)), (4, kI (x4 + 1))]) [0, 1, 2, 3, 4] rfl ?_
                                    exact ih61 (x3 + 0) (x4 + 1) _ (by omega) hI fx ⟨by omega, by rw [kap_of hV227.2]; exact hV74.2.2⟩
                                  · skip
                                    refine K_iload (pc := 233) (i := 132) rfl rfl ?_
                                    first | refine K_if_eq 322 (pc := 235) (i := 133) rfl rfl (by omega) (fun b235 => ?_) (fun b235 => ?_) | refine K_if_eq_an 322 (pc := 235) (i := 133) rfl rfl (fun b235 => ?_) (fun b235 => ?_)
                                    · skip
                                      refine K_inc (pc := 322) (i := 179) (q := 4) (lo' := [(0, _), (1, _), (2, _), (3, _), (4, _), (5, _), (6, _), (7, _)]) rfl rfl rfl rfl rfl ?_
                                      refine K_goto 61 (pc := 325) (i := 180) rfl rfl ?_
                                      refine K_drop (lo' := [(0, .ref (G.2.2.2 184)), (1, kI v9), (2, kI x2), (3, kI (x3 + 0)), (4, kI (x4 + 1))]) [0, 1, 2, 3, 4] rfl ?_
                                      exact ih61 (x3 + 0) (x4 + 1) _ (by omega) hI fx ⟨by omega, by rw [kap_of hV227.2]; exact hV74.2.2⟩
                                    · skip
                                      refine K_aload_n (pc := 238) (i := 134) rfl rfl ?_
                                      refine K_getR (pc := 239) (i := 135) (j := 3) (d := 187) rfl S_184 rfl (by decide) rfl fw_Model_16 ?_
                                      refine K_bipush (pc := 242) (i := 136) rfl rfl ?_
                                      refine K_iconst (pc := 244) (i := 137) rfl ?_
                                      refine K_iload (pc := 245) (i := 138) rfl rfl ?_
                                      refine K_imul (pc := 247) (i := 139) rfl ?_
                                      refine K_iadd (pc := 248) (i := 140) rfl ?_
                                      refine K_iconst (pc := 249) (i := 141) rfl ?_
                                      refine K_iadd (pc := 250) (i := 142) rfl ?_
                                      refine K_iald (pc := 251) (i := 143) rfl S_187 (by omega) (by omega) (by decide) ?_
                                      refine K_nm (fun v251 e251 => ?_)
                                      have r251 := (rd_mkites hI ((40 + (5 * x7)) + 3).toNat).2.1 (by omega)
                                      rw [← e251] at r251
                                      refine K_ist (pc := 252) (i := 144) (lo' := [(0, _), (1, _), (2, _), (3, _), (4, _), (5, _), (6, _), (7, _), (8, _)]) rfl rfl rfl rfl ?_
                                      refine K_aload_n (pc := 254) (i := 145) rfl rfl ?_
                                      refine K_getR (pc := 255) (i := 146) (j := 20) (d := 196) rfl S_184 rfl (by decide) rfl fw_Model_44 ?_
                                      refine K_iload (pc := 258) (i := 147) rfl rfl ?_
                                      refine K_iload (pc := 260) (i := 148) rfl rfl ?_
                                      refine K_aload_n (pc := 262) (i := 149) rfl rfl ?_
                                      refine K_getR (pc := 263) (i := 150) (j := 20) (d := 196) rfl S_184 rfl (by decide) rfl fw_Model_44 ?_
                                      refine K_iload (pc := 266) (i := 151) rfl rfl ?_
                                      refine K_iald (pc := 268) (i := 152) rfl S_196 (by omega) (by omega) (by decide) ?_
                                      refine K_any (fun v268 r268 => ?_)
                                      first | refine K_icmp_ge 277 (pc := 269) (i := 153) rfl rfl (by omega) (by omega) (fun b269 => ?_) (fun b269 => ?_) | refine K_icmp_ge_an 277 (pc := 269) (i := 153) rfl rfl (fun b269 => ?_) (fun b269 => ?_)
                                      · skip
                                        refine K_aload_n (pc := 277) (i := 156) rfl rfl ?_
                                        refine K_getR (pc := 278) (i := 157) (j := 20) (d := 196) rfl S_184 rfl (by decide) rfl fw_Model_44 ?_
                                        refine K_iload (pc := 281) (i := 158) rfl rfl ?_
                                        refine K_iald (pc := 283) (i := 159) rfl S_196 (by omega) (by omega) (by decide) ?_
                                        refine K_any (fun v283 r283 => ?_)
                                        refine K_iast (pc := 284) (i := 160) rfl S_196 (by omega) (by omega) (by decide) ?_
                                        have hI := st_free (c := 196) hI (by decide +kernel) (by decide) (i := (x7).toNat) (v := v283)
                                        have fx := Fx.st (c := 196) (i := (x7).toNat) (v := v283) fx (by first | (dsimp only; omega) | omega | exact not_false)
                                        refine K_aload_n (pc := 285) (i := 161) rfl rfl ?_
                                        refine K_getR (pc := 286) (i := 162) (j := 21) (d := 197) rfl S_184 rfl (by decide) rfl fw_Model_47 ?_
                                        refine K_iload (pc := 289) (i := 163) rfl rfl ?_
                                        refine K_iload (pc := 291) (i := 164) rfl rfl ?_
                                        refine K_aload_n (pc := 293) (i := 165) rfl rfl ?_
                                        refine K_getR (pc := 294) (i := 166) (j := 21) (d := 197) rfl S_184 rfl (by decide) rfl fw_Model_47 ?_
                                        refine K_iload (pc := 297) (i := 167) rfl rfl ?_
                                        refine K_iald (pc := 299) (i := 168) rfl S_197 (by omega) (by omega) (by decide) ?_
                                        refine K_any (fun v299 r299 => ?_)
                                        first | refine K_icmp_le 308 (pc := 300) (i := 169) rfl rfl (by omega) (by omega) (fun b300 => ?_) (fun b300 => ?_) | refine K_icmp_le_an 308 (pc := 300) (i := 169) rfl rfl (fun b300 => ?_) (fun b300 => ?_)
                                        · skip
                                          refine K_aload_n (pc := 308) (i := 172) rfl rfl ?_
                                          refine K_getR (pc := 309) (i := 173) (j := 21) (d := 197) rfl S_184 rfl (by decide) rfl fw_Model_47 ?_
                                          refine K_iload (pc := 312) (i := 174) rfl rfl ?_
                                          refine K_iald (pc := 314) (i := 175) rfl S_197 (by omega) (by omega) (by decide) ?_
                                          refine K_any (fun v314 r314 => ?_)
                                          refine K_iast (pc := 315) (i := 176) rfl S_197 (by omega) (by omega) (by decide) ?_
                                          have hI := st_free (c := 197) hI (by decide +kernel) (by decide) (i := (x7).toNat) (v := v314)
                                          have fx := Fx.st (c := 197) (i := (x7).toNat) (v := v314) fx (by first | (dsimp only; omega) | omega | exact not_false)
                                          refine K_inc (pc := 316) (i := 177) (q := 7) (lo' := [(0, _), (1, _), (2, _), (3, _), (4, _), (5, _), (6, _), (7, _), (8, _)]) rfl rfl rfl rfl rfl ?_
                                          refine K_goto 227 (pc := 319) (i := 178) rfl rfl ?_
                                          refine K_drop (lo' := [(0, .ref (G.2.2.2 184)), (1, kI v9), (2, kI x2), (3, kI (x3 + 0)), (4, kI x4), (5, kI x5), (6, kI x6), (7, kI (x7 + 1))]) [0, 1, 2, 3, 4, 5, 6, 7] rfl ?_
                                          exact ih227 (x7 + 1) _ (by omega) hI fx ⟨by omega, ((kU_c _ _ _ _ (by decide)).trans (kU_c _ _ _ _ (by decide))).trans hV227.2⟩
                                        · skip
                                          refine K_iload (pc := 303) (i := 170) rfl rfl ?_
                                          refine K_goto 315 (pc := 305) (i := 171) rfl rfl ?_
                                          refine K_iast (pc := 315) (i := 176) rfl S_197 (by omega) (by omega) (by decide) ?_
                                          have hI := st_free (c := 197) hI (by decide +kernel) (by decide) (i := (x7).toNat) (v := v251)
                                          have fx := Fx.st (c := 197) (i := (x7).toNat) (v := v251) fx (by first | (dsimp only; omega) | omega | exact not_false)
                                          refine K_inc (pc := 316) (i := 177) (q := 7) (lo' := [(0, _), (1, _), (2, _), (3, _), (4, _), (5, _), (6, _), (7, _), (8, _)]) rfl rfl rfl rfl rfl ?_
                                          refine K_goto 227 (pc := 319) (i := 178) rfl rfl ?_
                                          refine K_drop (lo' := [(0, .ref (G.2.2.2 184)), (1, kI v9), (2, kI x2), (3, kI (x3 + 0)), (4, kI x4), (5, kI x5), (6, kI x6), (7, kI (x7 + 1))]) [0, 1, 2, 3, 4, 5, 6, 7] rfl ?_
                                          exact ih227 (x7 + 1) _ (by omega) hI fx ⟨by omega, ((kU_c _ _ _ _ (by decide)).trans (kU_c _ _ _ _ (by decide))).trans hV227.2⟩
                                      · skip
                                        refine K_iload (pc := 272) (i := 154) rfl rfl ?_
                                        refine K_goto 284 (pc := 274) (i := 155) rfl rfl ?_
                                        refine K_iast (pc := 284) (i := 160) rfl S_196 (by omega) (by omega) (by decide) ?_
                                        have hI := st_free (c := 196) hI (by decide +kernel) (by decide) (i := (x7).toNat) (v := v251)
                                        have fx := Fx.st (c := 196) (i := (x7).toNat) (v := v251) fx (by first | (dsimp only; omega) | omega | exact not_false)
                                        refine K_aload_n (pc := 285) (i := 161) rfl rfl ?_
                                        refine K_getR (pc := 286) (i := 162) (j := 21) (d := 197) rfl S_184 rfl (by decide) rfl fw_Model_47 ?_
                                        refine K_iload (pc := 289) (i := 163) rfl rfl ?_
                                        refine K_iload (pc := 291) (i := 164) rfl rfl ?_
                                        refine K_aload_n (pc := 293) (i := 165) rfl rfl ?_
                                        refine K_getR (pc := 294) (i := 166) (j := 21) (d := 197) rfl S_184 rfl (by decide) rfl fw_Model_47 ?_
                                        refine K_iload (pc := 297) (i := 167) rfl rfl ?_
                                        refine K_iald (pc := 299) (i := 168) rfl S_197 (by omega) (by omega) (by decide) ?_
                                        refine K_any (fun v299 r299 => ?_)
                                        first | refine K_icmp_le 308 (pc := 300) (i := 169) rfl rfl (by omega) (by omega) (fun b300 => ?_) (fun b300 => ?_) | refine K_icmp_le_an 308 (pc := 300) (i := 169) rfl rfl (fun b300 => ?_) (fun b300 => ?_)
                                        · skip
                                          refine K_aload_n (pc := 308) (i := 172) rfl rfl ?_
                                          refine K_getR (pc := 309) (i := 173) (j := 21) (d := 197) rfl S_184 rfl (by decide) rfl fw_Model_47 ?_
                                          refine K_iload (pc := 312) (i := 174) rfl rfl ?_
                                          refine K_iald (pc := 314) (i := 175) rfl S_197 (by omega) (by omega) (by decide) ?_
                                          refine K_any (fun v314 r314 => ?_)
                                          refine K_iast (pc := 315) (i := 176) rfl S_197 (by omega) (by omega) (by decide) ?_
                                          have hI := st_free (c := 197) hI (by decide +kernel) (by decide) (i := (x7).toNat) (v := v314)
                                          have fx := Fx.st (c := 197) (i := (x7).toNat) (v := v314) fx (by first | (dsimp only; omega) | omega | exact not_false)
                                          refine K_inc (pc := 316) (i := 177) (q := 7) (lo' := [(0, _), (1, _), (2, _), (3, _), (4, _), (5, _), (6, _), (7, _), (8, _)]) rfl rfl rfl rfl rfl ?_
                                          refine K_goto 227 (pc := 319) (i := 178) rfl rfl ?_
                                          refine K_drop (lo' := [(0, .ref (G.2.2.2 184)), (1, kI v9), (2, kI x2), (3, kI (x3 + 0)), (4, kI x4), (5, kI x5), (6, kI x6), (7, kI (x7 + 1))]) [0, 1, 2, 3, 4, 5, 6, 7] rfl ?_
                                          exact ih227 (x7 + 1) _ (by omega) hI fx ⟨by omega, ((kU_c _ _ _ _ (by decide)).trans (kU_c _ _ _ _ (by decide))).trans hV227.2⟩
                                        · skip
                                          refine K_iload (pc := 303) (i := 170) rfl rfl ?_
                                          refine K_goto 315 (pc := 305) (i := 171) rfl rfl ?_
                                          refine K_iast (pc := 315) (i := 176) rfl S_197 (by omega) (by omega) (by decide) ?_
                                          have hI := st_free (c := 197) hI (by decide +kernel) (by decide) (i := (x7).toNat) (v := v251)
                                          have fx := Fx.st (c := 197) (i := (x7).toNat) (v := v251) fx (by first | (dsimp only; omega) | omega | exact not_false)
                                          refine K_inc (pc := 316) (i := 177) (q := 7) (lo' := [(0, _), (1, _), (2, _), (3, _), (4, _), (5, _), (6, _), (7, _), (8, _)]) rfl rfl rfl rfl rfl ?_
                                          refine K_goto 227 (pc := 319) (i := 178) rfl rfl ?_
                                          refine K_drop (lo' := [(0, .ref (G.2.2.2 184)), (1, kI v9), (2, kI x2), (3, kI (x3 + 0)), (4, kI x4), (5, kI x5), (6, kI x6), (7, kI (x7 + 1))]) [0, 1, 2, 3, 4, 5, 6, 7] rfl ?_
                                          exact ih227 (x7 + 1) _ (by omega) hI fx ⟨by omega, ((kU_c _ _ _ _ (by decide)).trans (kU_c _ _ _ _ (by decide))).trans hV227.2⟩
                              exact L227 _ 0 _ (Nat.lt_succ_self _) hI fx ⟨by omega, rfl⟩
                            · skip
                              refine K_iconst (pc := 217) (i := 122) rfl ?_
                              refine K_goto 222 (pc := 218) (i := 123) rfl rfl ?_
                              refine K_iadd (pc := 222) (i := 125) rfl ?_
                              refine K_ist_n (pc := 223) (i := 126) (lo' := [(0, _), (1, _), (2, _), (3, _), (4, _), (5, _), (6, _), (7, _)]) rfl rfl rfl rfl ?_
                              refine K_iconst (pc := 224) (i := 127) rfl ?_
                              refine K_ist (pc := 225) (i := 128) (lo' := [(0, _), (1, _), (2, _), (3, _), (4, _), (5, _), (6, _), (7, _)]) rfl rfl rfl rfl ?_
                              have L227 : ∀ (n : Nat) (x7 : Int) (hd : kH), (4 - x7).toNat < n → (Gd g hd) → (Fx (fun c i => (c = 187 ∧ 40 ≤ i) ∨ c = 196 ∨ c = 197) h hd) → ((0 ≤ x7 ∧ x7 ≤ 4) ∧ hd 187 = hc 187) → K X_Model_layFits G (kZm G 3 (kQi (fun z h' => Fx (fun c i => (c = 187 ∧ 40 ≤ i) ∨ c = 196 ∨ c = 197) h h' ∧ (Gd g h' ∧ kR z)))) 227 [(0, .ref (G.2.2.2 184)), (1, kI v9), (2, kI x2), (3, kI (x3 + 1)), (4, kI x4), (5, kI x5), (6, kI x6), (7, kI x7)] [] hd := by
                                intro n
                                induction n with
                                | zero => intro x7 hd hm; exact absurd hm (Nat.not_lt_zero _)
                                | succ n ih227 =>
                                  intro x7 hd hm227 hI fx hV227
                                  refine K_iload (pc := 227) (i := 129) rfl rfl ?_
                                  refine K_iload_n (pc := 229) (i := 130) rfl rfl ?_
                                  first | refine K_icmp_ge 322 (pc := 230) (i := 131) rfl rfl (by omega) (by omega) (fun b230 => ?_) (fun b230 => ?_) | refine K_icmp_ge_an 322 (pc := 230) (i := 131) rfl rfl (fun b230 => ?_) (fun b230 => ?_)
                                  · skip
                                    refine K_inc (pc := 322) (i := 179) (q := 4) (lo' := [(0, _), (1, _), (2, _), (3, _), (4, _), (5, _), (6, _), (7, _)]) rfl rfl rfl rfl rfl ?_
                                    refine K_goto 61 (pc := 325) (i := 180) rfl rfl ?_
                                    refine K_drop (lo' := [(0, .ref (G.2.2.2 184)), (1, kI v9), (2, kI x2), (3, kI (x3 + 1)), (4, kI (x4 + 1))]) [0, 1, 2, 3, 4] rfl ?_
                                    exact ih61 (x3 + 1) (x4 + 1) _ (by omega) hI fx ⟨by omega, by rw [kap_of hV227.2]; exact hV74.2.2⟩
                                  · skip
                                    refine K_iload (pc := 233) (i := 132) rfl rfl ?_
                                    first | refine K_if_eq 322 (pc := 235) (i := 133) rfl rfl (by omega) (fun b235 => ?_) (fun b235 => ?_) | refine K_if_eq_an 322 (pc := 235) (i := 133) rfl rfl (fun b235 => ?_) (fun b235 => ?_)
                                    · skip
                                      refine K_inc (pc := 322) (i := 179) (q := 4) (lo' := [(0, _), (1, _), (2, _), (3, _), (4, _), (5, _), (6, _), (7, _)]) rfl rfl rfl rfl rfl ?_
                                      refine K_goto 61 (pc := 325) (i := 180) rfl rfl ?_
                                      refine K_drop (lo' := [(0, .ref (G.2.2.2 184)), (1, kI v9), (2, kI x2), (3, kI (x3 + 1)), (4, kI (x4 + 1))]) [0, 1, 2, 3, 4] rfl ?_
                                      exact ih61 (x3 + 1) (x4 + 1) _ (by omega) hI fx ⟨by omega, by rw [kap_of hV227.2]; exact hV74.2.2⟩
                                    · skip
                                      refine K_aload_n (pc := 238) (i := 134) rfl rfl ?_
                                      refine K_getR (pc := 239) (i := 135) (j := 3) (d := 187) rfl S_184 rfl (by decide) rfl fw_Model_16 ?_
                                      refine K_bipush (pc := 242) (i := 136) rfl rfl ?_
                                      refine K_iconst (pc := 244) (i := 137) rfl ?_
                                      refine K_iload (pc := 245) (i := 138) rfl rfl ?_
                                      refine K_imul (pc := 247) (i := 139) rfl ?_
                                      refine K_iadd (pc := 248) (i := 140) rfl ?_
                                      refine K_iconst (pc := 249) (i := 141) rfl ?_
                                      refine K_iadd (pc := 250) (i := 142) rfl ?_
                                      refine K_iald (pc := 251) (i := 143) rfl S_187 (by omega) (by omega) (by decide) ?_
                                      refine K_nm (fun v251 e251 => ?_)
                                      have r251 := (rd_mkites hI ((40 + (5 * x7)) + 3).toNat).2.1 (by omega)
                                      rw [← e251] at r251
                                      refine K_ist (pc := 252) (i := 144) (lo' := [(0, _), (1, _), (2, _), (3, _), (4, _), (5, _), (6, _), (7, _), (8, _)]) rfl rfl rfl rfl ?_
                                      refine K_aload_n (pc := 254) (i := 145) rfl rfl ?_
                                      refine K_getR (pc := 255) (i := 146) (j := 20) (d := 196) rfl S_184 rfl (by decide) rfl fw_Model_44 ?_
                                      refine K_iload (pc := 258) (i := 147) rfl rfl ?_
                                      refine K_iload (pc := 260) (i := 148) rfl rfl ?_
                                      refine K_aload_n (pc := 262) (i := 149) rfl rfl ?_
                                      refine K_getR (pc := 263) (i := 150) (j := 20) (d := 196) rfl S_184 rfl (by decide) rfl fw_Model_44 ?_
                                      refine K_iload (pc := 266) (i := 151) rfl rfl ?_
                                      refine K_iald (pc := 268) (i := 152) rfl S_196 (by omega) (by omega) (by decide) ?_
                                      refine K_any (fun v268 r268 => ?_)
                                      first | refine K_icmp_ge 277 (pc := 269) (i := 153) rfl rfl (by omega) (by omega) (fun b269 => ?_) (fun b269 => ?_) | refine K_icmp_ge_an 277 (pc := 269) (i := 153) rfl rfl (fun b269 => ?_) (fun b269 => ?_)
                                      · skip
                                        refine K_aload_n (pc := 277) (i := 156) rfl rfl ?_
                                        refine K_getR (pc := 278) (i := 157) (j := 20) (d := 196) rfl S_184 rfl (by decide) rfl fw_Model_44 ?_
                                        refine K_iload (pc := 281) (i := 158) rfl rfl ?_
                                        refine K_iald (pc := 283) (i := 159) rfl S_196 (by omega) (by omega) (by decide) ?_
                                        refine K_any (fun v283 r283 => ?_)
                                        refine K_iast (pc := 284) (i := 160) rfl S_196 (by omega) (by omega) (by decide) ?_
                                        have hI := st_free (c := 196) hI (by decide +kernel) (by decide) (i := (x7).toNat) (v := v283)
                                        have fx := Fx.st (c := 196) (i := (x7).toNat) (v := v283) fx (by first | (dsimp only; omega) | omega | exact not_false)
                                        refine K_aload_n (pc := 285) (i := 161) rfl rfl ?_
                                        refine K_getR (pc := 286) (i := 162) (j := 21) (d := 197) rfl S_184 rfl (by decide) rfl fw_Model_47 ?_
                                        refine K_iload (pc := 289) (i := 163) rfl rfl ?_
                                        refine K_iload (pc := 291) (i := 164) rfl rfl ?_
                                        refine K_aload_n (pc := 293) (i := 165) rfl rfl ?_
                                        refine K_getR (pc := 294) (i := 166) (j := 21) (d := 197) rfl S_184 rfl (by decide) rfl fw_Model_47 ?_
                                        refine K_iload (pc := 297) (i := 167) rfl rfl ?_
                                        refine K_iald (pc := 299) (i := 168) rfl S_197 (by omega) (by omega) (by decide) ?_
                                        refine K_any (fun v299 r299 => ?_)
                                        first | refine K_icmp_le 308 (pc := 300) (i := 169) rfl rfl (by omega) (by omega) (fun b300 => ?_) (fun b300 => ?_) | refine K_icmp_le_an 308 (pc := 300) (i := 169) rfl rfl (fun b300 => ?_) (fun b300 => ?_)
                                        · skip
                                          refine K_aload_n (pc := 308) (i := 172) rfl rfl ?_
                                          refine K_getR (pc := 309) (i := 173) (j := 21) (d := 197) rfl S_184 rfl (by decide) rfl fw_Model_47 ?_
                                          refine K_iload (pc := 312) (i := 174) rfl rfl ?_
                                          refine K_iald (pc := 314) (i := 175) rfl S_197 (by omega) (by omega) (by decide) ?_
                                          refine K_any (fun v314 r314 => ?_)
                                          refine K_iast (pc := 315) (i := 176) rfl S_197 (by omega) (by omega) (by decide) ?_
                                          have hI := st_free (c := 197) hI (by decide +kernel) (by decide) (i := (x7).toNat) (v := v314)
                                          have fx := Fx.st (c := 197) (i := (x7).toNat) (v := v314) fx (by first | (dsimp only; omega) | omega | exact not_false)
                                          refine K_inc (pc := 316) (i := 177) (q := 7) (lo' := [(0, _), (1, _), (2, _), (3, _), (4, _), (5, _), (6, _), (7, _), (8, _)]) rfl rfl rfl rfl rfl ?_
                                          refine K_goto 227 (pc := 319) (i := 178) rfl rfl ?_
                                          refine K_drop (lo' := [(0, .ref (G.2.2.2 184)), (1, kI v9), (2, kI x2), (3, kI (x3 + 1)), (4, kI x4), (5, kI x5), (6, kI x6), (7, kI (x7 + 1))]) [0, 1, 2, 3, 4, 5, 6, 7] rfl ?_
                                          exact ih227 (x7 + 1) _ (by omega) hI fx ⟨by omega, ((kU_c _ _ _ _ (by decide)).trans (kU_c _ _ _ _ (by decide))).trans hV227.2⟩
                                        · skip
                                          refine K_iload (pc := 303) (i := 170) rfl rfl ?_
                                          refine K_goto 315 (pc := 305) (i := 171) rfl rfl ?_
                                          refine K_iast (pc := 315) (i := 176) rfl S_197 (by omega) (by omega) (by decide) ?_
                                          have hI := st_free (c := 197) hI (by decide +kernel) (by decide) (i := (x7).toNat) (v := v251)
                                          have fx := Fx.st (c := 197) (i := (x7).toNat) (v := v251) fx (by first | (dsimp only; omega) | omega | exact not_false)
                                          refine K_inc (pc := 316) (i := 177) (q := 7) (lo' := [(0, _), (1, _), (2, _), (3, _), (4, _), (5, _), (6, _), (7, _), (8, _)]) rfl rfl rfl rfl rfl ?_
                                          refine K_goto 227 (pc := 319) (i := 178) rfl rfl ?_
                                          refine K_drop (lo' := [(0, .ref (G.2.2.2 184)), (1, kI v9), (2, kI x2), (3, kI (x3 + 1)), (4, kI x4), (5, kI x5), (6, kI x6), (7, kI (x7 + 1))]) [0, 1, 2, 3, 4, 5, 6, 7] rfl ?_
                                          exact ih227 (x7 + 1) _ (by omega) hI fx ⟨by omega, ((kU_c _ _ _ _ (by decide)).trans (kU_c _ _ _ _ (by decide))).trans hV227.2⟩
                                      · skip
                                        refine K_iload (pc := 272) (i := 154) rfl rfl ?_
                                        refine K_goto 284 (pc := 274) (i := 155) rfl rfl ?_
                                        refine K_iast (pc := 284) (i := 160) rfl S_196 (by omega) (by omega) (by decide) ?_
                                        have hI := st_free (c := 196) hI (by decide +kernel) (by decide) (i := (x7).toNat) (v := v251)
                                        have fx := Fx.st (c := 196) (i := (x7).toNat) (v := v251) fx (by first | (dsimp only; omega) | omega | exact not_false)
                                        refine K_aload_n (pc := 285) (i := 161) rfl rfl ?_
                                        refine K_getR (pc := 286) (i := 162) (j := 21) (d := 197) rfl S_184 rfl (by decide) rfl fw_Model_47 ?_
                                        refine K_iload (pc := 289) (i := 163) rfl rfl ?_
                                        refine K_iload (pc := 291) (i := 164) rfl rfl ?_
                                        refine K_aload_n (pc := 293) (i := 165) rfl rfl ?_
                                        refine K_getR (pc := 294) (i := 166) (j := 21) (d := 197) rfl S_184 rfl (by decide) rfl fw_Model_47 ?_
                                        refine K_iload (pc := 297) (i := 167) rfl rfl ?_
                                        refine K_iald (pc := 299) (i := 168) rfl S_197 (by omega) (by omega) (by decide) ?_
                                        refine K_any (fun v299 r299 => ?_)
                                        first | refine K_icmp_le 308 (pc := 300) (i := 169) rfl rfl (by omega) (by omega) (fun b300 => ?_) (fun b300 => ?_) | refine K_icmp_le_an 308 (pc := 300) (i := 169) rfl rfl (fun b300 => ?_) (fun b300 => ?_)
                                        · skip
                                          refine K_aload_n (pc := 308) (i := 172) rfl rfl ?_
                                          refine K_getR (pc := 309) (i := 173) (j := 21) (d := 197) rfl S_184 rfl (by decide) rfl fw_Model_47 ?_
                                          refine K_iload (pc := 312) (i := 174) rfl rfl ?_
                                          refine K_iald (pc := 314) (i := 175) rfl S_197 (by omega) (by omega) (by decide) ?_
                                          refine K_any (fun v314 r314 => ?_)
                                          refine K_iast (pc := 315) (i := 176) rfl S_197 (by omega) (by omega) (by decide) ?_
                                          have hI := st_free (c := 197) hI (by decide +kernel) (by decide) (i := (x7).toNat) (v := v314)
                                          have fx := Fx.st (c := 197) (i := (x7).toNat) (v := v314) fx (by first | (dsimp only; omega) | omega | exact not_false)
                                          refine K_inc (pc := 316) (i := 177) (q := 7) (lo' := [(0, _), (1, _), (2, _), (3, _), (4, _), (5, _), (6, _), (7, _), (8, _)]) rfl rfl rfl rfl rfl ?_
                                          refine K_goto 227 (pc := 319) (i := 178) rfl rfl ?_
                                          refine K_drop (lo' := [(0, .ref (G.2.2.2 184)), (1, kI v9), (2, kI x2), (3, kI (x3 + 1)), (4, kI x4), (5, kI x5), (6, kI x6), (7, kI (x7 + 1))]) [0, 1, 2, 3, 4, 5, 6, 7] rfl ?_
                                          exact ih227 (x7 + 1) _ (by omega) hI fx ⟨by omega, ((kU_c _ _ _ _ (by decide)).trans (kU_c _ _ _ _ (by decide))).trans hV227.2⟩
                                        · skip
                                          refine K_iload (pc := 303) (i := 170) rfl rfl ?_
                                          refine K_goto 315 (pc := 305) (i := 171) rfl rfl ?_
                                          refine K_iast (pc := 315) (i := 176) rfl S_197 (by omega) (by omega) (by decide) ?_
                                          have hI := st_free (c := 197) hI (by decide +kernel) (by decide) (i := (x7).toNat) (v := v251)
                                          have fx := Fx.st (c := 197) (i := (x7).toNat) (v := v251) fx (by first | (dsimp only; omega) | omega | exact not_false)
                                          refine K_inc (pc := 316) (i := 177) (q := 7) (lo' := [(0, _), (1, _), (2, _), (3, _), (4, _), (5, _), (6, _), (7, _), (8, _)]) rfl rfl rfl rfl rfl ?_
                                          refine K_goto 227 (pc := 319) (i := 178) rfl rfl ?_
                                          refine K_drop (lo' := [(0, .ref (G.2.2.2 184)), (1, kI v9), (2, kI x2), (3, kI (x3 + 1)), (4, kI x4), (5, kI x5), (6, kI x6), (7, kI (x7 + 1))]) [0, 1, 2, 3, 4, 5, 6, 7] rfl ?_
                                          exact ih227 (x7 + 1) _ (by omega) hI fx ⟨by omega, ((kU_c _ _ _ _ (by decide)).trans (kU_c _ _ _ _ (by decide))).trans hV227.2⟩
                              exact L227 _ 0 _ (Nat.lt_succ_self _) hI fx ⟨by omega, rfl⟩
                          · skip
                            refine K_iload (pc := 129) (i := 77) rfl rfl ?_
                            first | refine K_if_eq 211 (pc := 131) (i := 78) rfl rfl (by omega) (fun b131 => ?_) (fun b131 => ?_) | refine K_if_eq_an 211 (pc := 131) (i := 78) rfl rfl (fun b131 => ?_) (fun b131 => ?_)
                            · skip
                              refine K_iload_n (pc := 211) (i := 119) rfl rfl ?_
                              refine K_iload (pc := 212) (i := 120) rfl rfl ?_
                              first | refine K_if_eq 221 (pc := 214) (i := 121) rfl rfl (by omega) (fun b214 => ?_) (fun b214 => ?_) | refine K_if_eq_an 221 (pc := 214) (i := 121) rfl rfl (fun b214 => ?_) (fun b214 => ?_)
                              · skip
                                refine K_iconst (pc := 221) (i := 124) rfl ?_
                                refine K_iadd (pc := 222) (i := 125) rfl ?_
                                refine K_ist_n (pc := 223) (i := 126) (lo' := [(0, _), (1, _), (2, _), (3, _), (4, _), (5, _), (6, _), (7, _)]) rfl rfl rfl rfl ?_
                                refine K_iconst (pc := 224) (i := 127) rfl ?_
                                refine K_ist (pc := 225) (i := 128) (lo' := [(0, _), (1, _), (2, _), (3, _), (4, _), (5, _), (6, _), (7, _)]) rfl rfl rfl rfl ?_
                                have L227 : ∀ (n : Nat) (x7 : Int) (hd : kH), (4 - x7).toNat < n → (Gd g hd) → (Fx (fun c i => (c = 187 ∧ 40 ≤ i) ∨ c = 196 ∨ c = 197) h hd) → ((0 ≤ x7 ∧ x7 ≤ 4) ∧ hd 187 = hc 187) → K X_Model_layFits G (kZm G 3 (kQi (fun z h' => Fx (fun c i => (c = 187 ∧ 40 ≤ i) ∨ c = 196 ∨ c = 197) h h' ∧ (Gd g h' ∧ kR z)))) 227 [(0, .ref (G.2.2.2 184)), (1, kI v9), (2, kI x2), (3, kI (x3 + 0)), (4, kI x4), (5, kI x5), (6, kI x6), (7, kI x7)] [] hd := by
                                  intro n
                                  induction n with
                                  | zero => intro x7 hd hm; exact absurd hm (Nat.not_lt_zero _)
                                  | succ n ih227 =>
                                    intro x7 hd hm227 hI fx hV227
                                    refine K_iload (pc := 227) (i := 129) rfl rfl ?_
                                    refine K_iload_n (pc := 229) (i := 130) rfl rfl ?_
                                    first | refine K_icmp_ge 322 (pc := 230) (i := 131) rfl rfl (by omega) (by omega) (fun b230 => ?_) (fun b230 => ?_) | refine K_icmp_ge_an 322 (pc := 230) (i := 131) rfl rfl (fun b230 => ?_) (fun b230 => ?_)
                                    · skip
                                      refine K_inc (pc := 322) (i := 179) (q := 4) (lo' := [(0, _), (1, _), (2, _), (3, _), (4, _), (5, _), (6, _), (7, _)]) rfl rfl rfl rfl rfl ?_
                                      refine K_goto 61 (pc := 325) (i := 180) rfl rfl ?_
                                      refine K_drop (lo' := [(0, .ref (G.2.2.2 184)), (1, kI v9), (2, kI x2), (3, kI (x3 + 0)), (4, kI (x4 + 1))]) [0, 1, 2, 3, 4] rfl ?_
                                      exact ih61 (x3 + 0) (x4 + 1) _ (by omega) hI fx ⟨by omega, by rw [kap_of hV227.2]; exact hV74.2.2⟩
                                    · skip
                                      refine K_iload (pc := 233) (i := 132) rfl rfl ?_
                                      first | refine K_if_eq 322 (pc := 235) (i := 133) rfl rfl (by omega) (fun b235 => ?_) (fun b235 => ?_) | refine K_if_eq_an 322 (pc := 235) (i := 133) rfl rfl (fun b235 => ?_) (fun b235 => ?_)
                                      · skip
                                        refine K_inc (pc := 322) (i := 179) (q := 4) (lo' := [(0, _), (1, _), (2, _), (3, _), (4, _), (5, _), (6, _), (7, _)]) rfl rfl rfl rfl rfl ?_
                                        refine K_goto 61 (pc := 325) (i := 180) rfl rfl ?_
                                        refine K_drop (lo' := [(0, .ref (G.2.2.2 184)), (1, kI v9), (2, kI x2), (3, kI (x3 + 0)), (4, kI (x4 + 1))]) [0, 1, 2, 3, 4] rfl ?_
                                        exact ih61 (x3 + 0) (x4 + 1) _ (by omega) hI fx ⟨by omega, by rw [kap_of hV227.2]; exact hV74.2.2⟩
                                      · skip
                                        refine K_aload_n (pc := 238) (i := 134) rfl rfl ?_
                                        refine K_getR (pc := 239) (i := 135) (j := 3) (d := 187) rfl S_184 rfl (by decide) rfl fw_Model_16 ?_
                                        refine K_bipush (pc := 242) (i := 136) rfl rfl ?_
                                        refine K_iconst (pc := 244) (i := 137) rfl ?_
                                        refine K_iload (pc := 245) (i := 138) rfl rfl ?_
                                        refine K_imul (pc := 247) (i := 139) rfl ?_
                                        refine K_iadd (pc := 248) (i := 140) rfl ?_
                                        refine K_iconst (pc := 249) (i := 141) rfl ?_
                                        refine K_iadd (pc := 250) (i := 142) rfl ?_
                                        refine K_iald (pc := 251) (i := 143) rfl S_187 (by omega) (by omega) (by decide) ?_
                                        refine K_nm (fun v251 e251 => ?_)
                                        have r251 := (rd_mkites hI ((40 + (5 * x7)) + 3).toNat).2.1 (by omega)
                                        rw [← e251] at r251
                                        refine K_ist (pc := 252) (i := 144) (lo' := [(0, _), (1, _), (2, _), (3, _), (4, _), (5, _), (6, _), (7, _), (8, _)]) rfl rfl rfl rfl ?_
                                        refine K_aload_n (pc := 254) (i := 145) rfl rfl ?_
                                        refine K_getR (pc := 255) (i := 146) (j := 20) (d := 196) rfl S_184 rfl (by decide) rfl fw_Model_44 ?_
                                        refine K_iload (pc := 258) (i := 147) rfl rfl ?_
                                        refine K_iload (pc := 260) (i := 148) rfl rfl ?_
                                        refine K_aload_n (pc := 262) (i := 149) rfl rfl ?_
                                        refine K_getR (pc := 263) (i := 150) (j := 20) (d := 196) rfl S_184 rfl (by decide) rfl fw_Model_44 ?_
                                        refine K_iload (pc := 266) (i := 151) rfl rfl ?_
                                        refine K_iald (pc := 268) (i := 152) rfl S_196 (by omega) (by omega) (by decide) ?_
                                        refine K_any (fun v268 r268 => ?_)
                                        first | refine K_icmp_ge 277 (pc := 269) (i := 153) rfl rfl (by omega) (by omega) (fun b269 => ?_) (fun b269 => ?_) | refine K_icmp_ge_an 277 (pc := 269) (i := 153) rfl rfl (fun b269 => ?_) (fun b269 => ?_)
                                        · skip
                                          refine K_aload_n (pc := 277) (i := 156) rfl rfl ?_
                                          refine K_getR (pc := 278) (i := 157) (j := 20) (d := 196) rfl S_184 rfl (by decide) rfl fw_Model_44 ?_
                                          refine K_iload (pc := 281) (i := 158) rfl rfl ?_
                                          refine K_iald (pc := 283) (i := 159) rfl S_196 (by omega) (by omega) (by decide) ?_
                                          refine K_any (fun v283 r283 => ?_)
                                          refine K_iast (pc := 284) (i := 160) rfl S_196 (by omega) (by omega) (by decide) ?_
                                          have hI := st_free (c := 196) hI (by decide +kernel) (by decide) (i := (x7).toNat) (v := v283)
                                          have fx := Fx.st (c := 196) (i := (x7).toNat) (v := v283) fx (by first | (dsimp only; omega) | omega | exact not_false)
                                          refine K_aload_n (pc := 285) (i := 161) rfl rfl ?_
                                          refine K_getR (pc := 286) (i := 162) (j := 21) (d := 197) rfl S_184 rfl (by decide) rfl fw_Model_47 ?_
                                          refine K_iload (pc := 289) (i := 163) rfl rfl ?_
                                          refine K_iload (pc := 291) (i := 164) rfl rfl ?_
                                          refine K_aload_n (pc := 293) (i := 165) rfl rfl ?_
                                          refine K_getR (pc := 294) (i := 166) (j := 21) (d := 197) rfl S_184 rfl (by decide) rfl fw_Model_47 ?_
                                          refine K_iload (pc := 297) (i := 167) rfl rfl ?_
                                          refine K_iald (pc := 299) (i := 168) rfl S_197 (by omega) (by omega) (by decide) ?_
                                          refine K_any (fun v299 r299 => ?_)
                                          first | refine K_icmp_le 308 (pc := 300) (i := 169) rfl rfl (by omega) (by omega) (fun b300 => ?_) (fun b300 => ?_) | refine K_icmp_le_an 308 (pc := 300) (i := 169) rfl rfl (fun b300 => ?_) (fun b300 => ?_)
                                          · skip
                                            refine K_aload_n (pc := 308) (i := 172) rfl rfl ?_
                                            refine K_getR (pc := 309) (i := 173) (j := 21) (d := 197) rfl S_184 rfl (by decide) rfl fw_Model_47 ?_
                                            refine K_iload (pc := 312) (i := 174) rfl rfl ?_
                                            refine K_iald (pc := 314) (i := 175) rfl S_197 (by omega) (by omega) (by decide) ?_
                                            refine K_any (fun v314 r314 => ?_)
                                            refine K_iast (pc := 315) (i := 176) rfl S_197 (by omega) (by omega) (by decide) ?_
                                            have hI := st_free (c := 197) hI (by decide +kernel) (by decide) (i := (x7).toNat) (v := v314)
                                            have fx := Fx.st (c := 197) (i := (x7).toNat) (v := v314) fx (by first | (dsimp only; omega) | omega | exact not_false)
                                            refine K_inc (pc := 316) (i := 177) (q := 7) (lo' := [(0, _), (1, _), (2, _), (3, _), (4, _), (5, _), (6, _), (7, _), (8, _)]) rfl rfl rfl rfl rfl ?_
                                            refine K_goto 227 (pc := 319) (i := 178) rfl rfl ?_
                                            refine K_drop (lo' := [(0, .ref (G.2.2.2 184)), (1, kI v9), (2, kI x2), (3, kI (x3 + 0)), (4, kI x4), (5, kI x5), (6, kI x6), (7, kI (x7 + 1))]) [0, 1, 2, 3, 4, 5, 6, 7] rfl ?_
                                            exact ih227 (x7 + 1) _ (by omega) hI fx ⟨by omega, ((kU_c _ _ _ _ (by decide)).trans (kU_c _ _ _ _ (by decide))).trans hV227.2⟩
                                          · skip
                                            refine K_iload (pc := 303) (i := 170) rfl rfl ?_
                                            refine K_goto 315 (pc := 305) (i := 171) rfl rfl ?_
                                            refine K_iast (pc := 315) (i := 176) rfl S_197 (by omega) (by omega) (by decide) ?_
                                            have hI := st_free (c := 197) hI (by decide +kernel) (by decide) (i := (x7).toNat) (v := v251)
                                            have fx := Fx.st (c := 197) (i := (x7).toNat) (v := v251) fx (by first | (dsimp only; omega) | omega | exact not_false)
                                            refine K_inc (pc := 316) (i := 177) (q := 7) (lo' := [(0, _), (1, _), (2, _), (3, _), (4, _), (5, _), (6, _), (7, _), (8, _)]) rfl rfl rfl rfl rfl ?_
                                            refine K_goto 227 (pc := 319) (i := 178) rfl rfl ?_
                                            refine K_drop (lo' := [(0, .ref (G.2.2.2 184)), (1, kI v9), (2, kI x2), (3, kI (x3 + 0)), (4, kI x4), (5, kI x5), (6, kI x6), (7, kI (x7 + 1))]) [0, 1, 2, 3, 4, 5, 6, 7] rfl ?_
                                            exact ih227 (x7 + 1) _ (by omega) hI fx ⟨by omega, ((kU_c _ _ _ _ (by decide)).trans (kU_c _ _ _ _ (by decide))).trans hV227.2⟩
                                        · skip
                                          refine K_iload (pc := 272) (i := 154) rfl rfl ?_
                                          refine K_goto 284 (pc := 274) (i := 155) rfl rfl ?_
                                          refine K_iast (pc := 284) (i := 160) rfl S_196 (by omega) (by omega) (by decide) ?_
                                          have hI := st_free (c := 196) hI (by decide +kernel) (by decide) (i := (x7).toNat) (v := v251)
                                          have fx := Fx.st (c := 196) (i := (x7).toNat) (v := v251) fx (by first | (dsimp only; omega) | omega | exact not_false)
                                          refine K_aload_n (pc := 285) (i := 161) rfl rfl ?_
                                          refine K_getR (pc := 286) (i := 162) (j := 21) (d := 197) rfl S_184 rfl (by decide) rfl fw_Model_47 ?_
                                          refine K_iload (pc := 289) (i := 163) rfl rfl ?_
                                          refine K_iload (pc := 291) (i := 164) rfl rfl ?_
                                          refine K_aload_n (pc := 293) (i := 165) rfl rfl ?_
                                          refine K_getR (pc := 294) (i := 166) (j := 21) (d := 197) rfl S_184 rfl (by decide) rfl fw_Model_47 ?_
                                          refine K_iload (pc := 297) (i := 167) rfl rfl ?_
                                          refine K_iald (pc := 299) (i := 168) rfl S_197 (by omega) (by omega) (by decide) ?_
                                          refine K_any (fun v299 r299 => ?_)
                                          first | refine K_icmp_le 308 (pc := 300) (i := 169) rfl rfl (by omega) (by omega) (fun b300 => ?_) (fun b300 => ?_) | refine K_icmp_le_an 308 (pc := 300) (i := 169) rfl rfl (fun b300 => ?_) (fun b300 => ?_)
                                          · skip
                                            refine K_aload_n (pc := 308) (i := 172) rfl rfl ?_
                                            refine K_getR (pc := 309) (i := 173) (j := 21) (d := 197) rfl S_184 rfl (by decide) rfl fw_Model_47 ?_
                                            refine K_iload (pc := 312) (i := 174) rfl rfl ?_
                                            refine K_iald (pc := 314) (i := 175) rfl S_197 (by omega) (by omega) (by decide) ?_
                                            refine K_any (fun v314 r314 => ?_)
                                            refine K_iast (pc := 315) (i := 176) rfl S_197 (by omega) (by omega) (by decide) ?_
                                            have hI := st_free (c := 197) hI (by decide +kernel) (by decide) (i := (x7).toNat) (v := v314)
                                            have fx := Fx.st (c := 197) (i := (x7).toNat) (v := v314) fx (by first | (dsimp only; omega) | omega | exact not_false)
                                            refine K_inc (pc := 316) (i := 177) (q := 7) (lo' := [(0, _), (1, _), (2, _), (3, _), (4, _), (5, _), (6, _), (7, _), (8, _)]) rfl rfl rfl rfl rfl ?_
                                            refine K_goto 227 (pc := 319) (i := 178) rfl rfl ?_
                                            refine K_drop (lo' := [(0, .ref (G.2.2.2 184)), (1, kI v9), (2, kI x2), (3, kI (x3 + 0)), (4, kI x4), (5, kI x5), (6, kI x6), (7, kI (x7 + 1))]) [0, 1, 2, 3, 4, 5, 6, 7] rfl ?_
                                            exact ih227 (x7 + 1) _ (by omega) hI fx ⟨by omega, ((kU_c _ _ _ _ (by decide)).trans (kU_c _ _ _ _ (by decide))).trans hV227.2⟩
                                          · skip
                                            refine K_iload (pc := 303) (i := 170) rfl rfl ?_
                                            refine K_goto 315 (pc := 305) (i := 171) rfl rfl ?_
                                            refine K_iast (pc := 315) (i := 176) rfl S_197 (by omega) (by omega) (by decide) ?_
                                            have hI := st_free (c := 197) hI (by decide +kernel) (by decide) (i := (x7).toNat) (v := v251)
                                            have fx := Fx.st (c := 197) (i := (x7).toNat) (v := v251) fx (by first | (dsimp only; omega) | omega | exact not_false)
                                            refine K_inc (pc := 316) (i := 177) (q := 7) (lo' := [(0, _), (1, _), (2, _), (3, _), (4, _), (5, _), (6, _), (7, _), (8, _)]) rfl rfl rfl rfl rfl ?_
                                            refine K_goto 227 (pc := 319) (i := 178) rfl rfl ?_
                                            refine K_drop (lo' := [(0, .ref (G.2.2.2 184)), (1, kI v9), (2, kI x2), (3, kI (x3 + 0)), (4, kI x4), (5, kI x5), (6, kI x6), (7, kI (x7 + 1))]) [0, 1, 2, 3, 4, 5, 6, 7] rfl ?_
                                            exact ih227 (x7 + 1) _ (by omega) hI fx ⟨by omega, ((kU_c _ _ _ _ (by decide)).trans (kU_c _ _ _ _ (by decide))).trans hV227.2⟩
                                exact L227 _ 0 _ (Nat.lt_succ_self _) hI fx ⟨by omega, rfl⟩
                              · skip
                                refine K_iconst (pc := 217) (i := 122) rfl ?_
                                refine K_goto 222 (pc := 218) (i := 123) rfl rfl ?_
                                refine K_iadd (pc := 222) (i := 125) rfl ?_
                                refine K_ist_n (pc := 223) (i := 126) (lo' := [(0, _), (1, _), (2, _), (3, _), (4, _), (5, _), (6, _), (7, _)]) rfl rfl rfl rfl ?_
                                refine K_iconst (pc := 224) (i := 127) rfl ?_
                                refine K_ist (pc := 225) (i := 128) (lo' := [(0, _), (1, _), (2, _), (3, _), (4, _), (5, _), (6, _), (7, _)]) rfl rfl rfl rfl ?_
                                have L227 : ∀ (n : Nat) (x7 : Int) (hd : kH), (4 - x7).toNat < n → (Gd g hd) → (Fx (fun c i => (c = 187 ∧ 40 ≤ i) ∨ c = 196 ∨ c = 197) h hd) → ((0 ≤ x7 ∧ x7 ≤ 4) ∧ hd 187 = hc 187) → K X_Model_layFits G (kZm G 3 (kQi (fun z h' => Fx (fun c i => (c = 187 ∧ 40 ≤ i) ∨ c = 196 ∨ c = 197) h h' ∧ (Gd g h' ∧ kR z)))) 227 [(0, .ref (G.2.2.2 184)), (1, kI v9), (2, kI x2), (3, kI (x3 + 1)), (4, kI x4), (5, kI x5), (6, kI x6), (7, kI x7)] [] hd := by
                                  intro n
                                  induction n with
                                  | zero => intro x7 hd hm; exact absurd hm (Nat.not_lt_zero _)
                                  | succ n ih227 =>
                                    intro x7 hd hm227 hI fx hV227
                                    refine K_iload (pc := 227) (i := 129) rfl rfl ?_
                                    refine K_iload_n (pc := 229) (i := 130) rfl rfl ?_
                                    first | refine K_icmp_ge 322 (pc := 230) (i := 131) rfl rfl (by omega) (by omega) (fun b230 => ?_) (fun b230 => ?_) | refine K_icmp_ge_an 322 (pc := 230) (i := 131) rfl rfl (fun b230 => ?_) (fun b230 => ?_)
                                    · skip
                                      refine K_inc (pc := 322) (i := 179) (q := 4) (lo' := [(0, _), (1, _), (2, _), (3, _), (4, _), (5, _), (6, _), (7, _)]) rfl rfl rfl rfl rfl ?_
                                      refine K_goto 61 (pc := 325) (i := 180) rfl rfl ?_
                                      refine K_drop (lo' := [(0, .ref (G.2.2.2 184)), (1, kI v9), (2, kI x2), (3, kI (x3 + 1)), (4, kI (x4 + 1))]) [0, 1, 2, 3, 4] rfl ?_
                                      exact ih61 (x3 + 1) (x4 + 1) _ (by omega) hI fx ⟨by omega, by rw [kap_of hV227.2]; exact hV74.2.2⟩
                                    · skip
                                      refine K_iload (pc := 233) (i := 132) rfl rfl ?_
                                      first | refine K_if_eq 322 (pc := 235) (i := 133) rfl rfl (by omega) (fun b235 => ?_) (fun b235 => ?_) | refine K_if_eq_an 322 (pc := 235) (i := 133) rfl rfl (fun b235 => ?_) (fun b235 => ?_)
                                      · skip
                                        refine K_inc (pc := 322) (i := 179) (q := 4) (lo' := [(0, _), (1, _), (2, _), (3, _), (4, _), (5, _), (6, _), (7, _)]) rfl rfl rfl rfl rfl ?_
                                        refine K_goto 61 (pc := 325) (i := 180) rfl rfl ?_
                                        refine K_drop (lo' := [(0, .ref (G.2.2.2 184)), (1, kI v9), (2, kI x2), (3, kI (x3 + 1)), (4, kI (x4 + 1))]) [0, 1, 2, 3, 4] rfl ?_
                                        exact ih61 (x3 + 1) (x4 + 1) _ (by omega) hI fx ⟨by omega, by rw [kap_of hV227.2]; exact hV74.2.2⟩
                                      · skip
                                        refine K_aload_n (pc := 238) (i := 134) rfl rfl ?_
                                        refine K_getR (pc := 239) (i := 135) (j := 3) (d := 187) rfl S_184 rfl (by decide) rfl fw_Model_16 ?_
                                        refine K_bipush (pc := 242) (i := 136) rfl rfl ?_
                                        refine K_iconst (pc := 244) (i := 137) rfl ?_
                                        refine K_iload (pc := 245) (i := 138) rfl rfl ?_
                                        refine K_imul (pc := 247) (i := 139) rfl ?_
                                        refine K_iadd (pc := 248) (i := 140) rfl ?_
                                        refine K_iconst (pc := 249) (i := 141) rfl ?_
                                        refine K_iadd (pc := 250) (i := 142) rfl ?_
                                        refine K_iald (pc := 251) (i := 143) rfl S_187 (by omega) (by omega) (by decide) ?_
                                        refine K_nm (fun v251 e251 => ?_)
                                        have r251 := (rd_mkites hI ((40 + (5 * x7)) + 3).toNat).2.1 (by omega)
                                        rw [← e251] at r251
                                        refine K_ist (pc := 252) (i := 144) (lo' := [(0, _), (1, _), (2, _), (3, _), (4, _), (5, _), (6, _), (7, _), (8, _)]) rfl rfl rfl rfl ?_
                                        refine K_aload_n (pc := 254) (i := 145) rfl rfl ?_
                                        refine K_getR (pc := 255) (i := 146) (j := 20) (d := 196) rfl S_184 rfl (by decide) rfl fw_Model_44 ?_
                                        refine K_iload (pc := 258) (i := 147) rfl rfl ?_
                                        refine K_iload (pc := 260) (i := 148) rfl rfl ?_
                                        refine K_aload_n (pc := 262) (i := 149) rfl rfl ?_
                                        refine K_getR (pc := 263) (i := 150) (j := 20) (d := 196) rfl S_184 rfl (by decide) rfl fw_Model_44 ?_
                                        refine K_iload (pc := 266) (i := 151) rfl rfl ?_
                                        refine K_iald (pc := 268) (i := 152) rfl S_196 (by omega) (by omega) (by decide) ?_
                                        refine K_any (fun v268 r268 => ?_)
                                        first | refine K_icmp_ge 277 (pc := 269) (i := 153) rfl rfl (by omega) (by omega) (fun b269 => ?_) (fun b269 => ?_) | refine K_icmp_ge_an 277 (pc := 269) (i := 153) rfl rfl (fun b269 => ?_) (fun b269 => ?_)
                                        · skip
                                          refine K_aload_n (pc := 277) (i := 156) rfl rfl ?_
                                          refine K_getR (pc := 278) (i := 157) (j := 20) (d := 196) rfl S_184 rfl (by decide) rfl fw_Model_44 ?_
                                          refine K_iload (pc := 281) (i := 158) rfl rfl ?_
                                          refine K_iald (pc := 283) (i := 159) rfl S_196 (by omega) (by omega) (by decide) ?_
                                          refine K_any (fun v283 r283 => ?_)
                                          refine K_iast (pc := 284) (i := 160) rfl S_196 (by omega) (by omega) (by decide) ?_
                                          have hI := st_free (c := 196) hI (by decide +kernel) (by decide) (i := (x7).toNat) (v := v283)
                                          have fx := Fx.st (c := 196) (i := (x7).toNat) (v := v283) fx (by first | (dsimp only; omega) | omega | exact not_false)
                                          refine K_aload_n (pc := 285) (i := 161) rfl rfl ?_
                                          refine K_getR (pc := 286) (i := 162) (j := 21) (d := 197) rfl S_184 rfl (by decide) rfl fw_Model_47 ?_
                                          refine K_iload (pc := 289) (i := 163) rfl rfl ?_
                                          refine K_iload (pc := 291) (i := 164) rfl rfl ?_
                                          refine K_aload_n (pc := 293) (i := 165) rfl rfl ?_
                                          refine K_getR (pc := 294) (i := 166) (j := 21) (d := 197) rfl S_184 rfl (by decide) rfl fw_Model_47 ?_
                                          refine K_iload (pc := 297) (i := 167) rfl rfl ?_
                                          refine K_iald (pc := 299) (i := 168) rfl S_197 (by omega) (by omega) (by decide) ?_
                                          refine K_any (fun v299 r299 => ?_)
                                          first | refine K_icmp_le 308 (pc := 300) (i := 169) rfl rfl (by omega) (by omega) (fun b300 => ?_) (fun b300 => ?_) | refine K_icmp_le_an 308 (pc := 300) (i := 169) rfl rfl (fun b300 => ?_) (fun b300 => ?_)
                                          · skip
                                            refine K_aload_n (pc := 308) (i := 172) rfl rfl ?_
                                            refine K_getR (pc := 309) (i := 173) (j := 21) (d := 197) rfl S_184 rfl (by decide) rfl fw_Model_47 ?_
                                            refine K_iload (pc := 312) (i := 174) rfl rfl ?_
                                            refine K_iald (pc := 314) (i := 175) rfl S_197 (by omega) (by omega) (by decide) ?_
                                            refine K_any (fun v314 r314 => ?_)
                                            refine K_iast (pc := 315) (i := 176) rfl S_197 (by omega) (by omega) (by decide) ?_
                                            have hI := st_free (c := 197) hI (by decide +kernel) (by decide) (i := (x7).toNat) (v := v314)
                                            have fx := Fx.st (c := 197) (i := (x7).toNat) (v := v314) fx (by first | (dsimp only; omega) | omega | exact not_false)
                                            refine K_inc (pc := 316) (i := 177) (q := 7) (lo' := [(0, _), (1, _), (2, _), (3, _), (4, _), (5, _), (6, _), (7, _), (8, _)]) rfl rfl rfl rfl rfl ?_
                                            refine K_goto 227 (pc := 319) (i := 178) rfl rfl ?_
                                            refine K_drop (lo' := [(0, .ref (G.2.2.2 184)), (1, kI v9), (2, kI x2), (3, kI (x3 + 1)), (4, kI x4), (5, kI x5), (6, kI x6), (7, kI (x7 + 1))]) [0, 1, 2, 3, 4, 5, 6, 7] rfl ?_
                                            exact ih227 (x7 + 1) _ (by omega) hI fx ⟨by omega, ((kU_c _ _ _ _ (by decide)).trans (kU_c _ _ _ _ (by decide))).trans hV227.2⟩
                                          · skip
                                            refine K_iload (pc := 303) (i := 170) rfl rfl ?_
                                            refine K_goto 315 (pc := 305) (i := 171) rfl rfl ?_
                                            refine K_iast (pc := 315) (i := 176) rfl S_197 (by omega) (by omega) (by decide) ?_
                                            have hI := st_free (c := 197) hI (by decide +kernel) (by decide) (i := (x7).toNat) (v := v251)
                                            have fx := Fx.st (c := 197) (i := (x7).toNat) (v := v251) fx (by first | (dsimp only; omega) | omega | exact not_false)
                                            refine K_inc (pc := 316) (i := 177) (q := 7) (lo' := [(0, _), (1, _), (2, _), (3, _), (4, _), (5, _), (6, _), (7, _), (8, _)]) rfl rfl rfl rfl rfl ?_
                                            refine K_goto 227 (pc := 319) (i := 178) rfl rfl ?_
                                            refine K_drop (lo' := [(0, .ref (G.2.2.2 184)), (1, kI v9), (2, kI x2), (3, kI (x3 + 1)), (4, kI x4), (5, kI x5), (6, kI x6), (7, kI (x7 + 1))]) [0, 1, 2, 3, 4, 5, 6, 7] rfl ?_
                                            exact ih227 (x7 + 1) _ (by omega) hI fx ⟨by omega, ((kU_c _ _ _ _ (by decide)).trans (kU_c _ _ _ _ (by decide))).trans hV227.2⟩
                                        · skip
                                          refine K_iload (pc := 272) (i := 154) rfl rfl ?_
                                          refine K_goto 284 (pc := 274) (i := 155) rfl rfl ?_
                                          refine K_iast (pc := 284) (i := 160) rfl S_196 (by omega) (by omega) (by decide) ?_
                                          have hI := st_free (c := 196) hI (by decide +kernel) (by decide) (i := (x7).toNat) (v := v251)
                                          have fx := Fx.st (c := 196) (i := (x7).toNat) (v := v251) fx (by first | (dsimp only; omega) | omega | exact not_false)
                                          refine K_aload_n (pc := 285) (i := 161) rfl rfl ?_
                                          refine K_getR (pc := 286) (i := 162) (j := 21) (d := 197) rfl S_184 rfl (by decide) rfl fw_Model_47 ?_
                                          refine K_iload (pc := 289) (i := 163) rfl rfl ?_
                                          refine K_iload (pc := 291) (i := 164) rfl rfl ?_
                                          refine K_aload_n (pc := 293) (i := 165) rfl rfl ?_
                                          refine K_getR (pc := 294) (i := 166) (j := 21) (d := 197) rfl S_184 rfl (by decide) rfl fw_Model_47 ?_
                                          refine K_iload (pc := 297) (i := 167) rfl rfl ?_
                                          refine K_iald (pc := 299) (i := 168) rfl S_197 (by omega) (by omega) (by decide) ?_
                                          refine K_any (fun v299 r299 => ?_)
                                          first | refine K_icmp_le 308 (pc := 300) (i := 169) rfl rfl (by omega) (by omega) (fun b300 => ?_) (fun b300 => ?_) | refine K_icmp_le_an 308 (pc := 300) (i := 169) rfl rfl (fun b300 => ?_) (fun b300 => ?_)
                                          · skip
                                            refine K_aload_n (pc := 308) (i := 172) rfl rfl ?_
                                            refine K_getR (pc := 309) (i := 173) (j := 21) (d := 197) rfl S_184 rfl (by decide) rfl fw_Model_47 ?_
                                            refine K_iload (pc := 312) (i := 174) rfl rfl ?_
                                            refine K_iald (pc := 314) (i := 175) rfl S_197 (by omega) (by omega) (by decide) ?_
                                            refine K_any (fun v314 r314 => ?_)
                                            refine K_iast (pc := 315) (i := 176) rfl S_197 (by omega) (by omega) (by decide) ?_
                                            have hI := st_free (c := 197) hI (by decide +kernel) (by decide) (i := (x7).toNat) (v := v314)
                                            have fx := Fx.st (c := 197) (i := (x7).toNat) (v := v314) fx (by first | (dsimp only; omega) | omega | exact not_false)
                                            refine K_inc (pc := 316) (i := 177) (q := 7) (lo' := [(0, _), (1, _), (2, _), (3, _), (4, _), (5, _), (6, _), (7, _), (8, _)]) rfl rfl rfl rfl rfl ?_
                                            refine K_goto 227 (pc := 319) (i := 178) rfl rfl ?_
                                            refine K_drop (lo' := [(0, .ref (G.2.2.2 184)), (1, kI v9), (2, kI x2), (3, kI (x3 + 1)), (4, kI x4), (5, kI x5), (6, kI x6), (7, kI (x7 + 1))]) [0, 1, 2, 3, 4, 5, 6, 7] rfl ?_
                                            exact ih227 (x7 + 1) _ (by omega) hI fx ⟨by omega, ((kU_c _ _ _ _ (by decide)).trans (kU_c _ _ _ _ (by decide))).trans hV227.2⟩
                                          · skip
                                            refine K_iload (pc := 303) (i := 170) rfl rfl ?_
                                            refine K_goto 315 (pc := 305) (i := 171) rfl rfl ?_
                                            refine K_iast (pc := 315) (i := 176) rfl S_197 (by omega) (by omega) (by decide) ?_
                                            have hI := st_free (c := 197) hI (by decide +kernel) (by decide) (i := (x7).toNat) (v := v251)
                                            have fx := Fx.st (c := 197) (i := (x7).toNat) (v := v251) fx (by first | (dsimp only; omega) | omega | exact not_false)
                                            refine K_inc (pc := 316) (i := 177) (q := 7) (lo' := [(0, _), (1, _), (2, _), (3, _), (4, _), (5, _), (6, _), (7, _), (8, _)]) rfl rfl rfl rfl rfl ?_
                                            refine K_goto 227 (pc := 319) (i := 178) rfl rfl ?_
                                            refine K_drop (lo' := [(0, .ref (G.2.2.2 184)), (1, kI v9), (2, kI x2), (3, kI (x3 + 1)), (4, kI x4), (5, kI x5), (6, kI x6), (7, kI (x7 + 1))]) [0, 1, 2, 3, 4, 5, 6, 7] rfl ?_
                                            exact ih227 (x7 + 1) _ (by omega) hI fx ⟨by omega, ((kU_c _ _ _ _ (by decide)).trans (kU_c _ _ _ _ (by decide))).trans hV227.2⟩
                                exact L227 _ 0 _ (Nat.lt_succ_self _) hI fx ⟨by omega, rfl⟩
                            · skip
                              refine K_aload_n (pc := 134) (i := 79) rfl rfl ?_
                              refine K_getR (pc := 135) (i := 80) (j := 17) (d := 193) rfl S_184 rfl (by decide) rfl fw_Model_34 ?_
                              refine K_iload (pc := 138) (i := 81) rfl rfl ?_
                              refine K_iald (pc := 140) (i := 82) rfl S_193 (by omega) (by omega) (by decide) ?_
                              refine K_nm (fun v140 e140 => ?_)
                              have r140 := rd_mseenone hI (x7).toNat
                              rw [← e140] at r140
                              refine K_iload_n (pc := 141) (i := 83) rfl rfl ?_
                              first | refine K_icmp_ge 160 (pc := 142) (i := 84) rfl rfl (by omega) (by omega) (fun b142 => ?_) (fun b142 => ?_) | refine K_icmp_ge_an 160 (pc := 142) (i := 84) rfl rfl (fun b142 => ?_) (fun b142 => ?_)
                              · skip
                                refine K_iconst (pc := 160) (i := 93) rfl ?_
                                refine K_ist (pc := 161) (i := 94) (lo' := [(0, _), (1, _), (2, _), (3, _), (4, _), (5, _), (6, _), (7, _), (8, _)]) rfl rfl rfl rfl ?_
                                refine K_iload (pc := 163) (i := 95) rfl rfl ?_
                                refine K_if_eq 198 (pc := 165) (i := 96) rfl rfl (by omega) (fun _ => ?_) (fun b165 => False.elim (by omega))
                                refine K_iconst (pc := 198) (i := 113) rfl ?_
                                refine K_goto 203 (pc := 199) (i := 114) rfl rfl ?_
                                refine K_ist (pc := 203) (i := 116) (lo' := [(0, _), (1, _), (2, _), (3, _), (4, _), (5, _), (6, _), (7, _), (8, _)]) rfl rfl rfl rfl ?_
                                refine K_inc (pc := 205) (i := 117) (q := 7) (lo' := [(0, _), (1, _), (2, _), (3, _), (4, _), (5, _), (6, _), (7, _), (8, _)]) rfl rfl rfl rfl rfl ?_
                                refine K_goto 120 (pc := 208) (i := 118) rfl rfl ?_
                                refine K_drop (lo' := [(0, .ref (G.2.2.2 184)), (1, kI v9), (2, kI x2), (3, kI x3), (4, kI x4), (5, kI x5), (6, kI 1), (7, kI (x7 + 1))]) [0, 1, 2, 3, 4, 5, 6, 7] rfl ?_
                                exact ih120 1 (x7 + 1) (by omega) (by omega)
                              · skip
                                refine K_aload_n (pc := 145) (i := 85) rfl rfl ?_
                                refine K_getR (pc := 146) (i := 86) (j := 18) (d := 194) rfl S_184 rfl (by decide) rfl fw_Model_37 ?_
                                refine K_iload (pc := 149) (i := 87) rfl rfl ?_
                                refine K_iald (pc := 151) (i := 88) rfl S_194 (by omega) (by omega) (by decide) ?_
                                refine K_nm (fun v151 e151 => ?_)
                                have r151 := rd_mseenother hI (x7).toNat
                                rw [← e151] at r151
                                refine K_iload_n (pc := 152) (i := 89) rfl rfl ?_
                                first | refine K_icmp_ge 160 (pc := 153) (i := 90) rfl rfl (by omega) (by omega) (fun b153 => ?_) (fun b153 => ?_) | refine K_icmp_ge_an 160 (pc := 153) (i := 90) rfl rfl (fun b153 => ?_) (fun b153 => ?_)
                                · skip
                                  refine K_iconst (pc := 160) (i := 93) rfl ?_
                                  refine K_ist (pc := 161) (i := 94) (lo' := [(0, _), (1, _), (2, _), (3, _), (4, _), (5, _), (6, _), (7, _), (8, _)]) rfl rfl rfl rfl ?_
                                  refine K_iload (pc := 163) (i := 95) rfl rfl ?_
                                  refine K_if_eq 198 (pc := 165) (i := 96) rfl rfl (by omega) (fun _ => ?_) (fun b165 => False.elim (by omega))
                                  refine K_iconst (pc := 198) (i := 113) rfl ?_
                                  refine K_goto 203 (pc := 199) (i := 114) rfl rfl ?_
                                  refine K_ist (pc := 203) (i := 116) (lo' := [(0, _), (1, _), (2, _), (3, _), (4, _), (5, _), (6, _), (7, _), (8, _)]) rfl rfl rfl rfl ?_
                                  refine K_inc (pc := 205) (i := 117) (q := 7) (lo' := [(0, _), (1, _), (2, _), (3, _), (4, _), (5, _), (6, _), (7, _), (8, _)]) rfl rfl rfl rfl rfl ?_
                                  refine K_goto 120 (pc := 208) (i := 118) rfl rfl ?_
                                  refine K_drop (lo' := [(0, .ref (G.2.2.2 184)), (1, kI v9), (2, kI x2), (3, kI x3), (4, kI x4), (5, kI x5), (6, kI 1), (7, kI (x7 + 1))]) [0, 1, 2, 3, 4, 5, 6, 7] rfl ?_
                                  exact ih120 1 (x7 + 1) (by omega) (by omega)
                                · skip
                                  refine K_iconst (pc := 156) (i := 91) rfl ?_
                                  refine K_goto 161 (pc := 157) (i := 92) rfl rfl ?_
                                  refine K_ist (pc := 161) (i := 94) (lo' := [(0, _), (1, _), (2, _), (3, _), (4, _), (5, _), (6, _), (7, _), (8, _)]) rfl rfl rfl rfl ?_
                                  refine K_iload (pc := 163) (i := 95) rfl rfl ?_
                                  refine K_if_eq 198 (pc := 165) (i := 96) rfl rfl (by omega) (fun b165 => False.elim (by omega)) (fun _ => ?_)
                                  refine K_aload_n (pc := 168) (i := 97) rfl rfl ?_
                                  refine K_bipush (pc := 169) (i := 98) rfl rfl ?_
                                  refine K_aload_n (pc := 171) (i := 99) rfl rfl ?_
                                  refine K_getR (pc := 172) (i := 100) (j := 17) (d := 193) rfl S_184 rfl (by decide) rfl fw_Model_34 ?_
                                  refine K_iload (pc := 175) (i := 101) rfl rfl ?_
                                  refine K_iald (pc := 177) (i := 102) rfl S_193 (by omega) (by omega) (by decide) ?_
                                  refine K_nm (fun v177 e177 => ?_)
                                  have r177 := rd_mseenone hI (x7).toNat
                                  rw [← e177] at r177
                                  refine K_aload_n (pc := 178) (i := 103) rfl rfl ?_
                                  refine K_getR (pc := 179) (i := 104) (j := 18) (d := 194) rfl S_184 rfl (by decide) rfl fw_Model_37 ?_
                                  refine K_iload (pc := 182) (i := 105) rfl rfl ?_
                                  refine K_iald (pc := 184) (i := 106) rfl S_194 (by omega) (by omega) (by decide) ?_
                                  refine K_nm (fun v184 e184 => ?_)
                                  have r184 := rd_mseenother hI (x7).toNat
                                  rw [← e184] at r184
                                  refine K_cVI (pc := 185) (i := 107) rfl (c_Model_doCross G (x1 := 40) (x2 := v177) (x3 := v184) (hk := hV74.2.2) (hI := hI) (hn := by omega) (s1 := by omega) (s2 := by omega) (s3 := by omega)) S_184 rfl (lv_Model_137 rfl) rfl rfl rfl rfl rfl (fun v185 h185 q185 => ?_)
                                  obtain ⟨eh, r185⟩ := q185
                                  rw [eh]; clear eh
                                  refine K_aload_n (pc := 188) (i := 108) rfl rfl ?_
                                  refine K_getR (pc := 189) (i := 109) (j := 19) (d := 195) rfl S_184 rfl (by decide) rfl fw_Model_40 ?_
                                  refine K_iload (pc := 192) (i := 110) rfl rfl ?_
                                  refine K_bald (pc := 194) (i := 111) rfl S_195 (by omega) (by omega) (by decide) ?_
                                  refine K_nm (fun v194 e194 => ?_)
                                  have r194 := rd_seenCross hI (x7).toNat
                                  rw [← e194] at r194
                                  first | refine K_icmp_ne 202 (pc := 195) (i := 112) rfl rfl (by omega) (by omega) (fun b195 => ?_) (fun b195 => ?_) | refine K_icmp_ne_an 202 (pc := 195) (i := 112) rfl rfl (fun b195 => ?_) (fun b195 => ?_)
                                  · skip
                                    refine K_iconst (pc := 202) (i := 115) rfl ?_
                                    refine K_ist (pc := 203) (i := 116) (lo' := [(0, _), (1, _), (2, _), (3, _), (4, _), (5, _), (6, _), (7, _), (8, _)]) rfl rfl rfl rfl ?_
                                    refine K_inc (pc := 205) (i := 117) (q := 7) (lo' := [(0, _), (1, _), (2, _), (3, _), (4, _), (5, _), (6, _), (7, _), (8, _)]) rfl rfl rfl rfl rfl ?_
                                    refine K_goto 120 (pc := 208) (i := 118) rfl rfl ?_
                                    refine K_drop (lo' := [(0, .ref (G.2.2.2 184)), (1, kI v9), (2, kI x2), (3, kI x3), (4, kI x4), (5, kI x5), (6, kI 0), (7, kI (x7 + 1))]) [0, 1, 2, 3, 4, 5, 6, 7] rfl ?_
                                    exact ih120 0 (x7 + 1) (by omega) (by omega)
                                  · skip
                                    refine K_iconst (pc := 198) (i := 113) rfl ?_
                                    refine K_goto 203 (pc := 199) (i := 114) rfl rfl ?_
                                    refine K_ist (pc := 203) (i := 116) (lo' := [(0, _), (1, _), (2, _), (3, _), (4, _), (5, _), (6, _), (7, _), (8, _)]) rfl rfl rfl rfl ?_
                                    refine K_inc (pc := 205) (i := 117) (q := 7) (lo' := [(0, _), (1, _), (2, _), (3, _), (4, _), (5, _), (6, _), (7, _), (8, _)]) rfl rfl rfl rfl rfl ?_
                                    refine K_goto 120 (pc := 208) (i := 118) rfl rfl ?_
                                    refine K_drop (lo' := [(0, .ref (G.2.2.2 184)), (1, kI v9), (2, kI x2), (3, kI x3), (4, kI x4), (5, kI x5), (6, kI 1), (7, kI (x7 + 1))]) [0, 1, 2, 3, 4, 5, 6, 7] rfl ?_
                                    exact ih120 1 (x7 + 1) (by omega) (by omega)
                      exact L120 _ 1 0 (Nat.lt_succ_self _) (by omega)
                    · skip
                      refine K_aload_n (pc := 80) (i := 48) rfl rfl ?_
                      refine K_getR (pc := 81) (i := 49) (j := 3) (d := 187) rfl S_184 rfl (by decide) rfl fw_Model_16 ?_
                      refine K_bipush (pc := 84) (i := 50) rfl rfl ?_
                      refine K_iconst (pc := 86) (i := 51) rfl ?_
                      refine K_iload (pc := 87) (i := 52) rfl rfl ?_
                      refine K_imul (pc := 89) (i := 53) rfl ?_
                      refine K_iadd (pc := 90) (i := 54) rfl ?_
                      refine K_iconst (pc := 91) (i := 55) rfl ?_
                      refine K_iadd (pc := 92) (i := 56) rfl ?_
                      refine K_iconst (pc := 93) (i := 57) rfl ?_
                      refine K_iload (pc := 94) (i := 58) rfl rfl ?_
                      refine K_bipush (pc := 96) (i := 59) rfl rfl ?_
                      refine K_irem (pc := 98) (i := 60) rfl (by omega) (by omega) ?_
                      refine K_eq (kRem_eq (by omega) (by omega) (by omega) (by omega)) ?_
                      refine K_iadd (pc := 99) (i := 61) rfl ?_
                      refine K_iast (pc := 100) (i := 62) rfl S_187 (by omega) (by omega) (by decide) ?_
                      have hI := st_mkites hI (i := ((40 + (5 * x6)) + 3).toNat) (v := 1 + (x5 % 9)) (by unfold bK; omega) (fun _ a => a.hi (rd_many hI).2 (by omega))
                      have fx := Fx.st (c := 187) (i := ((40 + (5 * x6)) + 3).toNat) (v := 1 + (x5 % 9)) fx (by first | (dsimp only; omega) | omega | exact not_false)
                      have fk100 := FK.kH (o := 40) (i := ((40 + (5 * x6)) + 3).toNat) (v := 1 + (x5 % 9)) hV74.2.2 x6.toNat (by omega) (by omega)
                      refine K_iload (pc := 101) (i := 63) rfl rfl ?_
                      refine K_bipush (pc := 103) (i := 64) rfl rfl ?_
                      refine K_idiv (pc := 105) (i := 65) rfl (by omega) (by omega) ?_
                      refine K_eq (kDiv_eq (by omega) (by omega) (by omega) (by omega)) ?_
                      refine K_ist (pc := 106) (i := 66) (lo' := [(0, _), (1, _), (2, _), (3, _), (4, _), (5, _), (6, _)]) rfl rfl rfl rfl ?_
                      refine K_inc (pc := 108) (i := 67) (q := 6) (lo' := [(0, _), (1, _), (2, _), (3, _), (4, _), (5, _), (6, _)]) rfl rfl rfl rfl rfl ?_
                      refine K_goto 74 (pc := 111) (i := 68) rfl rfl ?_
                      exact ih74 (x5 / 9) (x6 + 1) _ (by omega) hI fx ⟨by omega, trivial, fk100⟩
                exact L74 _ x4 0 _ (Nat.lt_succ_self _) hI fx ⟨by omega, trivial, hV61.2⟩
          exact L61 _ 0 0 _ (Nat.lt_succ_self _) hI fx ⟨by omega, fk55⟩
        · skip
          refine K_iload_n (pc := 26) (i := 16) rfl rfl ?_
          refine K_bipush (pc := 27) (i := 17) rfl rfl ?_
          refine K_imul (pc := 29) (i := 18) rfl ?_
          refine K_ist_n (pc := 30) (i := 19) (lo' := [(0, _), (1, _), (2, _), (3, _)]) rfl rfl rfl rfl ?_
          refine K_aload_n (pc := 31) (i := 20) rfl rfl ?_
          refine K_getR (pc := 32) (i := 21) (j := 20) (d := 196) rfl S_184 rfl (by decide) rfl fw_Model_44 ?_
          refine K_iload_n (pc := 35) (i := 22) rfl rfl ?_
          refine K_bipush (pc := 36) (i := 23) rfl rfl ?_
          refine K_iast (pc := 38) (i := 24) rfl S_196 (by omega) (by omega) (by decide) ?_
          have hI := st_free (c := 196) hI (by decide +kernel) (by decide) (i := (x3).toNat) (v := 9)
          have fx := Fx.st (c := 196) (i := (x3).toNat) (v := 9) fx (by first | (dsimp only; omega) | omega | exact not_false)
          refine K_aload_n (pc := 39) (i := 25) rfl rfl ?_
          refine K_getR (pc := 40) (i := 26) (j := 21) (d := 197) rfl S_184 rfl (by decide) rfl fw_Model_47 ?_
          refine K_iload_n (pc := 43) (i := 27) rfl rfl ?_
          refine K_iconst (pc := 44) (i := 28) rfl ?_
          refine K_iast (pc := 45) (i := 29) rfl S_197 (by omega) (by omega) (by decide) ?_
          have hI := st_free (c := 197) hI (by decide +kernel) (by decide) (i := (x3).toNat) (v := 1)
          have fx := Fx.st (c := 197) (i := (x3).toNat) (v := 1) fx (by first | (dsimp only; omega) | omega | exact not_false)
          refine K_inc (pc := 46) (i := 30) (q := 3) (lo' := [(0, _), (1, _), (2, _), (3, _)]) rfl rfl rfl rfl rfl ?_
          refine K_goto 21 (pc := 49) (i := 31) rfl rfl ?_
          exact ih21 (x2 * 9) (x3 + 1) _ (by omega) hI fx (by omega)
    exact L21 _ 1 0 _ (Nat.lt_succ_self _) hI fx (by omega)
set_option maxHeartbeats 4000000 in
set_option maxRecDepth 100000 in
theorem c_Model_fits (G : kG) {g : kGh} {h : kH}  (hT : g.2.2.2.2) (hI : Gd g h) : Ctr G y_Model_fits X_Model_fits 13 [.ref (G.2.2.2 184)] h (kQi (fun z h' => Fx (fun c i => (c = 187 ∧ 40 ≤ i) ∨ c = 196 ∨ c = 197) h h' ∧ (Gd g h' ∧ True))) := by
  refine Ctr.ofK (by decide) rfl T_Model_fits (Nat.le_of_ble_eq_true rfl) (lo := [(0, .ref (G.2.2.2 184))]) rfl ?_
  have fx : Fx (fun c i => (c = 187 ∧ 40 ≤ i) ∨ c = 196 ∨ c = 197) h h := Fx.rf
  refine K_aload_n (pc := 0) (i := 0) rfl rfl ?_
  refine K_cVI (pc := 1) (i := 1) rfl (c_Model_layFits G (hT := hT) (hI := hI)) S_184 rfl (lv_Model_195 rfl) rfl rfl rfl rfl rfl (fun v1 h1 q1 => ?_)
  obtain ⟨fx1, q1⟩ := q1
  obtain ⟨hI, r1⟩ := q1
  have fx := fx.tr fx1 (fun c i q => (by first | (dsimp only at q ⊢; omega) | omega))
  exact K_retI (pc := 4) (i := 2) rfl rfl ⟨fx, ⟨hI, trivial⟩⟩
set_option maxHeartbeats 4000000 in
set_option maxRecDepth 100000 in
theorem c_Model_height (G : kG) {g : kGh} {h : kH}  (hT : g.2.2.2.2){x1 : Int} {x2 : Int} (s1 : kR x1) (s2 : kR x2) (hI : Gd g h) : Ctr G y_Model_height X_Model_height 13 [.ref (G.2.2.2 184), kI x1, kI x2] h (kQi (fun z h' => Fx (fun c i => (c = 187 ∧ 40 ≤ i) ∨ c = 196 ∨ c = 197) h h' ∧ (Gd g h' ∧ True))) := by
  refine Ctr.ofK (by decide) rfl T_Model_height (Nat.le_of_ble_eq_true rfl) (lo := [(0, .ref (G.2.2.2 184)), (1, kI x1), (2, kI x2)]) rfl ?_
  have fx : Fx (fun c i => (c = 187 ∧ 40 ≤ i) ∨ c = 196 ∨ c = 197) h h := Fx.rf
  refine K_aload_n (pc := 0) (i := 0) rfl rfl ?_
  refine K_iload_n (pc := 1) (i := 1) rfl rfl ?_
  refine K_cVI (pc := 2) (i := 2) rfl (c_Model_isKite G (x1 := x1) (hI := hI) (s1 := by omega)) S_184 rfl (lv_Model_102 rfl) rfl rfl rfl rfl rfl (fun v2 h2 q2 => ?_)
  obtain ⟨eh, r2⟩ := q2
  rw [eh]; clear eh
  first | refine K_if_eq 13 (pc := 5) (i := 3) rfl rfl (by omega) (fun b5 => ?_) (fun b5 => ?_) | refine K_if_eq_an 13 (pc := 5) (i := 3) rfl rfl (fun b5 => ?_) (fun b5 => ?_)
  · skip
    refine K_iconst (pc := 13) (i := 7) rfl ?_
    exact K_retI (pc := 14) (i := 8) rfl rfl ⟨fx, ⟨hI, trivial⟩⟩
  · skip
    refine K_iload_n (pc := 8) (i := 4) rfl rfl ?_
    refine K_iconst (pc := 9) (i := 5) rfl ?_
    first | refine K_icmp_le 15 (pc := 10) (i := 6) rfl rfl (by omega) (by omega) (fun b10 => ?_) (fun b10 => ?_) | refine K_icmp_le_an 15 (pc := 10) (i := 6) rfl rfl (fun b10 => ?_) (fun b10 => ?_)
    · skip
      refine K_aload_n (pc := 15) (i := 9) rfl rfl ?_
      refine K_cVI (pc := 16) (i := 10) rfl (c_Model_layFits G (hT := hT) (hI := hI)) S_184 rfl (lv_Model_195 rfl) rfl rfl rfl rfl rfl (fun v16 h16 q16 => ?_)
      obtain ⟨fx16, q16⟩ := q16
      obtain ⟨hI, r16⟩ := q16
      have fx := fx.tr fx16 (fun c i q => (by first | (dsimp only at q ⊢; omega) | omega))
      first | refine K_if_ne 27 (pc := 19) (i := 11) rfl rfl (by omega) (fun b19 => ?_) (fun b19 => ?_) | refine K_if_ne_an 27 (pc := 19) (i := 11) rfl rfl (fun b19 => ?_) (fun b19 => ?_)
      · skip
        refine K_iload_n (pc := 27) (i := 14) rfl rfl ?_
        first | refine K_if_eq 40 (pc := 28) (i := 15) rfl rfl (by omega) (fun b28 => ?_) (fun b28 => ?_) | refine K_if_eq_an 40 (pc := 28) (i := 15) rfl rfl (fun b28 => ?_) (fun b28 => ?_)
        · skip
          refine K_aload_n (pc := 40) (i := 21) rfl rfl ?_
          refine K_getR (pc := 41) (i := 22) (j := 20) (d := 196) rfl S_184 rfl (by decide) rfl fw_Model_44 ?_
          refine K_iload_n (pc := 44) (i := 23) rfl rfl ?_
          refine K_iald (pc := 45) (i := 24) rfl S_196 (by omega) (by omega) (by decide) ?_
          refine K_any (fun v45 r45 => ?_)
          exact K_retI (pc := 46) (i := 25) rfl rfl ⟨fx, ⟨hI, trivial⟩⟩
        · skip
          refine K_aload_n (pc := 31) (i := 16) rfl rfl ?_
          refine K_getR (pc := 32) (i := 17) (j := 21) (d := 197) rfl S_184 rfl (by decide) rfl fw_Model_47 ?_
          refine K_iload_n (pc := 35) (i := 18) rfl rfl ?_
          refine K_iald (pc := 36) (i := 19) rfl S_197 (by omega) (by omega) (by decide) ?_
          refine K_any (fun v36 r36 => ?_)
          refine K_goto 46 (pc := 37) (i := 20) rfl rfl ?_
          exact K_retI (pc := 46) (i := 25) rfl rfl ⟨fx, ⟨hI, trivial⟩⟩
      · skip
        refine K_bipush (pc := 22) (i := 12) rfl rfl ?_
        refine K_goto 46 (pc := 24) (i := 13) rfl rfl ?_
        exact K_retI (pc := 46) (i := 25) rfl rfl ⟨fx, ⟨hI, trivial⟩⟩
    · skip
      refine K_iconst (pc := 13) (i := 7) rfl ?_
      exact K_retI (pc := 14) (i := 8) rfl rfl ⟨fx, ⟨hI, trivial⟩⟩
