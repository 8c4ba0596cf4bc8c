theorem nw_Acts (ad : Nat → Nat) : ∀ j, j < 3 → defaultValue (kTy 0 j) = vp_V (([2, 0, 0] : List Nat).map (bFv ad)) j := by
  intro j hj
  rcases (show j = 0 ∨ j = 1 ∨ j = 2 by omega) with rfl | rfl | rfl <;> rfl
theorem nw_Fleet (ad : Nat → Nat) : ∀ j, j < 7 → defaultValue (kTy 1 j) = vp_V (([2, 2, 2, 2, 2, 2, 0] : List Nat).map (bFv ad)) j := by
  intro j hj
  rcases (show j = 0 ∨ j = 1 ∨ j = 2 ∨ j = 3 ∨ j = 4 ∨ j = 5 ∨ j = 6 by omega) with rfl | rfl | rfl | rfl | rfl | rfl | rfl <;> rfl
theorem nw_Plans (ad : Nat → Nat) : ∀ j, j < 9 → defaultValue (kTy 2 j) = vp_V (([2, 2, 2, 2, 2, 2, 2, 2, 0] : List Nat).map (bFv ad)) j := by
  intro j hj
  rcases (show j = 0 ∨ j = 1 ∨ j = 2 ∨ j = 3 ∨ j = 4 ∨ j = 5 ∨ j = 6 ∨ j = 7 ∨ j = 8 by omega) with rfl | rfl | rfl | rfl | rfl | rfl | rfl | rfl | rfl <;> rfl
theorem nw_Seen (ad : Nat → Nat) : ∀ j, j < 7 → defaultValue (kTy 3 j) = vp_V (([2, 2, 2, 2, 2, 2, 0] : List Nat).map (bFv ad)) j := by
  intro j hj
  rcases (show j = 0 ∨ j = 1 ∨ j = 2 ∨ j = 3 ∨ j = 4 ∨ j = 5 ∨ j = 6 by omega) with rfl | rfl | rfl | rfl | rfl | rfl | rfl <;> rfl
theorem nw_Sky (ad : Nat → Nat) : ∀ j, j < 3 → defaultValue (kTy 4 j) = vp_V (([2, 2, 2] : List Nat).map (bFv ad)) j := by
  intro j hj
  rcases (show j = 0 ∨ j = 1 ∨ j = 2 by omega) with rfl | rfl | rfl <;> rfl
theorem nw_Slot (ad : Nat → Nat) : ∀ j, j < 2 → defaultValue (kTy 5 j) = vp_V (([2, 0] : List Nat).map (bFv ad)) j := by
  intro j hj
  rcases (show j = 0 ∨ j = 1 by omega) with rfl | rfl <;> rfl
theorem nw_Tangle (ad : Nat → Nat) : ∀ j, j < 1 → defaultValue (kTy 6 j) = vp_V (([2] : List Nat).map (bFv ad)) j := by
  intro j hj
  rcases (show j = 0 by omega) with rfl <;> rfl
theorem nw_Text (ad : Nat → Nat) : ∀ j, j < 2 → defaultValue (kTy 7 j) = vp_V (([2, 0] : List Nat).map (bFv ad)) j := by
  intro j hj
  rcases (show j = 0 ∨ j = 1 by omega) with rfl | rfl <;> rfl
theorem nw_War (ad : Nat → Nat) : ∀ j, j < 9 → defaultValue (kTy 8 j) = vp_V (([2, 2, 2, 2, 2, 2, 2, 2, 1] : List Nat).map (bFv ad)) j := by
  intro j hj
  rcases (show j = 0 ∨ j = 1 ∨ j = 2 ∨ j = 3 ∨ j = 4 ∨ j = 5 ∨ j = 6 ∨ j = 7 ∨ j = 8 by omega) with rfl | rfl | rfl | rfl | rfl | rfl | rfl | rfl | rfl <;> rfl
theorem nw_Model (ad : Nat → Nat) : ∀ j, j < 26 → defaultValue (kTy 9 j) = vp_V (([2, 0, 2, 2, 0, 2, 2, 2, 0, 0, 0, 0, 0, 2, 2, 0, 0, 2, 2, 2, 2, 2, 1, 2, 2, 2] : List Nat).map (bFv ad)) j := by
  intro j hj
  rcases (show j = 0 ∨ j = 1 ∨ j = 2 ∨ j = 3 ∨ j = 4 ∨ j = 5 ∨ j = 6 ∨ j = 7 ∨ j = 8 ∨ j = 9 ∨ j = 10 ∨ j = 11 ∨ j = 12 ∨ j = 13 ∨ j = 14 ∨ j = 15 ∨ j = 16 ∨ j = 17 ∨ j = 18 ∨ j = 19 ∨ j = 20 ∨ j = 21 ∨ j = 22 ∨ j = 23 ∨ j = 24 ∨ j = 25 by omega) with rfl | rfl | rfl | rfl | rfl | rfl | rfl | rfl | rfl | rfl | rfl | rfl | rfl | rfl | rfl | rfl | rfl | rfl | rfl | rfl | rfl | rfl | rfl | rfl | rfl | rfl <;> rfl
def BFleet_0 : bS := [(1, [2, 2, 2, 2, 2, 2, 0])]
def BFleet_1 : bS := [(1, [2, 2, 2, 2, 2, 2, 0]), (10, [8])]
def BFleet_2 : bS := [(1, [4, 2, 2, 2, 2, 2, 0]), (10, [8])]
def BFleet_3 : bS := [(1, [4, 2, 2, 2, 2, 2, 0]), (10, [8]), (10, [8])]
def BFleet_4 : bS := [(1, [4, 5, 2, 2, 2, 2, 0]), (10, [8]), (10, [8])]
def BFleet_5 : bS := [(1, [4, 5, 2, 2, 2, 2, 0]), (10, [8]), (10, [8]), (10, [8])]
def BFleet_6 : bS := [(1, [4, 5, 6, 2, 2, 2, 0]), (10, [8]), (10, [8]), (10, [8])]
def BFleet_7 : bS := [(1, [4, 5, 6, 2, 2, 2, 0]), (10, [8]), (10, [8]), (10, [8]), (10, [8])]
def BFleet_8 : bS := [(1, [4, 5, 6, 7, 2, 2, 0]), (10, [8]), (10, [8]), (10, [8]), (10, [8])]
def BFleet_9 : bS := [(1, [4, 5, 6, 7, 2, 2, 0]), (10, [8]), (10, [8]), (10, [8]), (10, [8]), (10, [8])]
def BFleet_10 : bS := [(1, [4, 5, 6, 7, 8, 2, 0]), (10, [8]), (10, [8]), (10, [8]), (10, [8]), (10, [8])]
def BFleet_11 : bS := [(1, [4, 5, 6, 7, 8, 2, 0]), (10, [8]), (10, [8]), (10, [8]), (10, [8]), (10, [8]), (10, [2])]
def BFleet_12 : bS := [(1, [4, 5, 6, 7, 8, 9, 0]), (10, [8]), (10, [8]), (10, [8]), (10, [8]), (10, [8]), (10, [2])]
def BFleet_13 : bS := [(1, [4, 5, 6, 7, 8, 9, 0]), (10, [8]), (10, [8]), (10, [8]), (10, [8]), (10, [8]), (10, [2])]
set_option maxHeartbeats 4000000 in
set_option maxRecDepth 100000 in
theorem cb_Fleet (G : bG) : CtB G y_Fleet_init X_Fleet_init 1 6 42 (1, [2, 2, 2, 2, 2, 2, 0]) BFleet_13 := by
  refine CtB.ofKB (by decide) rfl rfl T_Fleet_init (Nat.le_of_ble_eq_true rfl) rfl (fun a0 sz ad h0 => ?_)
  show KB _ _ _ _ _ _ _ _ BFleet_0 _ _
  refine KB_aload_n (pc := 0) (i := 0) rfl rfl ?_
  refine KB_objInit (pc := 1) (i := 1) rfl (List.mem_of_getElem? (i := 95) (by decide +kernel)) ⟨Nat.le_of_ble_eq_true rfl, Nat.le_of_ble_eq_true rfl⟩ (Nat.le_of_ble_eq_true rfl) ?_
  refine KB_aload_n (pc := 4) (i := 2) rfl rfl ?_
  refine KB_bipush (pc := 5) (i := 3) rfl rfl ?_
  refine KB_newI (pc := 7) (i := 4) (B := BFleet_0) (n := 1) (l := 8) rfl rfl (by decide) (by decide +kernel) (by decide +kernel) ⟨Nat.le_of_ble_eq_true rfl, Nat.le_of_ble_eq_true rfl⟩ (B' := BFleet_1) (by decide +kernel) (fun q7 ad7 hg7 hq7 => ?_)
  have h0 := (hg7 0 (by decide)).trans h0
  refine KB_putF (pc := 9) (i := 5) (B := BFleet_1) (j := 0) (d := 1) (by decide) rfl h0 hq7 rfl rfl (by decide) (by decide) rfl rfl ⟨"", Or.inr ⟨_, rfl⟩⟩ fw_Fleet_9 (B' := BFleet_2) (by decide +kernel) ?_
  refine KB_aload_n (pc := 12) (i := 6) rfl rfl ?_
  refine KB_bipush (pc := 13) (i := 7) rfl rfl ?_
  refine KB_newI (pc := 15) (i := 8) (B := BFleet_2) (n := 2) (l := 8) rfl rfl (by decide) (by decide +kernel) (by decide +kernel) ⟨Nat.le_of_ble_eq_true rfl, Nat.le_of_ble_eq_true rfl⟩ (B' := BFleet_3) (by decide +kernel) (fun q1015 ad1015 hg1015 hq1015 => ?_)
  have h0 := (hg1015 0 (by decide)).trans h0
  refine KB_putF (pc := 17) (i := 9) (B := BFleet_3) (j := 1) (d := 2) (by decide) rfl h0 hq1015 rfl rfl (by decide) (by decide) rfl rfl ⟨"", Or.inr ⟨_, rfl⟩⟩ fw_Fleet_15 (B' := BFleet_4) (by decide +kernel) ?_
  refine KB_aload_n (pc := 20) (i := 10) rfl rfl ?_
  refine KB_bipush (pc := 21) (i := 11) rfl rfl ?_
  refine KB_newI (pc := 23) (i := 12) (B := BFleet_4) (n := 3) (l := 8) rfl rfl (by decide) (by decide +kernel) (by decide +kernel) ⟨Nat.le_of_ble_eq_true rfl, Nat.le_of_ble_eq_true rfl⟩ (B' := BFleet_5) (by decide +kernel) (fun q2023 ad2023 hg2023 hq2023 => ?_)
  have h0 := (hg2023 0 (by decide)).trans h0
  refine KB_putF (pc := 25) (i := 13) (B := BFleet_5) (j := 2) (d := 3) (by decide) rfl h0 hq2023 rfl rfl (by decide) (by decide) rfl rfl ⟨"", Or.inr ⟨_, rfl⟩⟩ fw_Fleet_18 (B' := BFleet_6) (by decide +kernel) ?_
  refine KB_aload_n (pc := 28) (i := 14) rfl rfl ?_
  refine KB_bipush (pc := 29) (i := 15) rfl rfl ?_
  refine KB_newI (pc := 31) (i := 16) (B := BFleet_6) (n := 4) (l := 8) rfl rfl (by decide) (by decide +kernel) (by decide +kernel) ⟨Nat.le_of_ble_eq_true rfl, Nat.le_of_ble_eq_true rfl⟩ (B' := BFleet_7) (by decide +kernel) (fun q3031 ad3031 hg3031 hq3031 => ?_)
  have h0 := (hg3031 0 (by decide)).trans h0
  refine KB_putF (pc := 33) (i := 17) (B := BFleet_7) (j := 3) (d := 4) (by decide) rfl h0 hq3031 rfl rfl (by decide) (by decide) rfl rfl ⟨"", Or.inr ⟨_, rfl⟩⟩ fw_Fleet_21 (B' := BFleet_8) (by decide +kernel) ?_
  refine KB_aload_n (pc := 36) (i := 18) rfl rfl ?_
  refine KB_bipush (pc := 37) (i := 19) rfl rfl ?_
  refine KB_newI (pc := 39) (i := 20) (B := BFleet_8) (n := 5) (l := 8) rfl rfl (by decide) (by decide +kernel) (by decide +kernel) ⟨Nat.le_of_ble_eq_true rfl, Nat.le_of_ble_eq_true rfl⟩ (B' := BFleet_9) (by decide +kernel) (fun q4039 ad4039 hg4039 hq4039 => ?_)
  have h0 := (hg4039 0 (by decide)).trans h0
  refine KB_putF (pc := 41) (i := 21) (B := BFleet_9) (j := 4) (d := 5) (by decide) rfl h0 hq4039 rfl rfl (by decide) (by decide) rfl rfl ⟨"", Or.inr ⟨_, rfl⟩⟩ fw_Fleet_24 (B' := BFleet_10) (by decide +kernel) ?_
  refine KB_aload_n (pc := 44) (i := 22) rfl rfl ?_
  refine KB_iconst (pc := 45) (i := 23) rfl ?_
  refine KB_newI (pc := 46) (i := 24) (B := BFleet_10) (n := 6) (l := 2) rfl rfl (by decide) (by decide +kernel) (by decide +kernel) ⟨Nat.le_of_ble_eq_true rfl, Nat.le_of_ble_eq_true rfl⟩ (B' := BFleet_11) (by decide +kernel) (fun q5046 ad5046 hg5046 hq5046 => ?_)
  have h0 := (hg5046 0 (by decide)).trans h0
  refine KB_putF (pc := 48) (i := 25) (B := BFleet_11) (j := 5) (d := 6) (by decide) rfl h0 hq5046 rfl rfl (by decide) (by decide) rfl rfl ⟨"", Or.inr ⟨_, rfl⟩⟩ fw_Fleet_27 (B' := BFleet_12) (by decide +kernel) ?_
  refine KB_aload_n (pc := 51) (i := 26) rfl rfl ?_
  refine KB_iconst (pc := 52) (i := 27) rfl ?_
  refine KB_put0 (pc := 53) (i := 28) (B := BFleet_12) (j := 6) (f := 0) rfl h0 rfl rfl rfl (by decide) (by decide) rfl ⟨rfl, rfl⟩ fw_Fleet_30 (B' := BFleet_13) (by decide +kernel) ?_
  exact KB_ret (pc := 56) (i := 29) rfl rfl h0
def BSky_0 : bS := [(4, [2, 2, 2])]
def BSky_1 : bS := [(4, [2, 2, 2]), (1, [2, 2, 2, 2, 2, 2, 0])]
def BSky_2 : bS := [(4, [2, 2, 2])]
def BSky_3 : bS := [(4, [2, 2, 2]), (1, [5, 6, 7, 8, 9, 10, 0]), (10, [8]), (10, [8]), (10, [8]), (10, [8]), (10, [8]), (10, [2])]
def BSky_4 : bS := [(4, [4, 2, 2]), (1, [5, 6, 7, 8, 9, 10, 0]), (10, [8]), (10, [8]), (10, [8]), (10, [8]), (10, [8]), (10, [2])]
def BSky_5 : bS := [(4, [4, 2, 2]), (1, [5, 6, 7, 8, 9, 10, 0]), (10, [8]), (10, [8]), (10, [8]), (10, [8]), (10, [8]), (10, [2]), (10, [10])]
def BSky_6 : bS := [(4, [4, 11, 2]), (1, [5, 6, 7, 8, 9, 10, 0]), (10, [8]), (10, [8]), (10, [8]), (10, [8]), (10, [8]), (10, [2]), (10, [10])]
def BSky_7 : bS := [(4, [4, 11, 2]), (1, [5, 6, 7, 8, 9, 10, 0]), (10, [8]), (10, [8]), (10, [8]), (10, [8]), (10, [8]), (10, [2]), (10, [10]), (10, [8])]
def BSky_8 : bS := [(4, [4, 11, 12]), (1, [5, 6, 7, 8, 9, 10, 0]), (10, [8]), (10, [8]), (10, [8]), (10, [8]), (10, [8]), (10, [2]), (10, [10]), (10, [8])]
set_option maxHeartbeats 4000000 in
set_option maxRecDepth 100000 in
theorem cb_Sky (G : bG) : CtB G y_Sky_init X_Sky_init 2 9 67 (4, [2, 2, 2]) BSky_8 := by
  refine CtB.ofKB (by decide) rfl rfl T_Sky_init (Nat.le_of_ble_eq_true rfl) rfl (fun a0 sz ad h0 => ?_)
  show KB _ _ _ _ _ _ _ _ BSky_0 _ _
  refine KB_aload_n (pc := 0) (i := 0) rfl rfl ?_
  refine KB_objInit (pc := 1) (i := 1) rfl (List.mem_of_getElem? (i := 89) (by decide +kernel)) ⟨Nat.le_of_ble_eq_true rfl, Nat.le_of_ble_eq_true rfl⟩ (Nat.le_of_ble_eq_true rfl) ?_
  refine KB_aload_n (pc := 4) (i := 2) rfl rfl ?_
  refine KB_new (pc := 5) (i := 3) (B := BSky_0) (n := 1) (fs := [2, 2, 2, 2, 2, 2, 0]) rfl rfl (List.mem_of_getElem? (i := 90) (by decide +kernel)) (List.mem_of_getElem? (i := 91) (by decide +kernel)) (List.mem_of_getElem? (i := 51) (by decide +kernel)) nw_Fleet (by decide +kernel) (by decide +kernel) rfl ⟨Nat.le_of_ble_eq_true rfl, Nat.le_of_ble_eq_true rfl⟩ (B' := BSky_1) (by decide +kernel) (fun q5 ad5 hg5 hq5 => ?_)
  have h0 := (hg5 0 (by decide)).trans h0
  refine KB_dup (pc := 8) (i := 4) rfl rfl ?_
  refine KB_ctorN (pc := 9) (i := 5) (B := BSky_1) (B0 := BSky_2) (n := 1) rfl (cb_Fleet G) (by decide +kernel) (by decide +kernel) hq5 (by decide +kernel) (by decide +kernel) (by decide +kernel) (by decide +kernel) rfl rfl (by decide +kernel) (List.mem_of_getElem? (i := 93) (by decide +kernel)) (List.mem_of_getElem? (i := 51) (by decide +kernel)) (List.mem_of_getElem? (i := 94) (by decide +kernel)) ⟨⟨Nat.le_of_ble_eq_true rfl, Nat.le_of_ble_eq_true rfl⟩, Nat.le_of_ble_eq_true rfl, Nat.le_of_ble_eq_true rfl⟩ (Nat.le_of_ble_eq_true rfl) (B' := BSky_3) (by decide +kernel) (fun ad1009 hg1009 => ?_)
  have h0 := (hg1009 0 (by decide)).trans h0
  have hq5 := (hg1009 1 (by decide)).trans hq5
  refine KB_putF (pc := 12) (i := 6) (B := BSky_3) (j := 0) (d := 1) (by decide) rfl h0 hq5 rfl rfl (by decide) (by decide) rfl rfl ⟨"KitesWar$Fleet", Or.inl rfl⟩ fw_Sky_12 (B' := BSky_4) (by decide +kernel) ?_
  refine KB_aload_n (pc := 15) (i := 7) rfl rfl ?_
  refine KB_bipush (pc := 16) (i := 8) rfl rfl ?_
  refine KB_newI (pc := 18) (i := 9) (B := BSky_4) (n := 8) (l := 10) rfl rfl (by decide) (by decide +kernel) (by decide +kernel) ⟨Nat.le_of_ble_eq_true rfl, Nat.le_of_ble_eq_true rfl⟩ (B' := BSky_5) (by decide +kernel) (fun q2018 ad2018 hg2018 hq2018 => ?_)
  have h0 := (hg2018 0 (by decide)).trans h0
  refine KB_putF (pc := 20) (i := 10) (B := BSky_5) (j := 1) (d := 8) (by decide) rfl h0 hq2018 rfl rfl (by decide) (by decide) rfl rfl ⟨"", Or.inr ⟨_, rfl⟩⟩ fw_Sky_18 (B' := BSky_6) (by decide +kernel) ?_
  refine KB_aload_n (pc := 23) (i := 11) rfl rfl ?_
  refine KB_bipush (pc := 24) (i := 12) rfl rfl ?_
  refine KB_newI (pc := 26) (i := 13) (B := BSky_6) (n := 9) (l := 8) rfl rfl (by decide) (by decide +kernel) (by decide +kernel) ⟨Nat.le_of_ble_eq_true rfl, Nat.le_of_ble_eq_true rfl⟩ (B' := BSky_7) (by decide +kernel) (fun q3026 ad3026 hg3026 hq3026 => ?_)
  have h0 := (hg3026 0 (by decide)).trans h0
  refine KB_putF (pc := 28) (i := 14) (B := BSky_7) (j := 2) (d := 9) (by decide) rfl h0 hq3026 rfl rfl (by decide) (by decide) rfl rfl ⟨"", Or.inr ⟨_, rfl⟩⟩ fw_Sky_22 (B' := BSky_8) (by decide +kernel) ?_
  exact KB_ret (pc := 31) (i := 15) rfl rfl h0
def BText_0 : bS := [(7, [2, 0])]
def BText_1 : bS := [(7, [2, 0]), (10, [74])]
def BText_2 : bS := [(7, [4, 0]), (10, [74])]
def BText_3 : bS := [(7, [4, 0]), (10, [74])]
set_option maxHeartbeats 4000000 in
set_option maxRecDepth 100000 in
theorem cb_Text (G : bG) : CtB G y_Text_init X_Text_init 1 1 74 (7, [2, 0]) BText_3 := by
  refine CtB.ofKB (by decide) rfl rfl T_Text_init (Nat.le_of_ble_eq_true rfl) rfl (fun a0 sz ad h0 => ?_)
  show KB _ _ _ _ _ _ _ _ BText_0 _ _
  refine KB_aload_n (pc := 0) (i := 0) rfl rfl ?_
  refine KB_objInit (pc := 1) (i := 1) rfl (List.mem_of_getElem? (i := 74) (by decide +kernel)) ⟨Nat.le_of_ble_eq_true rfl, Nat.le_of_ble_eq_true rfl⟩ (Nat.le_of_ble_eq_true rfl) ?_
  refine KB_aload_n (pc := 4) (i := 2) rfl rfl ?_
  refine KB_bipush (pc := 5) (i := 3) rfl rfl ?_
  refine KB_newI (pc := 7) (i := 4) (B := BText_0) (n := 1) (l := 74) rfl rfl (by decide) (by decide +kernel) (by decide +kernel) ⟨Nat.le_of_ble_eq_true rfl, Nat.le_of_ble_eq_true rfl⟩ (B' := BText_1) (by decide +kernel) (fun q7 ad7 hg7 hq7 => ?_)
  have h0 := (hg7 0 (by decide)).trans h0
  refine KB_putF (pc := 9) (i := 5) (B := BText_1) (j := 0) (d := 1) (by decide) rfl h0 hq7 rfl rfl (by decide) (by decide) rfl rfl ⟨"", Or.inr ⟨_, rfl⟩⟩ fw_Text_11 (B' := BText_2) (by decide +kernel) ?_
  refine KB_aload_n (pc := 12) (i := 6) rfl rfl ?_
  refine KB_iconst (pc := 13) (i := 7) rfl ?_
  refine KB_put0 (pc := 14) (i := 8) (B := BText_2) (j := 1) (f := 0) rfl h0 rfl rfl rfl (by decide) (by decide) rfl ⟨rfl, rfl⟩ fw_Text_15 (B' := BText_3) (by decide +kernel) ?_
  exact KB_ret (pc := 17) (i := 9) rfl rfl h0
def BPlans_0 : bS := [(2, [2, 2, 2, 2, 2, 2, 2, 2, 0])]
def BPlans_1 : bS := [(2, [2, 2, 2, 2, 2, 2, 2, 2, 0]), (10, [24])]
def BPlans_2 : bS := [(2, [4, 2, 2, 2, 2, 2, 2, 2, 0]), (10, [24])]
def BPlans_3 : bS := [(2, [4, 2, 2, 2, 2, 2, 2, 2, 0]), (10, [24]), (10, [24])]
def BPlans_4 : bS := [(2, [4, 5, 2, 2, 2, 2, 2, 2, 0]), (10, [24]), (10, [24])]
def BPlans_5 : bS := [(2, [4, 5, 2, 2, 2, 2, 2, 2, 0]), (10, [24]), (10, [24]), (10, [24])]
def BPlans_6 : bS := [(2, [4, 5, 6, 2, 2, 2, 2, 2, 0]), (10, [24]), (10, [24]), (10, [24])]
def BPlans_7 : bS := [(2, [4, 5, 6, 2, 2, 2, 2, 2, 0]), (10, [24]), (10, [24]), (10, [24]), (10, [24])]
def BPlans_8 : bS := [(2, [4, 5, 6, 7, 2, 2, 2, 2, 0]), (10, [24]), (10, [24]), (10, [24]), (10, [24])]
def BPlans_9 : bS := [(2, [4, 5, 6, 7, 2, 2, 2, 2, 0]), (10, [24]), (10, [24]), (10, [24]), (10, [24]), (10, [8])]
def BPlans_10 : bS := [(2, [4, 5, 6, 7, 8, 2, 2, 2, 0]), (10, [24]), (10, [24]), (10, [24]), (10, [24]), (10, [8])]
def BPlans_11 : bS := [(2, [4, 5, 6, 7, 8, 2, 2, 2, 0]), (10, [24]), (10, [24]), (10, [24]), (10, [24]), (10, [8]), (10, [8])]
def BPlans_12 : bS := [(2, [4, 5, 6, 7, 8, 9, 2, 2, 0]), (10, [24]), (10, [24]), (10, [24]), (10, [24]), (10, [8]), (10, [8])]
def BPlans_13 : bS := [(2, [4, 5, 6, 7, 8, 9, 2, 2, 0]), (10, [24]), (10, [24]), (10, [24]), (10, [24]), (10, [8]), (10, [8]), (10, [243])]
def BPlans_14 : bS := [(2, [4, 5, 6, 7, 8, 9, 10, 2, 0]), (10, [24]), (10, [24]), (10, [24]), (10, [24]), (10, [8]), (10, [8]), (10, [243])]
def BPlans_15 : bS := [(2, [4, 5, 6, 7, 8, 9, 10, 2, 0]), (10, [24]), (10, [24]), (10, [24]), (10, [24]), (10, [8]), (10, [8]), (10, [243]), (10, [243])]
def BPlans_16 : bS := [(2, [4, 5, 6, 7, 8, 9, 10, 11, 0]), (10, [24]), (10, [24]), (10, [24]), (10, [24]), (10, [8]), (10, [8]), (10, [243]), (10, [243])]
def BPlans_17 : bS := [(2, [4, 5, 6, 7, 8, 9, 10, 11, 0]), (10, [24]), (10, [24]), (10, [24]), (10, [24]), (10, [8]), (10, [8]), (10, [243]), (10, [243])]
set_option maxHeartbeats 4000000 in
set_option maxRecDepth 100000 in
theorem cb_Plans (G : bG) : CtB G y_Plans_init X_Plans_init 1 8 598 (2, [2, 2, 2, 2, 2, 2, 2, 2, 0]) BPlans_17 := by
  refine CtB.ofKB (by decide) rfl rfl T_Plans_init (Nat.le_of_ble_eq_true rfl) rfl (fun a0 sz ad h0 => ?_)
  show KB _ _ _ _ _ _ _ _ BPlans_0 _ _
  refine KB_aload_n (pc := 0) (i := 0) rfl rfl ?_
  refine KB_objInit (pc := 1) (i := 1) rfl (List.mem_of_getElem? (i := 182) (by decide +kernel)) ⟨Nat.le_of_ble_eq_true rfl, Nat.le_of_ble_eq_true rfl⟩ (Nat.le_of_ble_eq_true rfl) ?_
  refine KB_aload_n (pc := 4) (i := 2) rfl rfl ?_
  refine KB_bipush (pc := 5) (i := 3) rfl rfl ?_
  refine KB_newI (pc := 7) (i := 4) (B := BPlans_0) (n := 1) (l := 24) rfl rfl (by decide) (by decide +kernel) (by decide +kernel) ⟨Nat.le_of_ble_eq_true rfl, Nat.le_of_ble_eq_true rfl⟩ (B' := BPlans_1) (by decide +kernel) (fun q7 ad7 hg7 hq7 => ?_)
  have h0 := (hg7 0 (by decide)).trans h0
  refine KB_putF (pc := 9) (i := 5) (B := BPlans_1) (j := 0) (d := 1) (by decide) rfl h0 hq7 rfl rfl (by decide) (by decide) rfl rfl ⟨"", Or.inr ⟨_, rfl⟩⟩ fw_Plans_11 (B' := BPlans_2) (by decide +kernel) ?_
  refine KB_aload_n (pc := 12) (i := 6) rfl rfl ?_
  refine KB_bipush (pc := 13) (i := 7) rfl rfl ?_
  refine KB_newI (pc := 15) (i := 8) (B := BPlans_2) (n := 2) (l := 24) rfl rfl (by decide) (by decide +kernel) (by decide +kernel) ⟨Nat.le_of_ble_eq_true rfl, Nat.le_of_ble_eq_true rfl⟩ (B' := BPlans_3) (by decide +kernel) (fun q1015 ad1015 hg1015 hq1015 => ?_)
  have h0 := (hg1015 0 (by decide)).trans h0
  refine KB_putF (pc := 17) (i := 9) (B := BPlans_3) (j := 1) (d := 2) (by decide) rfl h0 hq1015 rfl rfl (by decide) (by decide) rfl rfl ⟨"", Or.inr ⟨_, rfl⟩⟩ fw_Plans_15 (B' := BPlans_4) (by decide +kernel) ?_
  refine KB_aload_n (pc := 20) (i := 10) rfl rfl ?_
  refine KB_bipush (pc := 21) (i := 11) rfl rfl ?_
  refine KB_newI (pc := 23) (i := 12) (B := BPlans_4) (n := 3) (l := 24) rfl rfl (by decide) (by decide +kernel) (by decide +kernel) ⟨Nat.le_of_ble_eq_true rfl, Nat.le_of_ble_eq_true rfl⟩ (B' := BPlans_5) (by decide +kernel) (fun q2023 ad2023 hg2023 hq2023 => ?_)
  have h0 := (hg2023 0 (by decide)).trans h0
  refine KB_putF (pc := 25) (i := 13) (B := BPlans_5) (j := 2) (d := 3) (by decide) rfl h0 hq2023 rfl rfl (by decide) (by decide) rfl rfl ⟨"", Or.inr ⟨_, rfl⟩⟩ fw_Plans_18 (B' := BPlans_6) (by decide +kernel) ?_
  refine KB_aload_n (pc := 28) (i := 14) rfl rfl ?_
  refine KB_bipush (pc := 29) (i := 15) rfl rfl ?_
  refine KB_newI (pc := 31) (i := 16) (B := BPlans_6) (n := 4) (l := 24) rfl rfl (by decide) (by decide +kernel) (by decide +kernel) ⟨Nat.le_of_ble_eq_true rfl, Nat.le_of_ble_eq_true rfl⟩ (B' := BPlans_7) (by decide +kernel) (fun q3031 ad3031 hg3031 hq3031 => ?_)
  have h0 := (hg3031 0 (by decide)).trans h0
  refine KB_putF (pc := 33) (i := 17) (B := BPlans_7) (j := 3) (d := 4) (by decide) rfl h0 hq3031 rfl rfl (by decide) (by decide) rfl rfl ⟨"", Or.inr ⟨_, rfl⟩⟩ fw_Plans_21 (B' := BPlans_8) (by decide +kernel) ?_
  refine KB_aload_n (pc := 36) (i := 18) rfl rfl ?_
  refine KB_bipush (pc := 37) (i := 19) rfl rfl ?_
  refine KB_newI (pc := 39) (i := 20) (B := BPlans_8) (n := 5) (l := 8) rfl rfl (by decide) (by decide +kernel) (by decide +kernel) ⟨Nat.le_of_ble_eq_true rfl, Nat.le_of_ble_eq_true rfl⟩ (B' := BPlans_9) (by decide +kernel) (fun q4039 ad4039 hg4039 hq4039 => ?_)
  have h0 := (hg4039 0 (by decide)).trans h0
  refine KB_putF (pc := 41) (i := 21) (B := BPlans_9) (j := 4) (d := 5) (by decide) rfl h0 hq4039 rfl rfl (by decide) (by decide) rfl rfl ⟨"", Or.inr ⟨_, rfl⟩⟩ fw_Plans_24 (B' := BPlans_10) (by decide +kernel) ?_
  refine KB_aload_n (pc := 44) (i := 22) rfl rfl ?_
  refine KB_bipush (pc := 45) (i := 23) rfl rfl ?_
  refine KB_newI (pc := 47) (i := 24) (B := BPlans_10) (n := 6) (l := 8) rfl rfl (by decide) (by decide +kernel) (by decide +kernel) ⟨Nat.le_of_ble_eq_true rfl, Nat.le_of_ble_eq_true rfl⟩ (B' := BPlans_11) (by decide +kernel) (fun q5047 ad5047 hg5047 hq5047 => ?_)
  have h0 := (hg5047 0 (by decide)).trans h0
  refine KB_putF (pc := 49) (i := 25) (B := BPlans_11) (j := 5) (d := 6) (by decide) rfl h0 hq5047 rfl rfl (by decide) (by decide) rfl rfl ⟨"", Or.inr ⟨_, rfl⟩⟩ fw_Plans_27 (B' := BPlans_12) (by decide +kernel) ?_
  refine KB_aload_n (pc := 52) (i := 26) rfl rfl ?_
  refine KB_sipush (pc := 53) (i := 27) rfl rfl ?_
  refine KB_newI (pc := 56) (i := 28) (B := BPlans_12) (n := 7) (l := 243) rfl rfl (by decide) (by decide +kernel) (by decide +kernel) ⟨Nat.le_of_ble_eq_true rfl, Nat.le_of_ble_eq_true rfl⟩ (B' := BPlans_13) (by decide +kernel) (fun q6056 ad6056 hg6056 hq6056 => ?_)
  have h0 := (hg6056 0 (by decide)).trans h0
  refine KB_putF (pc := 58) (i := 29) (B := BPlans_13) (j := 6) (d := 7) (by decide) rfl h0 hq6056 rfl rfl (by decide) (by decide) rfl rfl ⟨"", Or.inr ⟨_, rfl⟩⟩ fw_Plans_30 (B' := BPlans_14) (by decide +kernel) ?_
  refine KB_aload_n (pc := 61) (i := 30) rfl rfl ?_
  refine KB_sipush (pc := 62) (i := 31) rfl rfl ?_
  refine KB_newI (pc := 65) (i := 32) (B := BPlans_14) (n := 8) (l := 243) rfl rfl (by decide) (by decide +kernel) (by decide +kernel) ⟨Nat.le_of_ble_eq_true rfl, Nat.le_of_ble_eq_true rfl⟩ (B' := BPlans_15) (by decide +kernel) (fun q7065 ad7065 hg7065 hq7065 => ?_)
  have h0 := (hg7065 0 (by decide)).trans h0
  refine KB_putF (pc := 67) (i := 33) (B := BPlans_15) (j := 7) (d := 8) (by decide) rfl h0 hq7065 rfl rfl (by decide) (by decide) rfl rfl ⟨"", Or.inr ⟨_, rfl⟩⟩ fw_Plans_33 (B' := BPlans_16) (by decide +kernel) ?_
  refine KB_aload_n (pc := 70) (i := 34) rfl rfl ?_
  refine KB_iconst (pc := 71) (i := 35) rfl ?_
  refine KB_put0 (pc := 72) (i := 36) (B := BPlans_16) (j := 8) (f := 0) rfl h0 rfl rfl rfl (by decide) (by decide) rfl ⟨rfl, rfl⟩ fw_Plans_36 (B' := BPlans_17) (by decide +kernel) ?_
  exact KB_ret (pc := 75) (i := 37) rfl rfl h0
def BSeen_0 : bS := [(3, [2, 2, 2, 2, 2, 2, 0])]
def BSeen_1 : bS := [(3, [2, 2, 2, 2, 2, 2, 0]), (10, [8])]
def BSeen_2 : bS := [(3, [4, 2, 2, 2, 2, 2, 0]), (10, [8])]
def BSeen_3 : bS := [(3, [4, 2, 2, 2, 2, 2, 0]), (10, [8]), (10, [8])]
def BSeen_4 : bS := [(3, [4, 5, 2, 2, 2, 2, 0]), (10, [8]), (10, [8])]
def BSeen_5 : bS := [(3, [4, 5, 2, 2, 2, 2, 0]), (10, [8]), (10, [8]), (11, [8])]
def BSeen_6 : bS := [(3, [4, 5, 6, 2, 2, 2, 0]), (10, [8]), (10, [8]), (11, [8])]
def BSeen_7 : bS := [(3, [4, 5, 6, 2, 2, 2, 0]), (10, [8]), (10, [8]), (11, [8]), (1, [2, 2, 2, 2, 2, 2, 0])]
def BSeen_8 : bS := [(3, [4, 5, 6, 2, 2, 2, 0]), (10, [8]), (10, [8]), (11, [8])]
def BSeen_9 : bS := [(3, [4, 5, 6, 2, 2, 2, 0]), (10, [8]), (10, [8]), (11, [8]), (1, [8, 9, 10, 11, 12, 13, 0]), (10, [8]), (10, [8]), (10, [8]), (10, [8]), (10, [8]), (10, [2])]
def BSeen_10 : bS := [(3, [4, 5, 6, 7, 2, 2, 0]), (10, [8]), (10, [8]), (11, [8]), (1, [8, 9, 10, 11, 12, 13, 0]), (10, [8]), (10, [8]), (10, [8]), (10, [8]), (10, [8]), (10, [2])]
def BSeen_11 : bS := [(3, [4, 5, 6, 7, 2, 2, 0]), (10, [8]), (10, [8]), (11, [8]), (1, [8, 9, 10, 11, 12, 13, 0]), (10, [8]), (10, [8]), (10, [8]), (10, [8]), (10, [8]), (10, [2]), (10, [4])]
def BSeen_12 : bS := [(3, [4, 5, 6, 7, 14, 2, 0]), (10, [8]), (10, [8]), (11, [8]), (1, [8, 9, 10, 11, 12, 13, 0]), (10, [8]), (10, [8]), (10, [8]), (10, [8]), (10, [8]), (10, [2]), (10, [4])]
def BSeen_13 : bS := [(3, [4, 5, 6, 7, 14, 2, 0]), (10, [8]), (10, [8]), (11, [8]), (1, [8, 9, 10, 11, 12, 13, 0]), (10, [8]), (10, [8]), (10, [8]), (10, [8]), (10, [8]), (10, [2]), (10, [4]), (10, [4])]
def BSeen_14 : bS := [(3, [4, 5, 6, 7, 14, 15, 0]), (10, [8]), (10, [8]), (11, [8]), (1, [8, 9, 10, 11, 12, 13, 0]), (10, [8]), (10, [8]), (10, [8]), (10, [8]), (10, [8]), (10, [2]), (10, [4]), (10, [4])]
def BSeen_15 : bS := [(3, [4, 5, 6, 7, 14, 15, 0]), (10, [8]), (10, [8]), (11, [8]), (1, [8, 9, 10, 11, 12, 13, 0]), (10, [8]), (10, [8]), (10, [8]), (10, [8]), (10, [8]), (10, [2]), (10, [4]), (10, [4])]
set_option maxHeartbeats 4000000 in
set_option maxRecDepth 100000 in
theorem cb_Seen (G : bG) : CtB G y_Seen_init X_Seen_init 2 12 81 (3, [2, 2, 2, 2, 2, 2, 0]) BSeen_15 := by
  refine CtB.ofKB (by decide) rfl rfl T_Seen_init (Nat.le_of_ble_eq_true rfl) rfl (fun a0 sz ad h0 => ?_)
  show KB _ _ _ _ _ _ _ _ BSeen_0 _ _
  refine KB_aload_n (pc := 0) (i := 0) rfl rfl ?_
  refine KB_objInit (pc := 1) (i := 1) rfl (List.mem_of_getElem? (i := 216) (by decide +kernel)) ⟨Nat.le_of_ble_eq_true rfl, Nat.le_of_ble_eq_true rfl⟩ (Nat.le_of_ble_eq_true rfl) ?_
  refine KB_aload_n (pc := 4) (i := 2) rfl rfl ?_
  refine KB_bipush (pc := 5) (i := 3) rfl rfl ?_
  refine KB_newI (pc := 7) (i := 4) (B := BSeen_0) (n := 1) (l := 8) rfl rfl (by decide) (by decide +kernel) (by decide +kernel) ⟨Nat.le_of_ble_eq_true rfl, Nat.le_of_ble_eq_true rfl⟩ (B' := BSeen_1) (by decide +kernel) (fun q7 ad7 hg7 hq7 => ?_)
  have h0 := (hg7 0 (by decide)).trans h0
  refine KB_putF (pc := 9) (i := 5) (B := BSeen_1) (j := 0) (d := 1) (by decide) rfl h0 hq7 rfl rfl (by decide) (by decide) rfl rfl ⟨"", Or.inr ⟨_, rfl⟩⟩ fw_Seen_9 (B' := BSeen_2) (by decide +kernel) ?_
  refine KB_aload_n (pc := 12) (i := 6) rfl rfl ?_
  refine KB_bipush (pc := 13) (i := 7) rfl rfl ?_
  refine KB_newI (pc := 15) (i := 8) (B := BSeen_2) (n := 2) (l := 8) rfl rfl (by decide) (by decide +kernel) (by decide +kernel) ⟨Nat.le_of_ble_eq_true rfl, Nat.le_of_ble_eq_true rfl⟩ (B' := BSeen_3) (by decide +kernel) (fun q1015 ad1015 hg1015 hq1015 => ?_)
  have h0 := (hg1015 0 (by decide)).trans h0
  refine KB_putF (pc := 17) (i := 9) (B := BSeen_3) (j := 1) (d := 2) (by decide) rfl h0 hq1015 rfl rfl (by decide) (by decide) rfl rfl ⟨"", Or.inr ⟨_, rfl⟩⟩ fw_Seen_15 (B' := BSeen_4) (by decide +kernel) ?_
  refine KB_aload_n (pc := 20) (i := 10) rfl rfl ?_
  refine KB_bipush (pc := 21) (i := 11) rfl rfl ?_
  refine KB_newZ (pc := 23) (i := 12) (B := BSeen_4) (n := 3) (l := 8) rfl rfl (by decide) (by decide +kernel) (by decide +kernel) ⟨Nat.le_of_ble_eq_true rfl, Nat.le_of_ble_eq_true rfl⟩ (B' := BSeen_5) (by decide +kernel) (fun q2023 ad2023 hg2023 hq2023 => ?_)
  have h0 := (hg2023 0 (by decide)).trans h0
  refine KB_putF (pc := 25) (i := 13) (B := BSeen_5) (j := 2) (d := 3) (by decide) rfl h0 hq2023 rfl rfl (by decide) (by decide) rfl rfl ⟨"", Or.inr ⟨_, rfl⟩⟩ fw_Seen_18 (B' := BSeen_6) (by decide +kernel) ?_
  refine KB_aload_n (pc := 28) (i := 14) rfl rfl ?_
  refine KB_new (pc := 29) (i := 15) (B := BSeen_6) (n := 4) (fs := [2, 2, 2, 2, 2, 2, 0]) rfl rfl (List.mem_of_getElem? (i := 217) (by decide +kernel)) (List.mem_of_getElem? (i := 91) (by decide +kernel)) (List.mem_of_getElem? (i := 51) (by decide +kernel)) nw_Fleet (by decide +kernel) (by decide +kernel) rfl ⟨Nat.le_of_ble_eq_true rfl, Nat.le_of_ble_eq_true rfl⟩ (B' := BSeen_7) (by decide +kernel) (fun q3029 ad3029 hg3029 hq3029 => ?_)
  have h0 := (hg3029 0 (by decide)).trans h0
  refine KB_dup (pc := 32) (i := 16) rfl rfl ?_
  refine KB_ctorN (pc := 33) (i := 17) (B := BSeen_7) (B0 := BSeen_8) (n := 4) rfl (cb_Fleet G) (by decide +kernel) (by decide +kernel) hq3029 (by decide +kernel) (by decide +kernel) (by decide +kernel) (by decide +kernel) rfl rfl (by decide +kernel) (List.mem_of_getElem? (i := 93) (by decide +kernel)) (List.mem_of_getElem? (i := 51) (by decide +kernel)) (List.mem_of_getElem? (i := 94) (by decide +kernel)) ⟨⟨Nat.le_of_ble_eq_true rfl, Nat.le_of_ble_eq_true rfl⟩, Nat.le_of_ble_eq_true rfl, Nat.le_of_ble_eq_true rfl⟩ (Nat.le_of_ble_eq_true rfl) (B' := BSeen_9) (by decide +kernel) (fun ad4033 hg4033 => ?_)
  have h0 := (hg4033 0 (by decide)).trans h0
  have hq3029 := (hg4033 4 (by decide)).trans hq3029
  refine KB_putF (pc := 36) (i := 18) (B := BSeen_9) (j := 3) (d := 4) (by decide) rfl h0 hq3029 rfl rfl (by decide) (by decide) rfl rfl ⟨"KitesWar$Fleet", Or.inl rfl⟩ fw_Seen_25 (B' := BSeen_10) (by decide +kernel) ?_
  refine KB_aload_n (pc := 39) (i := 19) rfl rfl ?_
  refine KB_iconst (pc := 40) (i := 20) rfl ?_
  refine KB_newI (pc := 41) (i := 21) (B := BSeen_10) (n := 11) (l := 4) rfl rfl (by decide) (by decide +kernel) (by decide +kernel) ⟨Nat.le_of_ble_eq_true rfl, Nat.le_of_ble_eq_true rfl⟩ (B' := BSeen_11) (by decide +kernel) (fun q5041 ad5041 hg5041 hq5041 => ?_)
  have h0 := (hg5041 0 (by decide)).trans h0
  refine KB_putF (pc := 43) (i := 22) (B := BSeen_11) (j := 4) (d := 11) (by decide) rfl h0 hq5041 rfl rfl (by decide) (by decide) rfl rfl ⟨"", Or.inr ⟨_, rfl⟩⟩ fw_Seen_29 (B' := BSeen_12) (by decide +kernel) ?_
  refine KB_aload_n (pc := 46) (i := 23) rfl rfl ?_
  refine KB_iconst (pc := 47) (i := 24) rfl ?_
  refine KB_newI (pc := 48) (i := 25) (B := BSeen_12) (n := 12) (l := 4) rfl rfl (by decide) (by decide +kernel) (by decide +kernel) ⟨Nat.le_of_ble_eq_true rfl, Nat.le_of_ble_eq_true rfl⟩ (B' := BSeen_13) (by decide +kernel) (fun q6048 ad6048 hg6048 hq6048 => ?_)
  have h0 := (hg6048 0 (by decide)).trans h0
  refine KB_putF (pc := 50) (i := 26) (B := BSeen_13) (j := 5) (d := 12) (by decide) rfl h0 hq6048 rfl rfl (by decide) (by decide) rfl rfl ⟨"", Or.inr ⟨_, rfl⟩⟩ fw_Seen_32 (B' := BSeen_14) (by decide +kernel) ?_
  refine KB_aload_n (pc := 53) (i := 27) rfl rfl ?_
  refine KB_iconst (pc := 54) (i := 28) rfl ?_
  refine KB_put0 (pc := 55) (i := 29) (B := BSeen_14) (j := 6) (f := 0) rfl h0 rfl rfl rfl (by decide) (by decide) rfl ⟨rfl, rfl⟩ fw_Seen_35 (B' := BSeen_15) (by decide +kernel) ?_
  exact KB_ret (pc := 58) (i := 30) rfl rfl h0
def BTangle_0 : bS := [(6, [2])]
def BTangle_1 : bS := [(6, [2]), (10, [8])]
def BTangle_2 : bS := [(6, [4]), (10, [8])]
set_option maxHeartbeats 4000000 in
set_option maxRecDepth 100000 in
theorem cb_Tangle (G : bG) : CtB G y_Tangle_init X_Tangle_init 1 1 8 (6, [2]) BTangle_2 := by
  refine CtB.ofKB (by decide) rfl rfl T_Tangle_init (Nat.le_of_ble_eq_true rfl) rfl (fun a0 sz ad h0 => ?_)
  show KB _ _ _ _ _ _ _ _ BTangle_0 _ _
  refine KB_aload_n (pc := 0) (i := 0) rfl rfl ?_
  refine KB_objInit (pc := 1) (i := 1) rfl (List.mem_of_getElem? (i := 250) (by decide +kernel)) ⟨Nat.le_of_ble_eq_true rfl, Nat.le_of_ble_eq_true rfl⟩ (Nat.le_of_ble_eq_true rfl) ?_
  refine KB_aload_n (pc := 4) (i := 2) rfl rfl ?_
  refine KB_bipush (pc := 5) (i := 3) rfl rfl ?_
  refine KB_newI (pc := 7) (i := 4) (B := BTangle_0) (n := 1) (l := 8) rfl rfl (by decide) (by decide +kernel) (by decide +kernel) ⟨Nat.le_of_ble_eq_true rfl, Nat.le_of_ble_eq_true rfl⟩ (B' := BTangle_1) (by decide +kernel) (fun q7 ad7 hg7 hq7 => ?_)
  have h0 := (hg7 0 (by decide)).trans h0
  refine KB_putF (pc := 9) (i := 5) (B := BTangle_1) (j := 0) (d := 1) (by decide) rfl h0 hq7 rfl rfl (by decide) (by decide) rfl rfl ⟨"", Or.inr ⟨_, rfl⟩⟩ fw_Tangle_9 (B' := BTangle_2) (by decide +kernel) ?_
  exact KB_ret (pc := 12) (i := 6) rfl rfl h0
def BSlot_0 : bS := [(5, [2, 0])]
def BSlot_1 : bS := [(5, [2, 0]), (4, [2, 2, 2])]
def BSlot_2 : bS := [(5, [2, 0])]
def BSlot_3 : bS := [(5, [2, 0]), (4, [5, 12, 13]), (1, [6, 7, 8, 9, 10, 11, 0]), (10, [8]), (10, [8]), (10, [8]), (10, [8]), (10, [8]), (10, [2]), (10, [10]), (10, [8])]
def BSlot_4 : bS := [(5, [4, 0]), (4, [5, 12, 13]), (1, [6, 7, 8, 9, 10, 11, 0]), (10, [8]), (10, [8]), (10, [8]), (10, [8]), (10, [8]), (10, [2]), (10, [10]), (10, [8])]
def BSlot_5 : bS := [(5, [4, 0]), (4, [5, 12, 13]), (1, [6, 7, 8, 9, 10, 11, 0]), (10, [8]), (10, [8]), (10, [8]), (10, [8]), (10, [8]), (10, [2]), (10, [10]), (10, [8])]
set_option maxHeartbeats 4000000 in
set_option maxRecDepth 100000 in
theorem cb_Slot (G : bG) : CtB G y_Slot_init X_Slot_init 3 10 70 (5, [2, 0]) BSlot_5 := by
  refine CtB.ofKB (by decide) rfl rfl T_Slot_init (Nat.le_of_ble_eq_true rfl) rfl (fun a0 sz ad h0 => ?_)
  show KB _ _ _ _ _ _ _ _ BSlot_0 _ _
  refine KB_aload_n (pc := 0) (i := 0) rfl rfl ?_
  refine KB_objInit (pc := 1) (i := 1) rfl (List.mem_of_getElem? (i := 259) (by decide +kernel)) ⟨Nat.le_of_ble_eq_true rfl, Nat.le_of_ble_eq_true rfl⟩ (Nat.le_of_ble_eq_true rfl) ?_
  refine KB_aload_n (pc := 4) (i := 2) rfl rfl ?_
  refine KB_new (pc := 5) (i := 3) (B := BSlot_0) (n := 1) (fs := [2, 2, 2]) rfl rfl (List.mem_of_getElem? (i := 260) (by decide +kernel)) (List.mem_of_getElem? (i := 85) (by decide +kernel)) (List.mem_of_getElem? (i := 50) (by decide +kernel)) nw_Sky (by decide +kernel) (by decide +kernel) rfl ⟨Nat.le_of_ble_eq_true rfl, Nat.le_of_ble_eq_true rfl⟩ (B' := BSlot_1) (by decide +kernel) (fun q5 ad5 hg5 hq5 => ?_)
  have h0 := (hg5 0 (by decide)).trans h0
  refine KB_dup (pc := 8) (i := 4) rfl rfl ?_
  refine KB_ctorN (pc := 9) (i := 5) (B := BSlot_1) (B0 := BSlot_2) (n := 1) rfl (cb_Sky G) (by decide +kernel) (by decide +kernel) hq5 (by decide +kernel) (by decide +kernel) (by decide +kernel) (by decide +kernel) rfl rfl (by decide +kernel) (List.mem_of_getElem? (i := 87) (by decide +kernel)) (List.mem_of_getElem? (i := 50) (by decide +kernel)) (List.mem_of_getElem? (i := 88) (by decide +kernel)) ⟨⟨Nat.le_of_ble_eq_true rfl, Nat.le_of_ble_eq_true rfl⟩, Nat.le_of_ble_eq_true rfl, Nat.le_of_ble_eq_true rfl⟩ (Nat.le_of_ble_eq_true rfl) (B' := BSlot_3) (by decide +kernel) (fun ad1009 hg1009 => ?_)
  have h0 := (hg1009 0 (by decide)).trans h0
  have hq5 := (hg1009 1 (by decide)).trans hq5
  refine KB_putF (pc := 12) (i := 6) (B := BSlot_3) (j := 0) (d := 1) (by decide) rfl h0 hq5 rfl rfl (by decide) (by decide) rfl rfl ⟨"KitesWar$Sky", Or.inl rfl⟩ fw_Slot_10 (B' := BSlot_4) (by decide +kernel) ?_
  refine KB_aload_n (pc := 15) (i := 7) rfl rfl ?_
  refine KB_iconst (pc := 16) (i := 8) rfl ?_
  refine KB_put0 (pc := 17) (i := 9) (B := BSlot_4) (j := 1) (f := 0) rfl h0 rfl rfl rfl (by decide) (by decide) rfl ⟨rfl, rfl⟩ fw_Slot_16 (B' := BSlot_5) (by decide +kernel) ?_
  exact KB_ret (pc := 20) (i := 10) rfl rfl h0
def BActs_0 : bS := [(0, [2, 0, 0])]
def BActs_1 : bS := [(0, [2, 0, 0]), (12, [2, 2, 2, 2, 2, 2, 2, 2, 2, 2, 2, 2, 2, 2, 2, 2])]
def BActs_2 : bS := [(0, [4, 0, 0]), (12, [2, 2, 2, 2, 2, 2, 2, 2, 2, 2, 2, 2, 2, 2, 2, 2])]
def BActs_3 : bS := [(0, [4, 0, 0]), (12, [2, 2, 2, 2, 2, 2, 2, 2, 2, 2, 2, 2, 2, 2, 2, 2])]
def BActs_4 : bS := [(0, [4, 0, 0]), (12, [2, 2, 2, 2, 2, 2, 2, 2, 2, 2, 2, 2, 2, 2, 2, 2])]
def BActs_5 : bS := [(0, [4, 0, 0]), (12, [2, 2, 2, 2, 2, 2, 2, 2, 2, 2, 2, 2, 2, 2, 2, 2]), (1, [2, 2, 2, 2, 2, 2, 0])]
def BActs_6 : bS := [(0, [4, 0, 0]), (12, [2, 2, 2, 2, 2, 2, 2, 2, 2, 2, 2, 2, 2, 2, 2, 2])]
def BActs_7 : bS := [(0, [4, 0, 0]), (12, [2, 2, 2, 2, 2, 2, 2, 2, 2, 2, 2, 2, 2, 2, 2, 2]), (1, [6, 7, 8, 9, 10, 11, 0]), (10, [8]), (10, [8]), (10, [8]), (10, [8]), (10, [8]), (10, [2])]
def BActs_8 : bS := [(0, [4, 0, 0]), (12, [5, 2, 2, 2, 2, 2, 2, 2, 2, 2, 2, 2, 2, 2, 2, 2]), (1, [6, 7, 8, 9, 10, 11, 0]), (10, [8]), (10, [8]), (10, [8]), (10, [8]), (10, [8]), (10, [2])]
def BActs_9 : bS := [(0, [4, 0, 0]), (12, [5, 2, 2, 2, 2, 2, 2, 2, 2, 2, 2, 2, 2, 2, 2, 2]), (1, [6, 7, 8, 9, 10, 11, 0]), (10, [8]), (10, [8]), (10, [8]), (10, [8]), (10, [8]), (10, [2]), (1, [2, 2, 2, 2, 2, 2, 0])]
def BActs_10 : bS := [(0, [4, 0, 0]), (12, [5, 2, 2, 2, 2, 2, 2, 2, 2, 2, 2, 2, 2, 2, 2, 2]), (1, [6, 7, 8, 9, 10, 11, 0]), (10, [8]), (10, [8]), (10, [8]), (10, [8]), (10, [8]), (10, [2])]
def BActs_11 : bS := [(0, [4, 0, 0]), (12, [5, 2, 2, 2, 2, 2, 2, 2, 2, 2, 2, 2, 2, 2, 2, 2]), (1, [6, 7, 8, 9, 10, 11, 0]), (10, [8]), (10, [8]), (10, [8]), (10, [8]), (10, [8]), (10, [2]), (1, [13, 14, 15, 16, 17, 18, 0]), (10, [8]), (10, [8]), (10, [8]), (10, [8]), (10, [8]), (10, [2])]
def BActs_12 : bS := [(0, [4, 0, 0]), (12, [5, 12, 2, 2, 2, 2, 2, 2, 2, 2, 2, 2, 2, 2, 2, 2]), (1, [6, 7, 8, 9, 10, 11, 0]), (10, [8]), (10, [8]), (10, [8]), (10, [8]), (10, [8]), (10, [2]), (1, [13, 14, 15, 16, 17, 18, 0]), (10, [8]), (10, [8]), (10, [8]), (10, [8]), (10, [8]), (10, [2])]
def BActs_13 : bS := [(0, [4, 0, 0]), (12, [5, 12, 2, 2, 2, 2, 2, 2, 2, 2, 2, 2, 2, 2, 2, 2]), (1, [6, 7, 8, 9, 10, 11, 0]), (10, [8]), (10, [8]), (10, [8]), (10, [8]), (10, [8]), (10, [2]), (1, [13, 14, 15, 16, 17, 18, 0]), (10, [8]), (10, [8]), (10, [8]), (10, [8]), (10, [8]), (10, [2]), (1, [2, 2, 2, 2, 2, 2, 0])]
def BActs_14 : bS := [(0, [4, 0, 0]), (12, [5, 12, 2, 2, 2, 2, 2, 2, 2, 2, 2, 2, 2, 2, 2, 2]), (1, [6, 7, 8, 9, 10, 11, 0]), (10, [8]), (10, [8]), (10, [8]), (10, [8]), (10, [8]), (10, [2]), (1, [13, 14, 15, 16, 17, 18, 0]), (10, [8]), (10, [8]), (10, [8]), (10, [8]), (10, [8]), (10, [2])]
def BActs_15 : bS := [(0, [4, 0, 0]), (12, [5, 12, 2, 2, 2, 2, 2, 2, 2, 2, 2, 2, 2, 2, 2, 2]), (1, [6, 7, 8, 9, 10, 11, 0]), (10, [8]), (10, [8]), (10, [8]), (10, [8]), (10, [8]), (10, [2]), (1, [13, 14, 15, 16, 17, 18, 0]), (10, [8]), (10, [8]), (10, [8]), (10, [8]), (10, [8]), (10, [2]), (1, [20, 21, 22, 23, 24, 25, 0]), (10, [8]), (10, [8]), (10, [8]), (10, [8]), (10, [8]), (10, [2])]
def BActs_16 : bS := [(0, [4, 0, 0]), (12, [5, 12, 19, 2, 2, 2, 2, 2, 2, 2, 2, 2, 2, 2, 2, 2]), (1, [6, 7, 8, 9, 10, 11, 0]), (10, [8]), (10, [8]), (10, [8]), (10, [8]), (10, [8]), (10, [2]), (1, [13, 14, 15, 16, 17, 18, 0]), (10, [8]), (10, [8]), (10, [8]), (10, [8]), (10, [8]), (10, [2]), (1, [20, 21, 22, 23, 24, 25, 0]), (10, [8]), (10, [8]), (10, [8]), (10, [8]), (10, [8]), (10, [2])]
def BActs_17 : bS := [(0, [4, 0, 0]), (12, [5, 12, 19, 2, 2, 2, 2, 2, 2, 2, 2, 2, 2, 2, 2, 2]), (1, [6, 7, 8, 9, 10, 11, 0]), (10, [8]), (10, [8]), (10, [8]), (10, [8]), (10, [8]), (10, [2]), (1, [13, 14, 15, 16, 17, 18, 0]), (10, [8]), (10, [8]), (10, [8]), (10, [8]), (10, [8]), (10, [2]), (1, [20, 21, 22, 23, 24, 25, 0]), (10, [8]), (10, [8]), (10, [8]), (10, [8]), (10, [8]), (10, [2]), (1, [2, 2, 2, 2, 2, 2, 0])]
def BActs_18 : bS := [(0, [4, 0, 0]), (12, [5, 12, 19, 2, 2, 2, 2, 2, 2, 2, 2, 2, 2, 2, 2, 2]), (1, [6, 7, 8, 9, 10, 11, 0]), (10, [8]), (10, [8]), (10, [8]), (10, [8]), (10, [8]), (10, [2]), (1, [13, 14, 15, 16, 17, 18, 0]), (10, [8]), (10, [8]), (10, [8]), (10, [8]), (10, [8]), (10, [2]), (1, [20, 21, 22, 23, 24, 25, 0]), (10, [8]), (10, [8]), (10, [8]), (10, [8]), (10, [8]), (10, [2])]
def BActs_19 : bS := [(0, [4, 0, 0]), (12, [5, 12, 19, 2, 2, 2, 2, 2, 2, 2, 2, 2, 2, 2, 2, 2]), (1, [6, 7, 8, 9, 10, 11, 0]), (10, [8]), (10, [8]), (10, [8]), (10, [8]), (10, [8]), (10, [2]), (1, [13, 14, 15, 16, 17, 18, 0]), (10, [8]), (10, [8]), (10, [8]), (10, [8]), (10, [8]), (10, [2]), (1, [20, 21, 22, 23, 24, 25, 0]), (10, [8]), (10, [8]), (10, [8]), (10, [8]), (10, [8]), (10, [2]), (1, [27, 28, 29, 30, 31, 32, 0]), (10, [8]), (10, [8]), (10, [8]), (10, [8]), (10, [8]), (10, [2])]
def BActs_20 : bS := [(0, [4, 0, 0]), (12, [5, 12, 19, 26, 2, 2, 2, 2, 2, 2, 2, 2, 2, 2, 2, 2]), (1, [6, 7, 8, 9, 10, 11, 0]), (10, [8]), (10, [8]), (10, [8]), (10, [8]), (10, [8]), (10, [2]), (1, [13, 14, 15, 16, 17, 18, 0]), (10, [8]), (10, [8]), (10, [8]), (10, [8]), (10, [8]), (10, [2]), (1, [20, 21, 22, 23, 24, 25, 0]), (10, [8]), (10, [8]), (10, [8]), (10, [8]), (10, [8]), (10, [2]), (1, [27, 28, 29, 30, 31, 32, 0]), (10, [8]), (10, [8]), (10, [8]), (10, [8]), (10, [8]), (10, [2])]
def BActs_21 : bS := [(0, [4, 0, 0]), (12, [5, 12, 19, 26, 2, 2, 2, 2, 2, 2, 2, 2, 2, 2, 2, 2]), (1, [6, 7, 8, 9, 10, 11, 0]), (10, [8]), (10, [8]), (10, [8]), (10, [8]), (10, [8]), (10, [2]), (1, [13, 14, 15, 16, 17, 18, 0]), (10, [8]), (10, [8]), (10, [8]), (10, [8]), (10, [8]), (10, [2]), (1, [20, 21, 22, 23, 24, 25, 0]), (10, [8]), (10, [8]), (10, [8]), (10, [8]), (10, [8]), (10, [2]), (1, [27, 28, 29, 30, 31, 32, 0]), (10, [8]), (10, [8]), (10, [8]), (10, [8]), (10, [8]), (10, [2]), (1, [2, 2, 2, 2, 2, 2, 0])]
def BActs_22 : bS := [(0, [4, 0, 0]), (12, [5, 12, 19, 26, 2, 2, 2, 2, 2, 2, 2, 2, 2, 2, 2, 2]), (1, [6, 7, 8, 9, 10, 11, 0]), (10, [8]), (10, [8]), (10, [8]), (10, [8]), (10, [8]), (10, [2]), (1, [13, 14, 15, 16, 17, 18, 0]), (10, [8]), (10, [8]), (10, [8]), (10, [8]), (10, [8]), (10, [2]), (1, [20, 21, 22, 23, 24, 25, 0]), (10, [8]), (10, [8]), (10, [8]), (10, [8]), (10, [8]), (10, [2]), (1, [27, 28, 29, 30, 31, 32, 0]), (10, [8]), (10, [8]), (10, [8]), (10, [8]), (10, [8]), (10, [2])]
def BActs_23 : bS := [(0, [4, 0, 0]), (12, [5, 12, 19, 26, 2, 2, 2, 2, 2, 2, 2, 2, 2, 2, 2, 2]), (1, [6, 7, 8, 9, 10, 11, 0]), (10, [8]), (10, [8]), (10, [8]), (10, [8]), (10, [8]), (10, [2]), (1, [13, 14, 15, 16, 17, 18, 0]), (10, [8]), (10, [8]), (10, [8]), (10, [8]), (10, [8]), (10, [2]), (1, [20, 21, 22, 23, 24, 25, 0]), (10, [8]), (10, [8]), (10, [8]), (10, [8]), (10, [8]), (10, [2]), (1, [27, 28, 29, 30, 31, 32, 0]), (10, [8]), (10, [8]), (10, [8]), (10, [8]), (10, [8]), (10, [2]), (1, [34, 35, 36, 37, 38, 39, 0]), (10, [8]), (10, [8]), (10, [8]), (10, [8]), (10, [8]), (10, [2])]
def BActs_24 : bS := [(0, [4, 0, 0]), (12, [5, 12, 19, 26, 33, 2, 2, 2, 2, 2, 2, 2, 2, 2, 2, 2]), (1, [6, 7, 8, 9, 10, 11, 0]), (10, [8]), (10, [8]), (10, [8]), (10, [8]), (10, [8]), (10, [2]), (1, [13, 14, 15, 16, 17, 18, 0]), (10, [8]), (10, [8]), (10, [8]), (10, [8]), (10, [8]), (10, [2]), (1, [20, 21, 22, 23, 24, 25, 0]), (10, [8]), (10, [8]), (10, [8]), (10, [8]), (10, [8]), (10, [2]), (1, [27, 28, 29, 30, 31, 32, 0]), (10, [8]), (10, [8]), (10, [8]), (10, [8]), (10, [8]), (10, [2]), (1, [34, 35, 36, 37, 38, 39, 0]), (10, [8]), (10, [8]), (10, [8]), (10, [8]), (10, [8]), (10, [2])]
def BActs_25 : bS := [(0, [4, 0, 0]), (12, [5, 12, 19, 26, 33, 2, 2, 2, 2, 2, 2, 2, 2, 2, 2, 2]), (1, [6, 7, 8, 9, 10, 11, 0]), (10, [8]), (10, [8]), (10, [8]), (10, [8]), (10, [8]), (10, [2]), (1, [13, 14, 15, 16, 17, 18, 0]), (10, [8]), (10, [8]), (10, [8]), (10, [8]), (10, [8]), (10, [2]), (1, [20, 21, 22, 23, 24, 25, 0]), (10, [8]), (10, [8]), (10, [8]), (10, [8]), (10, [8]), (10, [2]), (1, [27, 28, 29, 30, 31, 32, 0]), (10, [8]), (10, [8]), (10, [8]), (10, [8]), (10, [8]), (10, [2]), (1, [34, 35, 36, 37, 38, 39, 0]), (10, [8]), (10, [8]), (10, [8]), (10, [8]), (10, [8]), (10, [2]), (1, [2, 2, 2, 2, 2, 2, 0])]
def BActs_26 : bS := [(0, [4, 0, 0]), (12, [5, 12, 19, 26, 33, 2, 2, 2, 2, 2, 2, 2, 2, 2, 2, 2]), (1, [6, 7, 8, 9, 10, 11, 0]), (10, [8]), (10, [8]), (10, [8]), (10, [8]), (10, [8]), (10, [2]), (1, [13, 14, 15, 16, 17, 18, 0]), (10, [8]), (10, [8]), (10, [8]), (10, [8]), (10, [8]), (10, [2]), (1, [20, 21, 22, 23, 24, 25, 0]), (10, [8]), (10, [8]), (10, [8]), (10, [8]), (10, [8]), (10, [2]), (1, [27, 28, 29, 30, 31, 32, 0]), (10, [8]), (10, [8]), (10, [8]), (10, [8]), (10, [8]), (10, [2]), (1, [34, 35, 36, 37, 38, 39, 0]), (10, [8]), (10, [8]), (10, [8]), (10, [8]), (10, [8]), (10, [2])]
def BActs_27 : bS := [(0, [4, 0, 0]), (12, [5, 12, 19, 26, 33, 2, 2, 2, 2, 2, 2, 2, 2, 2, 2, 2]), (1, [6, 7, 8, 9, 10, 11, 0]), (10, [8]), (10, [8]), (10, [8]), (10, [8]), (10, [8]), (10, [2]), (1, [13, 14, 15, 16, 17, 18, 0]), (10, [8]), (10, [8]), (10, [8]), (10, [8]), (10, [8]), (10, [2]), (1, [20, 21, 22, 23, 24, 25, 0]), (10, [8]), (10, [8]), (10, [8]), (10, [8]), (10, [8]), (10, [2]), (1, [27, 28, 29, 30, 31, 32, 0]), (10, [8]), (10, [8]), (10, [8]), (10, [8]), (10, [8]), (10, [2]), (1, [34, 35, 36, 37, 38, 39, 0]), (10, [8]), (10, [8]), (10, [8]), (10, [8]), (10, [8]), (10, [2]), (1, [41, 42, 43, 44, 45, 46, 0]), (10, [8]), (10, [8]), (10, [8]), (10, [8]), (10, [8]), (10, [2])]
def BActs_28 : bS := [(0, [4, 0, 0]), (12, [5, 12, 19, 26, 33, 40, 2, 2, 2, 2, 2, 2, 2, 2, 2, 2]), (1, [6, 7, 8, 9, 10, 11, 0]), (10, [8]), (10, [8]), (10, [8]), (10, [8]), (10, [8]), (10, [2]), (1, [13, 14, 15, 16, 17, 18, 0]), (10, [8]), (10, [8]), (10, [8]), (10, [8]), (10, [8]), (10, [2]), (1, [20, 21, 22, 23, 24, 25, 0]), (10, [8]), (10, [8]), (10, [8]), (10, [8]), (10, [8]), (10, [2]), (1, [27, 28, 29, 30, 31, 32, 0]), (10, [8]), (10, [8]), (10, [8]), (10, [8]), (10, [8]), (10, [2]), (1, [34, 35, 36, 37, 38, 39, 0]), (10, [8]), (10, [8]), (10, [8]), (10, [8]), (10, [8]), (10, [2]), (1, [41, 42, 43, 44, 45, 46, 0]), (10, [8]), (10, [8]), (10, [8]), (10, [8]), (10, [8]), (10, [2])]
def BActs_29 : bS := [(0, [4, 0, 0]), (12, [5, 12, 19, 26, 33, 40, 2, 2, 2, 2, 2, 2, 2, 2, 2, 2]), (1, [6, 7, 8, 9, 10, 11, 0]), (10, [8]), (10, [8]), (10, [8]), (10, [8]), (10, [8]), (10, [2]), (1, [13, 14, 15, 16, 17, 18, 0]), (10, [8]), (10, [8]), (10, [8]), (10, [8]), (10, [8]), (10, [2]), (1, [20, 21, 22, 23, 24, 25, 0]), (10, [8]), (10, [8]), (10, [8]), (10, [8]), (10, [8]), (10, [2]), (1, [27, 28, 29, 30, 31, 32, 0]), (10, [8]), (10, [8]), (10, [8]), (10, [8]), (10, [8]), (10, [2]), (1, [34, 35, 36, 37, 38, 39, 0]), (10, [8]), (10, [8]), (10, [8]), (10, [8]), (10, [8]), (10, [2]), (1, [41, 42, 43, 44, 45, 46, 0]), (10, [8]), (10, [8]), (10, [8]), (10, [8]), (10, [8]), (10, [2]), (1, [2, 2, 2, 2, 2, 2, 0])]
def BActs_30 : bS := [(0, [4, 0, 0]), (12, [5, 12, 19, 26, 33, 40, 2, 2, 2, 2, 2, 2, 2, 2, 2, 2]), (1, [6, 7, 8, 9, 10, 11, 0]), (10, [8]), (10, [8]), (10, [8]), (10, [8]), (10, [8]), (10, [2]), (1, [13, 14, 15, 16, 17, 18, 0]), (10, [8]), (10, [8]), (10, [8]), (10, [8]), (10, [8]), (10, [2]), (1, [20, 21, 22, 23, 24, 25, 0]), (10, [8]), (10, [8]), (10, [8]), (10, [8]), (10, [8]), (10, [2]), (1, [27, 28, 29, 30, 31, 32, 0]), (10, [8]), (10, [8]), (10, [8]), (10, [8]), (10, [8]), (10, [2]), (1, [34, 35, 36, 37, 38, 39, 0]), (10, [8]), (10, [8]), (10, [8]), (10, [8]), (10, [8]), (10, [2]), (1, [41, 42, 43, 44, 45, 46, 0]), (10, [8]), (10, [8]), (10, [8]), (10, [8]), (10, [8]), (10, [2])]
def BActs_31 : bS := [(0, [4, 0, 0]), (12, [5, 12, 19, 26, 33, 40, 2, 2, 2, 2, 2, 2, 2, 2, 2, 2]), (1, [6, 7, 8, 9, 10, 11, 0]), (10, [8]), (10, [8]), (10, [8]), (10, [8]), (10, [8]), (10, [2]), (1, [13, 14, 15, 16, 17, 18, 0]), (10, [8]), (10, [8]), (10, [8]), (10, [8]), (10, [8]), (10, [2]), (1, [20, 21, 22, 23, 24, 25, 0]), (10, [8]), (10, [8]), (10, [8]), (10, [8]), (10, [8]), (10, [2]), (1, [27, 28, 29, 30, 31, 32, 0]), (10, [8]), (10, [8]), (10, [8]), (10, [8]), (10, [8]), (10, [2]), (1, [34, 35, 36, 37, 38, 39, 0]), (10, [8]), (10, [8]), (10, [8]), (10, [8]), (10, [8]), (10, [2]), (1, [41, 42, 43, 44, 45, 46, 0]), (10, [8]), (10, [8]), (10, [8]), (10, [8]), (10, [8]), (10, [2]), (1, [48, 49, 50, 51, 52, 53, 0]), (10, [8]), (10, [8]), (10, [8]), (10, [8]), (10, [8]), (10, [2])]
def BActs_32 : bS := [(0, [4, 0, 0]), (12, [5, 12, 19, 26, 33, 40, 47, 2, 2, 2, 2, 2, 2, 2, 2, 2]), (1, [6, 7, 8, 9, 10, 11, 0]), (10, [8]), (10, [8]), (10, [8]), (10, [8]), (10, [8]), (10, [2]), (1, [13, 14, 15, 16, 17, 18, 0]), (10, [8]), (10, [8]), (10, [8]), (10, [8]), (10, [8]), (10, [2]), (1, [20, 21, 22, 23, 24, 25, 0]), (10, [8]), (10, [8]), (10, [8]), (10, [8]), (10, [8]), (10, [2]), (1, [27, 28, 29, 30, 31, 32, 0]), (10, [8]), (10, [8]), (10, [8]), (10, [8]), (10, [8]), (10, [2]), (1, [34, 35, 36, 37, 38, 39, 0]), (10, [8]), (10, [8]), (10, [8]), (10, [8]), (10, [8]), (10, [2]), (1, [41, 42, 43, 44, 45, 46, 0]), (10, [8]), (10, [8]), (10, [8]), (10, [8]), (10, [8]), (10, [2]), (1, [48, 49, 50, 51, 52, 53, 0]), (10, [8]), (10, [8]), (10, [8]), (10, [8]), (10, [8]), (10, [2])]
def BActs_33 : bS := [(0, [4, 0, 0]), (12, [5, 12, 19, 26, 33, 40, 47, 2, 2, 2, 2, 2, 2, 2, 2, 2]), (1, [6, 7, 8, 9, 10, 11, 0]), (10, [8]), (10, [8]), (10, [8]), (10, [8]), (10, [8]), (10, [2]), (1, [13, 14, 15, 16, 17, 18, 0]), (10, [8]), (10, [8]), (10, [8]), (10, [8]), (10, [8]), (10, [2]), (1, [20, 21, 22, 23, 24, 25, 0]), (10, [8]), (10, [8]), (10, [8]), (10, [8]), (10, [8]), (10, [2]), (1, [27, 28, 29, 30, 31, 32, 0]), (10, [8]), (10, [8]), (10, [8]), (10, [8]), (10, [8]), (10, [2]), (1, [34, 35, 36, 37, 38, 39, 0]), (10, [8]), (10, [8]), (10, [8]), (10, [8]), (10, [8]), (10, [2]), (1, [41, 42, 43, 44, 45, 46, 0]), (10, [8]), (10, [8]), (10, [8]), (10, [8]), (10, [8]), (10, [2]), (1, [48, 49, 50, 51, 52, 53, 0]), (10, [8]), (10, [8]), (10, [8]), (10, [8]), (10, [8]), (10, [2]), (1, [2, 2, 2, 2, 2, 2, 0])]
def BActs_34 : bS := [(0, [4, 0, 0]), (12, [5, 12, 19, 26, 33, 40, 47, 2, 2, 2, 2, 2, 2, 2, 2, 2]), (1, [6, 7, 8, 9, 10, 11, 0]), (10, [8]), (10, [8]), (10, [8]), (10, [8]), (10, [8]), (10, [2]), (1, [13, 14, 15, 16, 17, 18, 0]), (10, [8]), (10, [8]), (10, [8]), (10, [8]), (10, [8]), (10, [2]), (1, [20, 21, 22, 23, 24, 25, 0]), (10, [8]), (10, [8]), (10, [8]), (10, [8]), (10, [8]), (10, [2]), (1, [27, 28, 29, 30, 31, 32, 0]), (10, [8]), (10, [8]), (10, [8]), (10, [8]), (10, [8]), (10, [2]), (1, [34, 35, 36, 37, 38, 39, 0]), (10, [8]), (10, [8]), (10, [8]), (10, [8]), (10, [8]), (10, [2]), (1, [41, 42, 43, 44, 45, 46, 0]), (10, [8]), (10, [8]), (10, [8]), (10, [8]), (10, [8]), (10, [2]), (1, [48, 49, 50, 51, 52, 53, 0]), (10, [8]), (10, [8]), (10, [8]), (10, [8]), (10, [8]), (10, [2])]
def BActs_35 : bS := [(0, [4, 0, 0]), (12, [5, 12, 19, 26, 33, 40, 47, 2, 2, 2, 2, 2, 2, 2, 2, 2]), (1, [6, 7, 8, 9, 10, 11, 0]), (10, [8]), (10, [8]), (10, [8]), (10, [8]), (10, [8]), (10, [2]), (1, [13, 14, 15, 16, 17, 18, 0]), (10, [8]), (10, [8]), (10, [8]), (10, [8]), (10, [8]), (10, [2]), (1, [20, 21, 22, 23, 24, 25, 0]), (10, [8]), (10, [8]), (10, [8]), (10, [8]), (10, [8]), (10, [2]), (1, [27, 28, 29, 30, 31, 32, 0]), (10, [8]), (10, [8]), (10, [8]), (10, [8]), (10, [8]), (10, [2]), (1, [34, 35, 36, 37, 38, 39, 0]), (10, [8]), (10, [8]), (10, [8]), (10, [8]), (10, [8]), (10, [2]), (1, [41, 42, 43, 44, 45, 46, 0]), (10, [8]), (10, [8]), (10, [8]), (10, [8]), (10, [8]), (10, [2]), (1, [48, 49, 50, 51, 52, 53, 0]), (10, [8]), (10, [8]), (10, [8]), (10, [8]), (10, [8]), (10, [2]), (1, [55, 56, 57, 58, 59, 60, 0]), (10, [8]), (10, [8]), (10, [8]), (10, [8]), (10, [8]), (10, [2])]
def BActs_36 : bS := [(0, [4, 0, 0]), (12, [5, 12, 19, 26, 33, 40, 47, 54, 2, 2, 2, 2, 2, 2, 2, 2]), (1, [6, 7, 8, 9, 10, 11, 0]), (10, [8]), (10, [8]), (10, [8]), (10, [8]), (10, [8]), (10, [2]), (1, [13, 14, 15, 16, 17, 18, 0]), (10, [8]), (10, [8]), (10, [8]), (10, [8]), (10, [8]), (10, [2]), (1, [20, 21, 22, 23, 24, 25, 0]), (10, [8]), (10, [8]), (10, [8]), (10, [8]), (10, [8]), (10, [2]), (1, [27, 28, 29, 30, 31, 32, 0]), (10, [8]), (10, [8]), (10, [8]), (10, [8]), (10, [8]), (10, [2]), (1, [34, 35, 36, 37, 38, 39, 0]), (10, [8]), (10, [8]), (10, [8]), (10, [8]), (10, [8]), (10, [2]), (1, [41, 42, 43, 44, 45, 46, 0]), (10, [8]), (10, [8]), (10, [8]), (10, [8]), (10, [8]), (10, [2]), (1, [48, 49, 50, 51, 52, 53, 0]), (10, [8]), (10, [8]), (10, [8]), (10, [8]), (10, [8]), (10, [2]), (1, [55, 56, 57, 58, 59, 60, 0]), (10, [8]), (10, [8]), (10, [8]), (10, [8]), (10, [8]), (10, [2])]
def BActs_37 : bS := [(0, [4, 0, 0]), (12, [5, 12, 19, 26, 33, 40, 47, 54, 2, 2, 2, 2, 2, 2, 2, 2]), (1, [6, 7, 8, 9, 10, 11, 0]), (10, [8]), (10, [8]), (10, [8]), (10, [8]), (10, [8]), (10, [2]), (1, [13, 14, 15, 16, 17, 18, 0]), (10, [8]), (10, [8]), (10, [8]), (10, [8]), (10, [8]), (10, [2]), (1, [20, 21, 22, 23, 24, 25, 0]), (10, [8]), (10, [8]), (10, [8]), (10, [8]), (10, [8]), (10, [2]), (1, [27, 28, 29, 30, 31, 32, 0]), (10, [8]), (10, [8]), (10, [8]), (10, [8]), (10, [8]), (10, [2]), (1, [34, 35, 36, 37, 38, 39, 0]), (10, [8]), (10, [8]), (10, [8]), (10, [8]), (10, [8]), (10, [2]), (1, [41, 42, 43, 44, 45, 46, 0]), (10, [8]), (10, [8]), (10, [8]), (10, [8]), (10, [8]), (10, [2]), (1, [48, 49, 50, 51, 52, 53, 0]), (10, [8]), (10, [8]), (10, [8]), (10, [8]), (10, [8]), (10, [2]), (1, [55, 56, 57, 58, 59, 60, 0]), (10, [8]), (10, [8]), (10, [8]), (10, [8]), (10, [8]), (10, [2]), (1, [2, 2, 2, 2, 2, 2, 0])]
def BActs_38 : bS := [(0, [4, 0, 0]), (12, [5, 12, 19, 26, 33, 40, 47, 54, 2, 2, 2, 2, 2, 2, 2, 2]), (1, [6, 7, 8, 9, 10, 11, 0]), (10, [8]), (10, [8]), (10, [8]), (10, [8]), (10, [8]), (10, [2]), (1, [13, 14, 15, 16, 17, 18, 0]), (10, [8]), (10, [8]), (10, [8]), (10, [8]), (10, [8]), (10, [2]), (1, [20, 21, 22, 23, 24, 25, 0]), (10, [8]), (10, [8]), (10, [8]), (10, [8]), (10, [8]), (10, [2]), (1, [27, 28, 29, 30, 31, 32, 0]), (10, [8]), (10, [8]), (10, [8]), (10, [8]), (10, [8]), (10, [2]), (1, [34, 35, 36, 37, 38, 39, 0]), (10, [8]), (10, [8]), (10, [8]), (10, [8]), (10, [8]), (10, [2]), (1, [41, 42, 43, 44, 45, 46, 0]), (10, [8]), (10, [8]), (10, [8]), (10, [8]), (10, [8]), (10, [2]), (1, [48, 49, 50, 51, 52, 53, 0]), (10, [8]), (10, [8]), (10, [8]), (10, [8]), (10, [8]), (10, [2]), (1, [55, 56, 57, 58, 59, 60, 0]), (10, [8]), (10, [8]), (10, [8]), (10, [8]), (10, [8]), (10, [2])]
def BActs_39 : bS := [(0, [4, 0, 0]), (12, [5, 12, 19, 26, 33, 40, 47, 54, 2, 2, 2, 2, 2, 2, 2, 2]), (1, [6, 7, 8, 9, 10, 11, 0]), (10, [8]), (10, [8]), (10, [8]), (10, [8]), (10, [8]), (10, [2]), (1, [13, 14, 15, 16, 17, 18, 0]), (10, [8]), (10, [8]), (10, [8]), (10, [8]), (10, [8]), (10, [2]), (1, [20, 21, 22, 23, 24, 25, 0]), (10, [8]), (10, [8]), (10, [8]), (10, [8]), (10, [8]), (10, [2]), (1, [27, 28, 29, 30, 31, 32, 0]), (10, [8]), (10, [8]), (10, [8]), (10, [8]), (10, [8]), (10, [2]), (1, [34, 35, 36, 37, 38, 39, 0]), (10, [8]), (10, [8]), (10, [8]), (10, [8]), (10, [8]), (10, [2]), (1, [41, 42, 43, 44, 45, 46, 0]), (10, [8]), (10, [8]), (10, [8]), (10, [8]), (10, [8]), (10, [2]), (1, [48, 49, 50, 51, 52, 53, 0]), (10, [8]), (10, [8]), (10, [8]), (10, [8]), (10, [8]), (10, [2]), (1, [55, 56, 57, 58, 59, 60, 0]), (10, [8]), (10, [8]), (10, [8]), (10, [8]), (10, [8]), (10, [2]), (1, [62, 63, 64, 65, 66, 67, 0]), (10, [8]), (10, [8]), (10, [8]), (10, [8]), (10, [8]), (10, [2])]
def BActs_40 : bS := [(0, [4, 0, 0]), (12, [5, 12, 19, 26, 33, 40, 47, 54, 61, 2, 2, 2, 2, 2, 2, 2]), (1, [6, 7, 8, 9, 10, 11, 0]), (10, [8]), (10, [8]), (10, [8]), (10, [8]), (10, [8]), (10, [2]), (1, [13, 14, 15, 16, 17, 18, 0]), (10, [8]), (10, [8]), (10, [8]), (10, [8]), (10, [8]), (10, [2]), (1, [20, 21, 22, 23, 24, 25, 0]), (10, [8]), (10, [8]), (10, [8]), (10, [8]), (10, [8]), (10, [2]), (1, [27, 28, 29, 30, 31, 32, 0]), (10, [8]), (10, [8]), (10, [8]), (10, [8]), (10, [8]), (10, [2]), (1, [34, 35, 36, 37, 38, 39, 0]), (10, [8]), (10, [8]), (10, [8]), (10, [8]), (10, [8]), (10, [2]), (1, [41, 42, 43, 44, 45, 46, 0]), (10, [8]), (10, [8]), (10, [8]), (10, [8]), (10, [8]), (10, [2]), (1, [48, 49, 50, 51, 52, 53, 0]), (10, [8]), (10, [8]), (10, [8]), (10, [8]), (10, [8]), (10, [2]), (1, [55, 56, 57, 58, 59, 60, 0]), (10, [8]), (10, [8]), (10, [8]), (10, [8]), (10, [8]), (10, [2]), (1, [62, 63, 64, 65, 66, 67, 0]), (10, [8]), (10, [8]), (10, [8]), (10, [8]), (10, [8]), (10, [2])]
def BActs_41 : bS := [(0, [4, 0, 0]), (12, [5, 12, 19, 26, 33, 40, 47, 54, 61, 2, 2, 2, 2, 2, 2, 2]), (1, [6, 7, 8, 9, 10, 11, 0]), (10, [8]), (10, [8]), (10, [8]), (10, [8]), (10, [8]), (10, [2]), (1, [13, 14, 15, 16, 17, 18, 0]), (10, [8]), (10, [8]), (10, [8]), (10, [8]), (10, [8]), (10, [2]), (1, [20, 21, 22, 23, 24, 25, 0]), (10, [8]), (10, [8]), (10, [8]), (10, [8]), (10, [8]), (10, [2]), (1, [27, 28, 29, 30, 31, 32, 0]), (10, [8]), (10, [8]), (10, [8]), (10, [8]), (10, [8]), (10, [2]), (1, [34, 35, 36, 37, 38, 39, 0]), (10, [8]), (10, [8]), (10, [8]), (10, [8]), (10, [8]), (10, [2]), (1, [41, 42, 43, 44, 45, 46, 0]), (10, [8]), (10, [8]), (10, [8]), (10, [8]), (10, [8]), (10, [2]), (1, [48, 49, 50, 51, 52, 53, 0]), (10, [8]), (10, [8]), (10, [8]), (10, [8]), (10, [8]), (10, [2]), (1, [55, 56, 57, 58, 59, 60, 0]), (10, [8]), (10, [8]), (10, [8]), (10, [8]), (10, [8]), (10, [2]), (1, [62, 63, 64, 65, 66, 67, 0]), (10, [8]), (10, [8]), (10, [8]), (10, [8]), (10, [8]), (10, [2]), (1, [2, 2, 2, 2, 2, 2, 0])]
def BActs_42 : bS := [(0, [4, 0, 0]), (12, [5, 12, 19, 26, 33, 40, 47, 54, 61, 2, 2, 2, 2, 2, 2, 2]), (1, [6, 7, 8, 9, 10, 11, 0]), (10, [8]), (10, [8]), (10, [8]), (10, [8]), (10, [8]), (10, [2]), (1, [13, 14, 15, 16, 17, 18, 0]), (10, [8]), (10, [8]), (10, [8]), (10, [8]), (10, [8]), (10, [2]), (1, [20, 21, 22, 23, 24, 25, 0]), (10, [8]), (10, [8]), (10, [8]), (10, [8]), (10, [8]), (10, [2]), (1, [27, 28, 29, 30, 31, 32, 0]), (10, [8]), (10, [8]), (10, [8]), (10, [8]), (10, [8]), (10, [2]), (1, [34, 35, 36, 37, 38, 39, 0]), (10, [8]), (10, [8]), (10, [8]), (10, [8]), (10, [8]), (10, [2]), (1, [41, 42, 43, 44, 45, 46, 0]), (10, [8]), (10, [8]), (10, [8]), (10, [8]), (10, [8]), (10, [2]), (1, [48, 49, 50, 51, 52, 53, 0]), (10, [8]), (10, [8]), (10, [8]), (10, [8]), (10, [8]), (10, [2]), (1, [55, 56, 57, 58, 59, 60, 0]), (10, [8]), (10, [8]), (10, [8]), (10, [8]), (10, [8]), (10, [2]), (1, [62, 63, 64, 65, 66, 67, 0]), (10, [8]), (10, [8]), (10, [8]), (10, [8]), (10, [8]), (10, [2])]
def BActs_43 : bS := [(0, [4, 0, 0]), (12, [5, 12, 19, 26, 33, 40, 47, 54, 61, 2, 2, 2, 2, 2, 2, 2]), (1, [6, 7, 8, 9, 10, 11, 0]), (10, [8]), (10, [8]), (10, [8]), (10, [8]), (10, [8]), (10, [2]), (1, [13, 14, 15, 16, 17, 18, 0]), (10, [8]), (10, [8]), (10, [8]), (10, [8]), (10, [8]), (10, [2]), (1, [20, 21, 22, 23, 24, 25, 0]), (10, [8]), (10, [8]), (10, [8]), (10, [8]), (10, [8]), (10, [2]), (1, [27, 28, 29, 30, 31, 32, 0]), (10, [8]), (10, [8]), (10, [8]), (10, [8]), (10, [8]), (10, [2]), (1, [34, 35, 36, 37, 38, 39, 0]), (10, [8]), (10, [8]), (10, [8]), (10, [8]), (10, [8]), (10, [2]), (1, [41, 42, 43, 44, 45, 46, 0]), (10, [8]), (10, [8]), (10, [8]), (10, [8]), (10, [8]), (10, [2]), (1, [48, 49, 50, 51, 52, 53, 0]), (10, [8]), (10, [8]), (10, [8]), (10, [8]), (10, [8]), (10, [2]), (1, [55, 56, 57, 58, 59, 60, 0]), (10, [8]), (10, [8]), (10, [8]), (10, [8]), (10, [8]), (10, [2]), (1, [62, 63, 64, 65, 66, 67, 0]), (10, [8]), (10, [8]), (10, [8]), (10, [8]), (10, [8]), (10, [2]), (1, [69, 70, 71, 72, 73, 74, 0]), (10, [8]), (10, [8]), (10, [8]), (10, [8]), (10, [8]), (10, [2])]
def BActs_44 : bS := [(0, [4, 0, 0]), (12, [5, 12, 19, 26, 33, 40, 47, 54, 61, 68, 2, 2, 2, 2, 2, 2]), (1, [6, 7, 8, 9, 10, 11, 0]), (10, [8]), (10, [8]), (10, [8]), (10, [8]), (10, [8]), (10, [2]), (1, [13, 14, 15, 16, 17, 18, 0]), (10, [8]), (10, [8]), (10, [8]), (10, [8]), (10, [8]), (10, [2]), (1, [20, 21, 22, 23, 24, 25, 0]), (10, [8]), (10, [8]), (10, [8]), (10, [8]), (10, [8]), (10, [2]), (1, [27, 28, 29, 30, 31, 32, 0]), (10, [8]), (10, [8]), (10, [8]), (10, [8]), (10, [8]), (10, [2]), (1, [34, 35, 36, 37, 38, 39, 0]), (10, [8]), (10, [8]), (10, [8]), (10, [8]), (10, [8]), (10, [2]), (1, [41, 42, 43, 44, 45, 46, 0]), (10, [8]), (10, [8]), (10, [8]), (10, [8]), (10, [8]), (10, [2]), (1, [48, 49, 50, 51, 52, 53, 0]), (10, [8]), (10, [8]), (10, [8]), (10, [8]), (10, [8]), (10, [2]), (1, [55, 56, 57, 58, 59, 60, 0]), (10, [8]), (10, [8]), (10, [8]), (10, [8]), (10, [8]), (10, [2]), (1, [62, 63, 64, 65, 66, 67, 0]), (10, [8]), (10, [8]), (10, [8]), (10, [8]), (10, [8]), (10, [2]), (1, [69, 70, 71, 72, 73, 74, 0]), (10, [8]), (10, [8]), (10, [8]), (10, [8]), (10, [8]), (10, [2])]
def BActs_45 : bS := [(0, [4, 0, 0]), (12, [5, 12, 19, 26, 33, 40, 47, 54, 61, 68, 2, 2, 2, 2, 2, 2]), (1, [6, 7, 8, 9, 10, 11, 0]), (10, [8]), (10, [8]), (10, [8]), (10, [8]), (10, [8]), (10, [2]), (1, [13, 14, 15, 16, 17, 18, 0]), (10, [8]), (10, [8]), (10, [8]), (10, [8]), (10, [8]), (10, [2]), (1, [20, 21, 22, 23, 24, 25, 0]), (10, [8]), (10, [8]), (10, [8]), (10, [8]), (10, [8]), (10, [2]), (1, [27, 28, 29, 30, 31, 32, 0]), (10, [8]), (10, [8]), (10, [8]), (10, [8]), (10, [8]), (10, [2]), (1, [34, 35, 36, 37, 38, 39, 0]), (10, [8]), (10, [8]), (10, [8]), (10, [8]), (10, [8]), (10, [2]), (1, [41, 42, 43, 44, 45, 46, 0]), (10, [8]), (10, [8]), (10, [8]), (10, [8]), (10, [8]), (10, [2]), (1, [48, 49, 50, 51, 52, 53, 0]), (10, [8]), (10, [8]), (10, [8]), (10, [8]), (10, [8]), (10, [2]), (1, [55, 56, 57, 58, 59, 60, 0]), (10, [8]), (10, [8]), (10, [8]), (10, [8]), (10, [8]), (10, [2]), (1, [62, 63, 64, 65, 66, 67, 0]), (10, [8]), (10, [8]), (10, [8]), (10, [8]), (10, [8]), (10, [2]), (1, [69, 70, 71, 72, 73, 74, 0]), (10, [8]), (10, [8]), (10, [8]), (10, [8]), (10, [8]), (10, [2]), (1, [2, 2, 2, 2, 2, 2, 0])]
def BActs_46 : bS := [(0, [4, 0, 0]), (12, [5, 12, 19, 26, 33, 40, 47, 54, 61, 68, 2, 2, 2, 2, 2, 2]), (1, [6, 7, 8, 9, 10, 11, 0]), (10, [8]), (10, [8]), (10, [8]), (10, [8]), (10, [8]), (10, [2]), (1, [13, 14, 15, 16, 17, 18, 0]), (10, [8]), (10, [8]), (10, [8]), (10, [8]), (10, [8]), (10, [2]), (1, [20, 21, 22, 23, 24, 25, 0]), (10, [8]), (10, [8]), (10, [8]), (10, [8]), (10, [8]), (10, [2]), (1, [27, 28, 29, 30, 31, 32, 0]), (10, [8]), (10, [8]), (10, [8]), (10, [8]), (10, [8]), (10, [2]), (1, [34, 35, 36, 37, 38, 39, 0]), (10, [8]), (10, [8]), (10, [8]), (10, [8]), (10, [8]), (10, [2]), (1, [41, 42, 43, 44, 45, 46, 0]), (10, [8]), (10, [8]), (10, [8]), (10, [8]), (10, [8]), (10, [2]), (1, [48, 49, 50, 51, 52, 53, 0]), (10, [8]), (10, [8]), (10, [8]), (10, [8]), (10, [8]), (10, [2]), (1, [55, 56, 57, 58, 59, 60, 0]), (10, [8]), (10, [8]), (10, [8]), (10, [8]), (10, [8]), (10, [2]), (1, [62, 63, 64, 65, 66, 67, 0]), (10, [8]), (10, [8]), (10, [8]), (10, [8]), (10, [8]), (10, [2]), (1, [69, 70, 71, 72, 73, 74, 0]), (10, [8]), (10, [8]), (10, [8]), (10, [8]), (10, [8]), (10, [2])]
def BActs_47 : bS := [(0, [4, 0, 0]), (12, [5, 12, 19, 26, 33, 40, 47, 54, 61, 68, 2, 2, 2, 2, 2, 2]), (1, [6, 7, 8, 9, 10, 11, 0]), (10, [8]), (10, [8]), (10, [8]), (10, [8]), (10, [8]), (10, [2]), (1, [13, 14, 15, 16, 17, 18, 0]), (10, [8]), (10, [8]), (10, [8]), (10, [8]), (10, [8]), (10, [2]), (1, [20, 21, 22, 23, 24, 25, 0]), (10, [8]), (10, [8]), (10, [8]), (10, [8]), (10, [8]), (10, [2]), (1, [27, 28, 29, 30, 31, 32, 0]), (10, [8]), (10, [8]), (10, [8]), (10, [8]), (10, [8]), (10, [2]), (1, [34, 35, 36, 37, 38, 39, 0]), (10, [8]), (10, [8]), (10, [8]), (10, [8]), (10, [8]), (10, [2]), (1, [41, 42, 43, 44, 45, 46, 0]), (10, [8]), (10, [8]), (10, [8]), (10, [8]), (10, [8]), (10, [2]), (1, [48, 49, 50, 51, 52, 53, 0]), (10, [8]), (10, [8]), (10, [8]), (10, [8]), (10, [8]), (10, [2]), (1, [55, 56, 57, 58, 59, 60, 0]), (10, [8]), (10, [8]), (10, [8]), (10, [8]), (10, [8]), (10, [2]), (1, [62, 63, 64, 65, 66, 67, 0]), (10, [8]), (10, [8]), (10, [8]), (10, [8]), (10, [8]), (10, [2]), (1, [69, 70, 71, 72, 73, 74, 0]), (10, [8]), (10, [8]), (10, [8]), (10, [8]), (10, [8]), (10, [2]), (1, [76, 77, 78, 79, 80, 81, 0]), (10, [8]), (10, [8]), (10, [8]), (10, [8]), (10, [8]), (10, [2])]
def BActs_48 : bS := [(0, [4, 0, 0]), (12, [5, 12, 19, 26, 33, 40, 47, 54, 61, 68, 75, 2, 2, 2, 2, 2]), (1, [6, 7, 8, 9, 10, 11, 0]), (10, [8]), (10, [8]), (10, [8]), (10, [8]), (10, [8]), (10, [2]), (1, [13, 14, 15, 16, 17, 18, 0]), (10, [8]), (10, [8]), (10, [8]), (10, [8]), (10, [8]), (10, [2]), (1, [20, 21, 22, 23, 24, 25, 0]), (10, [8]), (10, [8]), (10, [8]), (10, [8]), (10, [8]), (10, [2]), (1, [27, 28, 29, 30, 31, 32, 0]), (10, [8]), (10, [8]), (10, [8]), (10, [8]), (10, [8]), (10, [2]), (1, [34, 35, 36, 37, 38, 39, 0]), (10, [8]), (10, [8]), (10, [8]), (10, [8]), (10, [8]), (10, [2]), (1, [41, 42, 43, 44, 45, 46, 0]), (10, [8]), (10, [8]), (10, [8]), (10, [8]), (10, [8]), (10, [2]), (1, [48, 49, 50, 51, 52, 53, 0]), (10, [8]), (10, [8]), (10, [8]), (10, [8]), (10, [8]), (10, [2]), (1, [55, 56, 57, 58, 59, 60, 0]), (10, [8]), (10, [8]), (10, [8]), (10, [8]), (10, [8]), (10, [2]), (1, [62, 63, 64, 65, 66, 67, 0]), (10, [8]), (10, [8]), (10, [8]), (10, [8]), (10, [8]), (10, [2]), (1, [69, 70, 71, 72, 73, 74, 0]), (10, [8]), (10, [8]), (10, [8]), (10, [8]), (10, [8]), (10, [2]), (1, [76, 77, 78, 79, 80, 81, 0]), (10, [8]), (10, [8]), (10, [8]), (10, [8]), (10, [8]), (10, [2])]
def BActs_49 : bS := [(0, [4, 0, 0]), (12, [5, 12, 19, 26, 33, 40, 47, 54, 61, 68, 75, 2, 2, 2, 2, 2]), (1, [6, 7, 8, 9, 10, 11, 0]), (10, [8]), (10, [8]), (10, [8]), (10, [8]), (10, [8]), (10, [2]), (1, [13, 14, 15, 16, 17, 18, 0]), (10, [8]), (10, [8]), (10, [8]), (10, [8]), (10, [8]), (10, [2]), (1, [20, 21, 22, 23, 24, 25, 0]), (10, [8]), (10, [8]), (10, [8]), (10, [8]), (10, [8]), (10, [2]), (1, [27, 28, 29, 30, 31, 32, 0]), (10, [8]), (10, [8]), (10, [8]), (10, [8]), (10, [8]), (10, [2]), (1, [34, 35, 36, 37, 38, 39, 0]), (10, [8]), (10, [8]), (10, [8]), (10, [8]), (10, [8]), (10, [2]), (1, [41, 42, 43, 44, 45, 46, 0]), (10, [8]), (10, [8]), (10, [8]), (10, [8]), (10, [8]), (10, [2]), (1, [48, 49, 50, 51, 52, 53, 0]), (10, [8]), (10, [8]), (10, [8]), (10, [8]), (10, [8]), (10, [2]), (1, [55, 56, 57, 58, 59, 60, 0]), (10, [8]), (10, [8]), (10, [8]), (10, [8]), (10, [8]), (10, [2]), (1, [62, 63, 64, 65, 66, 67, 0]), (10, [8]), (10, [8]), (10, [8]), (10, [8]), (10, [8]), (10, [2]), (1, [69, 70, 71, 72, 73, 74, 0]), (10, [8]), (10, [8]), (10, [8]), (10, [8]), (10, [8]), (10, [2]), (1, [76, 77, 78, 79, 80, 81, 0]), (10, [8]), (10, [8]), (10, [8]), (10, [8]), (10, [8]), (10, [2]), (1, [2, 2, 2, 2, 2, 2, 0])]
def BActs_50 : bS := [(0, [4, 0, 0]), (12, [5, 12, 19, 26, 33, 40, 47, 54, 61, 68, 75, 2, 2, 2, 2, 2]), (1, [6, 7, 8, 9, 10, 11, 0]), (10, [8]), (10, [8]), (10, [8]), (10, [8]), (10, [8]), (10, [2]), (1, [13, 14, 15, 16, 17, 18, 0]), (10, [8]), (10, [8]), (10, [8]), (10, [8]), (10, [8]), (10, [2]), (1, [20, 21, 22, 23, 24, 25, 0]), (10, [8]), (10, [8]), (10, [8]), (10, [8]), (10, [8]), (10, [2]), (1, [27, 28, 29, 30, 31, 32, 0]), (10, [8]), (10, [8]), (10, [8]), (10, [8]), (10, [8]), (10, [2]), (1, [34, 35, 36, 37, 38, 39, 0]), (10, [8]), (10, [8]), (10, [8]), (10, [8]), (10, [8]), (10, [2]), (1, [41, 42, 43, 44, 45, 46, 0]), (10, [8]), (10, [8]), (10, [8]), (10, [8]), (10, [8]), (10, [2]), (1, [48, 49, 50, 51, 52, 53, 0]), (10, [8]), (10, [8]), (10, [8]), (10, [8]), (10, [8]), (10, [2]), (1, [55, 56, 57, 58, 59, 60, 0]), (10, [8]), (10, [8]), (10, [8]), (10, [8]), (10, [8]), (10, [2]), (1, [62, 63, 64, 65, 66, 67, 0]), (10, [8]), (10, [8]), (10, [8]), (10, [8]), (10, [8]), (10, [2]), (1, [69, 70, 71, 72, 73, 74, 0]), (10, [8]), (10, [8]), (10, [8]), (10, [8]), (10, [8]), (10, [2]), (1, [76, 77, 78, 79, 80, 81, 0]), (10, [8]), (10, [8]), (10, [8]), (10, [8]), (10, [8]), (10, [2])]
def BActs_51 : bS := [(0, [4, 0, 0]), (12, [5, 12, 19, 26, 33, 40, 47, 54, 61, 68, 75, 2, 2, 2, 2, 2]), (1, [6, 7, 8, 9, 10, 11, 0]), (10, [8]), (10, [8]), (10, [8]), (10, [8]), (10, [8]), (10, [2]), (1, [13, 14, 15, 16, 17, 18, 0]), (10, [8]), (10, [8]), (10, [8]), (10, [8]), (10, [8]), (10, [2]), (1, [20, 21, 22, 23, 24, 25, 0]), (10, [8]), (10, [8]), (10, [8]), (10, [8]), (10, [8]), (10, [2]), (1, [27, 28, 29, 30, 31, 32, 0]), (10, [8]), (10, [8]), (10, [8]), (10, [8]), (10, [8]), (10, [2]), (1, [34, 35, 36, 37, 38, 39, 0]), (10, [8]), (10, [8]), (10, [8]), (10, [8]), (10, [8]), (10, [2]), (1, [41, 42, 43, 44, 45, 46, 0]), (10, [8]), (10, [8]), (10, [8]), (10, [8]), (10, [8]), (10, [2]), (1, [48, 49, 50, 51, 52, 53, 0]), (10, [8]), (10, [8]), (10, [8]), (10, [8]), (10, [8]), (10, [2]), (1, [55, 56, 57, 58, 59, 60, 0]), (10, [8]), (10, [8]), (10, [8]), (10, [8]), (10, [8]), (10, [2]), (1, [62, 63, 64, 65, 66, 67, 0]), (10, [8]), (10, [8]), (10, [8]), (10, [8]), (10, [8]), (10, [2]), (1, [69, 70, 71, 72, 73, 74, 0]), (10, [8]), (10, [8]), (10, [8]), (10, [8]), (10, [8]), (10, [2]), (1, [76, 77, 78, 79, 80, 81, 0]), (10, [8]), (10, [8]), (10, [8]), (10, [8]), (10, [8]), (10, [2]), (1, [83, 84, 85, 86, 87, 88, 0]), (10, [8]), (10, [8]), (10, [8]), (10, [8]), (10, [8]), (10, [2])]
def BActs_52 : bS := [(0, [4, 0, 0]), (12, [5, 12, 19, 26, 33, 40, 47, 54, 61, 68, 75, 82, 2, 2, 2, 2]), (1, [6, 7, 8, 9, 10, 11, 0]), (10, [8]), (10, [8]), (10, [8]), (10, [8]), (10, [8]), (10, [2]), (1, [13, 14, 15, 16, 17, 18, 0]), (10, [8]), (10, [8]), (10, [8]), (10, [8]), (10, [8]), (10, [2]), (1, [20, 21, 22, 23, 24, 25, 0]), (10, [8]), (10, [8]), (10, [8]), (10, [8]), (10, [8]), (10, [2]), (1, [27, 28, 29, 30, 31, 32, 0]), (10, [8]), (10, [8]), (10, [8]), (10, [8]), (10, [8]), (10, [2]), (1, [34, 35, 36, 37, 38, 39, 0]), (10, [8]), (10, [8]), (10, [8]), (10, [8]), (10, [8]), (10, [2]), (1, [41, 42, 43, 44, 45, 46, 0]), (10, [8]), (10, [8]), (10, [8]), (10, [8]), (10, [8]), (10, [2]), (1, [48, 49, 50, 51, 52, 53, 0]), (10, [8]), (10, [8]), (10, [8]), (10, [8]), (10, [8]), (10, [2]), (1, [55, 56, 57, 58, 59, 60, 0]), (10, [8]), (10, [8]), (10, [8]), (10, [8]), (10, [8]), (10, [2]), (1, [62, 63, 64, 65, 66, 67, 0]), (10, [8]), (10, [8]), (10, [8]), (10, [8]), (10, [8]), (10, [2]), (1, [69, 70, 71, 72, 73, 74, 0]), (10, [8]), (10, [8]), (10, [8]), (10, [8]), (10, [8]), (10, [2]), (1, [76, 77, 78, 79, 80, 81, 0]), (10, [8]), (10, [8]), (10, [8]), (10, [8]), (10, [8]), (10, [2]), (1, [83, 84, 85, 86, 87, 88, 0]), (10, [8]), (10, [8]), (10, [8]), (10, [8]), (10, [8]), (10, [2])]
def BActs_53 : bS := [(0, [4, 0, 0]), (12, [5, 12, 19, 26, 33, 40, 47, 54, 61, 68, 75, 82, 2, 2, 2, 2]), (1, [6, 7, 8, 9, 10, 11, 0]), (10, [8]), (10, [8]), (10, [8]), (10, [8]), (10, [8]), (10, [2]), (1, [13, 14, 15, 16, 17, 18, 0]), (10, [8]), (10, [8]), (10, [8]), (10, [8]), (10, [8]), (10, [2]), (1, [20, 21, 22, 23, 24, 25, 0]), (10, [8]), (10, [8]), (10, [8]), (10, [8]), (10, [8]), (10, [2]), (1, [27, 28, 29, 30, 31, 32, 0]), (10, [8]), (10, [8]), (10, [8]), (10, [8]), (10, [8]), (10, [2]), (1, [34, 35, 36, 37, 38, 39, 0]), (10, [8]), (10, [8]), (10, [8]), (10, [8]), (10, [8]), (10, [2]), (1, [41, 42, 43, 44, 45, 46, 0]), (10, [8]), (10, [8]), (10, [8]), (10, [8]), (10, [8]), (10, [2]), (1, [48, 49, 50, 51, 52, 53, 0]), (10, [8]), (10, [8]), (10, [8]), (10, [8]), (10, [8]), (10, [2]), (1, [55, 56, 57, 58, 59, 60, 0]), (10, [8]), (10, [8]), (10, [8]), (10, [8]), (10, [8]), (10, [2]), (1, [62, 63, 64, 65, 66, 67, 0]), (10, [8]), (10, [8]), (10, [8]), (10, [8]), (10, [8]), (10, [2]), (1, [69, 70, 71, 72, 73, 74, 0]), (10, [8]), (10, [8]), (10, [8]), (10, [8]), (10, [8]), (10, [2]), (1, [76, 77, 78, 79, 80, 81, 0]), (10, [8]), (10, [8]), (10, [8]), (10, [8]), (10, [8]), (10, [2]), (1, [83, 84, 85, 86, 87, 88, 0]), (10, [8]), (10, [8]), (10, [8]), (10, [8]), (10, [8]), (10, [2]), (1, [2, 2, 2, 2, 2, 2, 0])]
def BActs_54 : bS := [(0, [4, 0, 0]), (12, [5, 12, 19, 26, 33, 40, 47, 54, 61, 68, 75, 82, 2, 2, 2, 2]), (1, [6, 7, 8, 9, 10, 11, 0]), (10, [8]), (10, [8]), (10, [8]), (10, [8]), (10, [8]), (10, [2]), (1, [13, 14, 15, 16, 17, 18, 0]), (10, [8]), (10, [8]), (10, [8]), (10, [8]), (10, [8]), (10, [2]), (1, [20, 21, 22, 23, 24, 25, 0]), (10, [8]), (10, [8]), (10, [8]), (10, [8]), (10, [8]), (10, [2]), (1, [27, 28, 29, 30, 31, 32, 0]), (10, [8]), (10, [8]), (10, [8]), (10, [8]), (10, [8]), (10, [2]), (1, [34, 35, 36, 37, 38, 39, 0]), (10, [8]), (10, [8]), (10, [8]), (10, [8]), (10, [8]), (10, [2]), (1, [41, 42, 43, 44, 45, 46, 0]), (10, [8]), (10, [8]), (10, [8]), (10, [8]), (10, [8]), (10, [2]), (1, [48, 49, 50, 51, 52, 53, 0]), (10, [8]), (10, [8]), (10, [8]), (10, [8]), (10, [8]), (10, [2]), (1, [55, 56, 57, 58, 59, 60, 0]), (10, [8]), (10, [8]), (10, [8]), (10, [8]), (10, [8]), (10, [2]), (1, [62, 63, 64, 65, 66, 67, 0]), (10, [8]), (10, [8]), (10, [8]), (10, [8]), (10, [8]), (10, [2]), (1, [69, 70, 71, 72, 73, 74, 0]), (10, [8]), (10, [8]), (10, [8]), (10, [8]), (10, [8]), (10, [2]), (1, [76, 77, 78, 79, 80, 81, 0]), (10, [8]), (10, [8]), (10, [8]), (10, [8]), (10, [8]), (10, [2]), (1, [83, 84, 85, 86, 87, 88, 0]), (10, [8]), (10, [8]), (10, [8]), (10, [8]), (10, [8]), (10, [2])]
def BActs_55 : bS := [(0, [4, 0, 0]), (12, [5, 12, 19, 26, 33, 40, 47, 54, 61, 68, 75, 82, 2, 2, 2, 2]), (1, [6, 7, 8, 9, 10, 11, 0]), (10, [8]), (10, [8]), (10, [8]), (10, [8]), (10, [8]), (10, [2]), (1, [13, 14, 15, 16, 17, 18, 0]), (10, [8]), (10, [8]), (10, [8]), (10, [8]), (10, [8]), (10, [2]), (1, [20, 21, 22, 23, 24, 25, 0]), (10, [8]), (10, [8]), (10, [8]), (10, [8]), (10, [8]), (10, [2]), (1, [27, 28, 29, 30, 31, 32, 0]), (10, [8]), (10, [8]), (10, [8]), (10, [8]), (10, [8]), (10, [2]), (1, [34, 35, 36, 37, 38, 39, 0]), (10, [8]), (10, [8]), (10, [8]), (10, [8]), (10, [8]), (10, [2]), (1, [41, 42, 43, 44, 45, 46, 0]), (10, [8]), (10, [8]), (10, [8]), (10, [8]), (10, [8]), (10, [2]), (1, [48, 49, 50, 51, 52, 53, 0]), (10, [8]), (10, [8]), (10, [8]), (10, [8]), (10, [8]), (10, [2]), (1, [55, 56, 57, 58, 59, 60, 0]), (10, [8]), (10, [8]), (10, [8]), (10, [8]), (10, [8]), (10, [2]), (1, [62, 63, 64, 65, 66, 67, 0]), (10, [8]), (10, [8]), (10, [8]), (10, [8]), (10, [8]), (10, [2]), (1, [69, 70, 71, 72, 73, 74, 0]), (10, [8]), (10, [8]), (10, [8]), (10, [8]), (10, [8]), (10, [2]), (1, [76, 77, 78, 79, 80, 81, 0]), (10, [8]), (10, [8]), (10, [8]), (10, [8]), (10, [8]), (10, [2]), (1, [83, 84, 85, 86, 87, 88, 0]), (10, [8]), (10, [8]), (10, [8]), (10, [8]), (10, [8]), (10, [2]), (1, [90, 91, 92, 93, 94, 95, 0]), (10, [8]), (10, [8]), (10, [8]), (10, [8]), (10, [8]), (10, [2])]
def BActs_56 : bS := [(0, [4, 0, 0]), (12, [5, 12, 19, 26, 33, 40, 47, 54, 61, 68, 75, 82, 89, 2, 2, 2]), (1, [6, 7, 8, 9, 10, 11, 0]), (10, [8]), (10, [8]), (10, [8]), (10, [8]), (10, [8]), (10, [2]), (1, [13, 14, 15, 16, 17, 18, 0]), (10, [8]), (10, [8]), (10, [8]), (10, [8]), (10, [8]), (10, [2]), (1, [20, 21, 22, 23, 24, 25, 0]), (10, [8]), (10, [8]), (10, [8]), (10, [8]), (10, [8]), (10, [2]), (1, [27, 28, 29, 30, 31, 32, 0]), (10, [8]), (10, [8]), (10, [8]), (10, [8]), (10, [8]), (10, [2]), (1, [34, 35, 36, 37, 38, 39, 0]), (10, [8]), (10, [8]), (10, [8]), (10, [8]), (10, [8]), (10, [2]), (1, [41, 42, 43, 44, 45, 46, 0]), (10, [8]), (10, [8]), (10, [8]), (10, [8]), (10, [8]), (10, [2]), (1, [48, 49, 50, 51, 52, 53, 0]), (10, [8]), (10, [8]), (10, [8]), (10, [8]), (10, [8]), (10, [2]), (1, [55, 56, 57, 58, 59, 60, 0]), (10, [8]), (10, [8]), (10, [8]), (10, [8]), (10, [8]), (10, [2]), (1, [62, 63, 64, 65, 66, 67, 0]), (10, [8]), (10, [8]), (10, [8]), (10, [8]), (10, [8]), (10, [2]), (1, [69, 70, 71, 72, 73, 74, 0]), (10, [8]), (10, [8]), (10, [8]), (10, [8]), (10, [8]), (10, [2]), (1, [76, 77, 78, 79, 80, 81, 0]), (10, [8]), (10, [8]), (10, [8]), (10, [8]), (10, [8]), (10, [2]), (1, [83, 84, 85, 86, 87, 88, 0]), (10, [8]), (10, [8]), (10, [8]), (10, [8]), (10, [8]), (10, [2]), (1, [90, 91, 92, 93, 94, 95, 0]), (10, [8]), (10, [8]), (10, [8]), (10, [8]), (10, [8]), (10, [2])]
def BActs_57 : bS := [(0, [4, 0, 0]), (12, [5, 12, 19, 26, 33, 40, 47, 54, 61, 68, 75, 82, 89, 2, 2, 2]), (1, [6, 7, 8, 9, 10, 11, 0]), (10, [8]), (10, [8]), (10, [8]), (10, [8]), (10, [8]), (10, [2]), (1, [13, 14, 15, 16, 17, 18, 0]), (10, [8]), (10, [8]), (10, [8]), (10, [8]), (10, [8]), (10, [2]), (1, [20, 21, 22, 23, 24, 25, 0]), (10, [8]), (10, [8]), (10, [8]), (10, [8]), (10, [8]), (10, [2]), (1, [27, 28, 29, 30, 31, 32, 0]), (10, [8]), (10, [8]), (10, [8]), (10, [8]), (10, [8]), (10, [2]), (1, [34, 35, 36, 37, 38, 39, 0]), (10, [8]), (10, [8]), (10, [8]), (10, [8]), (10, [8]), (10, [2]), (1, [41, 42, 43, 44, 45, 46, 0]), (10, [8]), (10, [8]), (10, [8]), (10, [8]), (10, [8]), (10, [2]), (1, [48, 49, 50, 51, 52, 53, 0]), (10, [8]), (10, [8]), (10, [8]), (10, [8]), (10, [8]), (10, [2]), (1, [55, 56, 57, 58, 59, 60, 0]), (10, [8]), (10, [8]), (10, [8]), (10, [8]), (10, [8]), (10, [2]), (1, [62, 63, 64, 65, 66, 67, 0]), (10, [8]), (10, [8]), (10, [8]), (10, [8]), (10, [8]), (10, [2]), (1, [69, 70, 71, 72, 73, 74, 0]), (10, [8]), (10, [8]), (10, [8]), (10, [8]), (10, [8]), (10, [2]), (1, [76, 77, 78, 79, 80, 81, 0]), (10, [8]), (10, [8]), (10, [8]), (10, [8]), (10, [8]), (10, [2]), (1, [83, 84, 85, 86, 87, 88, 0]), (10, [8]), (10, [8]), (10, [8]), (10, [8]), (10, [8]), (10, [2]), (1, [90, 91, 92, 93, 94, 95, 0]), (10, [8]), (10, [8]), (10, [8]), (10, [8]), (10, [8]), (10, [2]), (1, [2, 2, 2, 2, 2, 2, 0])]
def BActs_58 : bS := [(0, [4, 0, 0]), (12, [5, 12, 19, 26, 33, 40, 47, 54, 61, 68, 75, 82, 89, 2, 2, 2]), (1, [6, 7, 8, 9, 10, 11, 0]), (10, [8]), (10, [8]), (10, [8]), (10, [8]), (10, [8]), (10, [2]), (1, [13, 14, 15, 16, 17, 18, 0]), (10, [8]), (10, [8]), (10, [8]), (10, [8]), (10, [8]), (10, [2]), (1, [20, 21, 22, 23, 24, 25, 0]), (10, [8]), (10, [8]), (10, [8]), (10, [8]), (10, [8]), (10, [2]), (1, [27, 28, 29, 30, 31, 32, 0]), (10, [8]), (10, [8]), (10, [8]), (10, [8]), (10, [8]), (10, [2]), (1, [34, 35, 36, 37, 38, 39, 0]), (10, [8]), (10, [8]), (10, [8]), (10, [8]), (10, [8]), (10, [2]), (1, [41, 42, 43, 44, 45, 46, 0]), (10, [8]), (10, [8]), (10, [8]), (10, [8]), (10, [8]), (10, [2]), (1, [48, 49, 50, 51, 52, 53, 0]), (10, [8]), (10, [8]), (10, [8]), (10, [8]), (10, [8]), (10, [2]), (1, [55, 56, 57, 58, 59, 60, 0]), (10, [8]), (10, [8]), (10, [8]), (10, [8]), (10, [8]), (10, [2]), (1, [62, 63, 64, 65, 66, 67, 0]), (10, [8]), (10, [8]), (10, [8]), (10, [8]), (10, [8]), (10, [2]), (1, [69, 70, 71, 72, 73, 74, 0]), (10, [8]), (10, [8]), (10, [8]), (10, [8]), (10, [8]), (10, [2]), (1, [76, 77, 78, 79, 80, 81, 0]), (10, [8]), (10, [8]), (10, [8]), (10, [8]), (10, [8]), (10, [2]), (1, [83, 84, 85, 86, 87, 88, 0]), (10, [8]), (10, [8]), (10, [8]), (10, [8]), (10, [8]), (10, [2]), (1, [90, 91, 92, 93, 94, 95, 0]), (10, [8]), (10, [8]), (10, [8]), (10, [8]), (10, [8]), (10, [2])]
def BActs_59 : bS := [(0, [4, 0, 0]), (12, [5, 12, 19, 26, 33, 40, 47, 54, 61, 68, 75, 82, 89, 2, 2, 2]), (1, [6, 7, 8, 9, 10, 11, 0]), (10, [8]), (10, [8]), (10, [8]), (10, [8]), (10, [8]), (10, [2]), (1, [13, 14, 15, 16, 17, 18, 0]), (10, [8]), (10, [8]), (10, [8]), (10, [8]), (10, [8]), (10, [2]), (1, [20, 21, 22, 23, 24, 25, 0]), (10, [8]), (10, [8]), (10, [8]), (10, [8]), (10, [8]), (10, [2]), (1, [27, 28, 29, 30, 31, 32, 0]), (10, [8]), (10, [8]), (10, [8]), (10, [8]), (10, [8]), (10, [2]), (1, [34, 35, 36, 37, 38, 39, 0]), (10, [8]), (10, [8]), (10, [8]), (10, [8]), (10, [8]), (10, [2]), (1, [41, 42, 43, 44, 45, 46, 0]), (10, [8]), (10, [8]), (10, [8]), (10, [8]), (10, [8]), (10, [2]), (1, [48, 49, 50, 51, 52, 53, 0]), (10, [8]), (10, [8]), (10, [8]), (10, [8]), (10, [8]), (10, [2]), (1, [55, 56, 57, 58, 59, 60, 0]), (10, [8]), (10, [8]), (10, [8]), (10, [8]), (10, [8]), (10, [2]), (1, [62, 63, 64, 65, 66, 67, 0]), (10, [8]), (10, [8]), (10, [8]), (10, [8]), (10, [8]), (10, [2]), (1, [69, 70, 71, 72, 73, 74, 0]), (10, [8]), (10, [8]), (10, [8]), (10, [8]), (10, [8]), (10, [2]), (1, [76, 77, 78, 79, 80, 81, 0]), (10, [8]), (10, [8]), (10, [8]), (10, [8]), (10, [8]), (10, [2]), (1, [83, 84, 85, 86, 87, 88, 0]), (10, [8]), (10, [8]), (10, [8]), (10, [8]), (10, [8]), (10, [2]), (1, [90, 91, 92, 93, 94, 95, 0]), (10, [8]), (10, [8]), (10, [8]), (10, [8]), (10, [8]), (10, [2]), (1, [97, 98, 99, 100, 101, 102, 0]), (10, [8]), (10, [8]), (10, [8]), (10, [8]), (10, [8]), (10, [2])]
def BActs_60 : bS := [(0, [4, 0, 0]), (12, [5, 12, 19, 26, 33, 40, 47, 54, 61, 68, 75, 82, 89, 96, 2, 2]), (1, [6, 7, 8, 9, 10, 11, 0]), (10, [8]), (10, [8]), (10, [8]), (10, [8]), (10, [8]), (10, [2]), (1, [13, 14, 15, 16, 17, 18, 0]), (10, [8]), (10, [8]), (10, [8]), (10, [8]), (10, [8]), (10, [2]), (1, [20, 21, 22, 23, 24, 25, 0]), (10, [8]), (10, [8]), (10, [8]), (10, [8]), (10, [8]), (10, [2]), (1, [27, 28, 29, 30, 31, 32, 0]), (10, [8]), (10, [8]), (10, [8]), (10, [8]), (10, [8]), (10, [2]), (1, [34, 35, 36, 37, 38, 39, 0]), (10, [8]), (10, [8]), (10, [8]), (10, [8]), (10, [8]), (10, [2]), (1, [41, 42, 43, 44, 45, 46, 0]), (10, [8]), (10, [8]), (10, [8]), (10, [8]), (10, [8]), (10, [2]), (1, [48, 49, 50, 51, 52, 53, 0]), (10, [8]), (10, [8]), (10, [8]), (10, [8]), (10, [8]), (10, [2]), (1, [55, 56, 57, 58, 59, 60, 0]), (10, [8]), (10, [8]), (10, [8]), (10, [8]), (10, [8]), (10, [2]), (1, [62, 63, 64, 65, 66, 67, 0]), (10, [8]), (10, [8]), (10, [8]), (10, [8]), (10, [8]), (10, [2]), (1, [69, 70, 71, 72, 73, 74, 0]), (10, [8]), (10, [8]), (10, [8]), (10, [8]), (10, [8]), (10, [2]), (1, [76, 77, 78, 79, 80, 81, 0]), (10, [8]), (10, [8]), (10, [8]), (10, [8]), (10, [8]), (10, [2]), (1, [83, 84, 85, 86, 87, 88, 0]), (10, [8]), (10, [8]), (10, [8]), (10, [8]), (10, [8]), (10, [2]), (1, [90, 91, 92, 93, 94, 95, 0]), (10, [8]), (10, [8]), (10, [8]), (10, [8]), (10, [8]), (10, [2]), (1, [97, 98, 99, 100, 101, 102, 0]), (10, [8]), (10, [8]), (10, [8]), (10, [8]), (10, [8]), (10, [2])]
def BActs_61 : bS := [(0, [4, 0, 0]), (12, [5, 12, 19, 26, 33, 40, 47, 54, 61, 68, 75, 82, 89, 96, 2, 2]), (1, [6, 7, 8, 9, 10, 11, 0]), (10, [8]), (10, [8]), (10, [8]), (10, [8]), (10, [8]), (10, [2]), (1, [13, 14, 15, 16, 17, 18, 0]), (10, [8]), (10, [8]), (10, [8]), (10, [8]), (10, [8]), (10, [2]), (1, [20, 21, 22, 23, 24, 25, 0]), (10, [8]), (10, [8]), (10, [8]), (10, [8]), (10, [8]), (10, [2]), (1, [27, 28, 29, 30, 31, 32, 0]), (10, [8]), (10, [8]), (10, [8]), (10, [8]), (10, [8]), (10, [2]), (1, [34, 35, 36, 37, 38, 39, 0]), (10, [8]), (10, [8]), (10, [8]), (10, [8]), (10, [8]), (10, [2]), (1, [41, 42, 43, 44, 45, 46, 0]), (10, [8]), (10, [8]), (10, [8]), (10, [8]), (10, [8]), (10, [2]), (1, [48, 49, 50, 51, 52, 53, 0]), (10, [8]), (10, [8]), (10, [8]), (10, [8]), (10, [8]), (10, [2]), (1, [55, 56, 57, 58, 59, 60, 0]), (10, [8]), (10, [8]), (10, [8]), (10, [8]), (10, [8]), (10, [2]), (1, [62, 63, 64, 65, 66, 67, 0]), (10, [8]), (10, [8]), (10, [8]), (10, [8]), (10, [8]), (10, [2]), (1, [69, 70, 71, 72, 73, 74, 0]), (10, [8]), (10, [8]), (10, [8]), (10, [8]), (10, [8]), (10, [2]), (1, [76, 77, 78, 79, 80, 81, 0]), (10, [8]), (10, [8]), (10, [8]), (10, [8]), (10, [8]), (10, [2]), (1, [83, 84, 85, 86, 87, 88, 0]), (10, [8]), (10, [8]), (10, [8]), (10, [8]), (10, [8]), (10, [2]), (1, [90, 91, 92, 93, 94, 95, 0]), (10, [8]), (10, [8]), (10, [8]), (10, [8]), (10, [8]), (10, [2]), (1, [97, 98, 99, 100, 101, 102, 0]), (10, [8]), (10, [8]), (10, [8]), (10, [8]), (10, [8]), (10, [2]), (1, [2, 2, 2, 2, 2, 2, 0])]
def BActs_62 : bS := [(0, [4, 0, 0]), (12, [5, 12, 19, 26, 33, 40, 47, 54, 61, 68, 75, 82, 89, 96, 2, 2]), (1, [6, 7, 8, 9, 10, 11, 0]), (10, [8]), (10, [8]), (10, [8]), (10, [8]), (10, [8]), (10, [2]), (1, [13, 14, 15, 16, 17, 18, 0]), (10, [8]), (10, [8]), (10, [8]), (10, [8]), (10, [8]), (10, [2]), (1, [20, 21, 22, 23, 24, 25, 0]), (10, [8]), (10, [8]), (10, [8]), (10, [8]), (10, [8]), (10, [2]), (1, [27, 28, 29, 30, 31, 32, 0]), (10, [8]), (10, [8]), (10, [8]), (10, [8]), (10, [8]), (10, [2]), (1, [34, 35, 36, 37, 38, 39, 0]), (10, [8]), (10, [8]), (10, [8]), (10, [8]), (10, [8]), (10, [2]), (1, [41, 42, 43, 44, 45, 46, 0]), (10, [8]), (10, [8]), (10, [8]), (10, [8]), (10, [8]), (10, [2]), (1, [48, 49, 50, 51, 52, 53, 0]), (10, [8]), (10, [8]), (10, [8]), (10, [8]), (10, [8]), (10, [2]), (1, [55, 56, 57, 58, 59, 60, 0]), (10, [8]), (10, [8]), (10, [8]), (10, [8]), (10, [8]), (10, [2]), (1, [62, 63, 64, 65, 66, 67, 0]), (10, [8]), (10, [8]), (10, [8]), (10, [8]), (10, [8]), (10, [2]), (1, [69, 70, 71, 72, 73, 74, 0]), (10, [8]), (10, [8]), (10, [8]), (10, [8]), (10, [8]), (10, [2]), (1, [76, 77, 78, 79, 80, 81, 0]), (10, [8]), (10, [8]), (10, [8]), (10, [8]), (10, [8]), (10, [2]), (1, [83, 84, 85, 86, 87, 88, 0]), (10, [8]), (10, [8]), (10, [8]), (10, [8]), (10, [8]), (10, [2]), (1, [90, 91, 92, 93, 94, 95, 0]), (10, [8]), (10, [8]), (10, [8]), (10, [8]), (10, [8]), (10, [2]), (1, [97, 98, 99, 100, 101, 102, 0]), (10, [8]), (10, [8]), (10, [8]), (10, [8]), (10, [8]), (10, [2])]
def BActs_63 : bS := [(0, [4, 0, 0]), (12, [5, 12, 19, 26, 33, 40, 47, 54, 61, 68, 75, 82, 89, 96, 2, 2]), (1, [6, 7, 8, 9, 10, 11, 0]), (10, [8]), (10, [8]), (10, [8]), (10, [8]), (10, [8]), (10, [2]), (1, [13, 14, 15, 16, 17, 18, 0]), (10, [8]), (10, [8]), (10, [8]), (10, [8]), (10, [8]), (10, [2]), (1, [20, 21, 22, 23, 24, 25, 0]), (10, [8]), (10, [8]), (10, [8]), (10, [8]), (10, [8]), (10, [2]), (1, [27, 28, 29, 30, 31, 32, 0]), (10, [8]), (10, [8]), (10, [8]), (10, [8]), (10, [8]), (10, [2]), (1, [34, 35, 36, 37, 38, 39, 0]), (10, [8]), (10, [8]), (10, [8]), (10, [8]), (10, [8]), (10, [2]), (1, [41, 42, 43, 44, 45, 46, 0]), (10, [8]), (10, [8]), (10, [8]), (10, [8]), (10, [8]), (10, [2]), (1, [48, 49, 50, 51, 52, 53, 0]), (10, [8]), (10, [8]), (10, [8]), (10, [8]), (10, [8]), (10, [2]), (1, [55, 56, 57, 58, 59, 60, 0]), (10, [8]), (10, [8]), (10, [8]), (10, [8]), (10, [8]), (10, [2]), (1, [62, 63, 64, 65, 66, 67, 0]), (10, [8]), (10, [8]), (10, [8]), (10, [8]), (10, [8]), (10, [2]), (1, [69, 70, 71, 72, 73, 74, 0]), (10, [8]), (10, [8]), (10, [8]), (10, [8]), (10, [8]), (10, [2]), (1, [76, 77, 78, 79, 80, 81, 0]), (10, [8]), (10, [8]), (10, [8]), (10, [8]), (10, [8]), (10, [2]), (1, [83, 84, 85, 86, 87, 88, 0]), (10, [8]), (10, [8]), (10, [8]), (10, [8]), (10, [8]), (10, [2]), (1, [90, 91, 92, 93, 94, 95, 0]), (10, [8]), (10, [8]), (10, [8]), (10, [8]), (10, [8]), (10, [2]), (1, [97, 98, 99, 100, 101, 102, 0]), (10, [8]), (10, [8]), (10, [8]), (10, [8]), (10, [8]), (10, [2]), (1, [104, 105, 106, 107, 108, 109, 0]), (10, [8]), (10, [8]), (10, [8]), (10, [8]), (10, [8]), (10, [2])]
def BActs_64 : bS := [(0, [4, 0, 0]), (12, [5, 12, 19, 26, 33, 40, 47, 54, 61, 68, 75, 82, 89, 96, 103, 2]), (1, [6, 7, 8, 9, 10, 11, 0]), (10, [8]), (10, [8]), (10, [8]), (10, [8]), (10, [8]), (10, [2]), (1, [13, 14, 15, 16, 17, 18, 0]), (10, [8]), (10, [8]), (10, [8]), (10, [8]), (10, [8]), (10, [2]), (1, [20, 21, 22, 23, 24, 25, 0]), (10, [8]), (10, [8]), (10, [8]), (10, [8]), (10, [8]), (10, [2]), (1, [27, 28, 29, 30, 31, 32, 0]), (10, [8]), (10, [8]), (10, [8]), (10, [8]), (10, [8]), (10, [2]), (1, [34, 35, 36, 37, 38, 39, 0]), (10, [8]), (10, [8]), (10, [8]), (10, [8]), (10, [8]), (10, [2]), (1, [41, 42, 43, 44, 45, 46, 0]), (10, [8]), (10, [8]), (10, [8]), (10, [8]), (10, [8]), (10, [2]), (1, [48, 49, 50, 51, 52, 53, 0]), (10, [8]), (10, [8]), (10, [8]), (10, [8]), (10, [8]), (10, [2]), (1, [55, 56, 57, 58, 59, 60, 0]), (10, [8]), (10, [8]), (10, [8]), (10, [8]), (10, [8]), (10, [2]), (1, [62, 63, 64, 65, 66, 67, 0]), (10, [8]), (10, [8]), (10, [8]), (10, [8]), (10, [8]), (10, [2]), (1, [69, 70, 71, 72, 73, 74, 0]), (10, [8]), (10, [8]), (10, [8]), (10, [8]), (10, [8]), (10, [2]), (1, [76, 77, 78, 79, 80, 81, 0]), (10, [8]), (10, [8]), (10, [8]), (10, [8]), (10, [8]), (10, [2]), (1, [83, 84, 85, 86, 87, 88, 0]), (10, [8]), (10, [8]), (10, [8]), (10, [8]), (10, [8]), (10, [2]), (1, [90, 91, 92, 93, 94, 95, 0]), (10, [8]), (10, [8]), (10, [8]), (10, [8]), (10, [8]), (10, [2]), (1, [97, 98, 99, 100, 101, 102, 0]), (10, [8]), (10, [8]), (10, [8]), (10, [8]), (10, [8]), (10, [2]), (1, [104, 105, 106, 107, 108, 109, 0]), (10, [8]), (10, [8]), (10, [8]), (10, [8]), (10, [8]), (10, [2])]
def BActs_65 : bS := [(0, [4, 0, 0]), (12, [5, 12, 19, 26, 33, 40, 47, 54, 61, 68, 75, 82, 89, 96, 103, 2]), (1, [6, 7, 8, 9, 10, 11, 0]), (10, [8]), (10, [8]), (10, [8]), (10, [8]), (10, [8]), (10, [2]), (1, [13, 14, 15, 16, 17, 18, 0]), (10, [8]), (10, [8]), (10, [8]), (10, [8]), (10, [8]), (10, [2]), (1, [20, 21, 22, 23, 24, 25, 0]), (10, [8]), (10, [8]), (10, [8]), (10, [8]), (10, [8]), (10, [2]), (1, [27, 28, 29, 30, 31, 32, 0]), (10, [8]), (10, [8]), (10, [8]), (10, [8]), (10, [8]), (10, [2]), (1, [34, 35, 36, 37, 38, 39, 0]), (10, [8]), (10, [8]), (10, [8]), (10, [8]), (10, [8]), (10, [2]), (1, [41, 42, 43, 44, 45, 46, 0]), (10, [8]), (10, [8]), (10, [8]), (10, [8]), (10, [8]), (10, [2]), (1, [48, 49, 50, 51, 52, 53, 0]), (10, [8]), (10, [8]), (10, [8]), (10, [8]), (10, [8]), (10, [2]), (1, [55, 56, 57, 58, 59, 60, 0]), (10, [8]), (10, [8]), (10, [8]), (10, [8]), (10, [8]), (10, [2]), (1, [62, 63, 64, 65, 66, 67, 0]), (10, [8]), (10, [8]), (10, [8]), (10, [8]), (10, [8]), (10, [2]), (1, [69, 70, 71, 72, 73, 74, 0]), (10, [8]), (10, [8]), (10, [8]), (10, [8]), (10, [8]), (10, [2]), (1, [76, 77, 78, 79, 80, 81, 0]), (10, [8]), (10, [8]), (10, [8]), (10, [8]), (10, [8]), (10, [2]), (1, [83, 84, 85, 86, 87, 88, 0]), (10, [8]), (10, [8]), (10, [8]), (10, [8]), (10, [8]), (10, [2]), (1, [90, 91, 92, 93, 94, 95, 0]), (10, [8]), (10, [8]), (10, [8]), (10, [8]), (10, [8]), (10, [2]), (1, [97, 98, 99, 100, 101, 102, 0]), (10, [8]), (10, [8]), (10, [8]), (10, [8]), (10, [8]), (10, [2]), (1, [104, 105, 106, 107, 108, 109, 0]), (10, [8]), (10, [8]), (10, [8]), (10, [8]), (10, [8]), (10, [2]), (1, [2, 2, 2, 2, 2, 2, 0])]
def BActs_66 : bS := [(0, [4, 0, 0]), (12, [5, 12, 19, 26, 33, 40, 47, 54, 61, 68, 75, 82, 89, 96, 103, 2]), (1, [6, 7, 8, 9, 10, 11, 0]), (10, [8]), (10, [8]), (10, [8]), (10, [8]), (10, [8]), (10, [2]), (1, [13, 14, 15, 16, 17, 18, 0]), (10, [8]), (10, [8]), (10, [8]), (10, [8]), (10, [8]), (10, [2]), (1, [20, 21, 22, 23, 24, 25, 0]), (10, [8]), (10, [8]), (10, [8]), (10, [8]), (10, [8]), (10, [2]), (1, [27, 28, 29, 30, 31, 32, 0]), (10, [8]), (10, [8]), (10, [8]), (10, [8]), (10, [8]), (10, [2]), (1, [34, 35, 36, 37, 38, 39, 0]), (10, [8]), (10, [8]), (10, [8]), (10, [8]), (10, [8]), (10, [2]), (1, [41, 42, 43, 44, 45, 46, 0]), (10, [8]), (10, [8]), (10, [8]), (10, [8]), (10, [8]), (10, [2]), (1, [48, 49, 50, 51, 52, 53, 0]), (10, [8]), (10, [8]), (10, [8]), (10, [8]), (10, [8]), (10, [2]), (1, [55, 56, 57, 58, 59, 60, 0]), (10, [8]), (10, [8]), (10, [8]), (10, [8]), (10, [8]), (10, [2]), (1, [62, 63, 64, 65, 66, 67, 0]), (10, [8]), (10, [8]), (10, [8]), (10, [8]), (10, [8]), (10, [2]), (1, [69, 70, 71, 72, 73, 74, 0]), (10, [8]), (10, [8]), (10, [8]), (10, [8]), (10, [8]), (10, [2]), (1, [76, 77, 78, 79, 80, 81, 0]), (10, [8]), (10, [8]), (10, [8]), (10, [8]), (10, [8]), (10, [2]), (1, [83, 84, 85, 86, 87, 88, 0]), (10, [8]), (10, [8]), (10, [8]), (10, [8]), (10, [8]), (10, [2]), (1, [90, 91, 92, 93, 94, 95, 0]), (10, [8]), (10, [8]), (10, [8]), (10, [8]), (10, [8]), (10, [2]), (1, [97, 98, 99, 100, 101, 102, 0]), (10, [8]), (10, [8]), (10, [8]), (10, [8]), (10, [8]), (10, [2]), (1, [104, 105, 106, 107, 108, 109, 0]), (10, [8]), (10, [8]), (10, [8]), (10, [8]), (10, [8]), (10, [2])]
def BActs_67 : bS := [(0, [4, 0, 0]), (12, [5, 12, 19, 26, 33, 40, 47, 54, 61, 68, 75, 82, 89, 96, 103, 2]), (1, [6, 7, 8, 9, 10, 11, 0]), (10, [8]), (10, [8]), (10, [8]), (10, [8]), (10, [8]), (10, [2]), (1, [13, 14, 15, 16, 17, 18, 0]), (10, [8]), (10, [8]), (10, [8]), (10, [8]), (10, [8]), (10, [2]), (1, [20, 21, 22, 23, 24, 25, 0]), (10, [8]), (10, [8]), (10, [8]), (10, [8]), (10, [8]), (10, [2]), (1, [27, 28, 29, 30, 31, 32, 0]), (10, [8]), (10, [8]), (10, [8]), (10, [8]), (10, [8]), (10, [2]), (1, [34, 35, 36, 37, 38, 39, 0]), (10, [8]), (10, [8]), (10, [8]), (10, [8]), (10, [8]), (10, [2]), (1, [41, 42, 43, 44, 45, 46, 0]), (10, [8]), (10, [8]), (10, [8]), (10, [8]), (10, [8]), (10, [2]), (1, [48, 49, 50, 51, 52, 53, 0]), (10, [8]), (10, [8]), (10, [8]), (10, [8]), (10, [8]), (10, [2]), (1, [55, 56, 57, 58, 59, 60, 0]), (10, [8]), (10, [8]), (10, [8]), (10, [8]), (10, [8]), (10, [2]), (1, [62, 63, 64, 65, 66, 67, 0]), (10, [8]), (10, [8]), (10, [8]), (10, [8]), (10, [8]), (10, [2]), (1, [69, 70, 71, 72, 73, 74, 0]), (10, [8]), (10, [8]), (10, [8]), (10, [8]), (10, [8]), (10, [2]), (1, [76, 77, 78, 79, 80, 81, 0]), (10, [8]), (10, [8]), (10, [8]), (10, [8]), (10, [8]), (10, [2]), (1, [83, 84, 85, 86, 87, 88, 0]), (10, [8]), (10, [8]), (10, [8]), (10, [8]), (10, [8]), (10, [2]), (1, [90, 91, 92, 93, 94, 95, 0]), (10, [8]), (10, [8]), (10, [8]), (10, [8]), (10, [8]), (10, [2]), (1, [97, 98, 99, 100, 101, 102, 0]), (10, [8]), (10, [8]), (10, [8]), (10, [8]), (10, [8]), (10, [2]), (1, [104, 105, 106, 107, 108, 109, 0]), (10, [8]), (10, [8]), (10, [8]), (10, [8]), (10, [8]), (10, [2]), (1, [111, 112, 113, 114, 115, 116, 0]), (10, [8]), (10, [8]), (10, [8]), (10, [8]), (10, [8]), (10, [2])]
def BActs_68 : bS := [(0, [4, 0, 0]), (12, [5, 12, 19, 26, 33, 40, 47, 54, 61, 68, 75, 82, 89, 96, 103, 110]), (1, [6, 7, 8, 9, 10, 11, 0]), (10, [8]), (10, [8]), (10, [8]), (10, [8]), (10, [8]), (10, [2]), (1, [13, 14, 15, 16, 17, 18, 0]), (10, [8]), (10, [8]), (10, [8]), (10, [8]), (10, [8]), (10, [2]), (1, [20, 21, 22, 23, 24, 25, 0]), (10, [8]), (10, [8]), (10, [8]), (10, [8]), (10, [8]), (10, [2]), (1, [27, 28, 29, 30, 31, 32, 0]), (10, [8]), (10, [8]), (10, [8]), (10, [8]), (10, [8]), (10, [2]), (1, [34, 35, 36, 37, 38, 39, 0]), (10, [8]), (10, [8]), (10, [8]), (10, [8]), (10, [8]), (10, [2]), (1, [41, 42, 43, 44, 45, 46, 0]), (10, [8]), (10, [8]), (10, [8]), (10, [8]), (10, [8]), (10, [2]), (1, [48, 49, 50, 51, 52, 53, 0]), (10, [8]), (10, [8]), (10, [8]), (10, [8]), (10, [8]), (10, [2]), (1, [55, 56, 57, 58, 59, 60, 0]), (10, [8]), (10, [8]), (10, [8]), (10, [8]), (10, [8]), (10, [2]), (1, [62, 63, 64, 65, 66, 67, 0]), (10, [8]), (10, [8]), (10, [8]), (10, [8]), (10, [8]), (10, [2]), (1, [69, 70, 71, 72, 73, 74, 0]), (10, [8]), (10, [8]), (10, [8]), (10, [8]), (10, [8]), (10, [2]), (1, [76, 77, 78, 79, 80, 81, 0]), (10, [8]), (10, [8]), (10, [8]), (10, [8]), (10, [8]), (10, [2]), (1, [83, 84, 85, 86, 87, 88, 0]), (10, [8]), (10, [8]), (10, [8]), (10, [8]), (10, [8]), (10, [2]), (1, [90, 91, 92, 93, 94, 95, 0]), (10, [8]), (10, [8]), (10, [8]), (10, [8]), (10, [8]), (10, [2]), (1, [97, 98, 99, 100, 101, 102, 0]), (10, [8]), (10, [8]), (10, [8]), (10, [8]), (10, [8]), (10, [2]), (1, [104, 105, 106, 107, 108, 109, 0]), (10, [8]), (10, [8]), (10, [8]), (10, [8]), (10, [8]), (10, [2]), (1, [111, 112, 113, 114, 115, 116, 0]), (10, [8]), (10, [8]), (10, [8]), (10, [8]), (10, [8]), (10, [2])]
set_option maxHeartbeats 4000000 in
set_option maxRecDepth 100000 in
theorem cb_Acts (G : bG) : CtB G y_Acts_init X_Acts_init 2 113 800 (0, [2, 0, 0]) BActs_68 := by
  refine CtB.ofKB (by decide) rfl rfl T_Acts_init (Nat.le_of_ble_eq_true rfl) rfl (fun a0 sz ad h0 => ?_)
  show KB _ _ _ _ _ _ _ _ BActs_0 _ _
  refine KB_aload_n (pc := 0) (i := 0) rfl rfl ?_
  refine KB_objInit (pc := 1) (i := 1) rfl (List.mem_of_getElem? (i := 160) (by decide +kernel)) ⟨Nat.le_of_ble_eq_true rfl, Nat.le_of_ble_eq_true rfl⟩ (Nat.le_of_ble_eq_true rfl) ?_
  refine KB_aload_n (pc := 4) (i := 2) rfl rfl ?_
  refine KB_bipush (pc := 5) (i := 3) rfl rfl ?_
  refine KB_anew (pc := 7) (i := 4) (B := BActs_0) (n := 1) (l := 16) (t := 12) (C := "KitesWar$Fleet") (by decide) rfl (List.mem_of_getElem? (i := 161) (by decide +kernel)) rfl (by decide) (by decide +kernel) (by decide +kernel) (by decide +kernel) ⟨Nat.le_of_ble_eq_true rfl, Nat.le_of_ble_eq_true rfl⟩ (B' := BActs_1) (by decide +kernel) (fun q7 ad7 hg7 hq7 => ?_)
  have h0 := (hg7 0 (by decide)).trans h0
  refine KB_putF (pc := 10) (i := 5) (B := BActs_1) (j := 0) (d := 1) (by decide) rfl h0 hq7 rfl rfl (by decide) (by decide) rfl rfl ⟨"", Or.inr ⟨_, rfl⟩⟩ fw_Acts_11 (B' := BActs_2) (by decide +kernel) ?_
  refine KB_aload_n (pc := 13) (i := 6) rfl rfl ?_
  refine KB_iconst (pc := 14) (i := 7) rfl ?_
  refine KB_put0 (pc := 15) (i := 8) (B := BActs_2) (j := 1) (f := 0) rfl h0 rfl rfl rfl (by decide) (by decide) rfl ⟨rfl, rfl⟩ fw_Acts_17 (B' := BActs_3) (by decide +kernel) ?_
  refine KB_aload_n (pc := 18) (i := 9) rfl rfl ?_
  refine KB_iconst (pc := 19) (i := 10) rfl ?_
  refine KB_put0 (pc := 20) (i := 11) (B := BActs_3) (j := 2) (f := 0) rfl h0 rfl rfl rfl (by decide) (by decide) rfl ⟨rfl, rfl⟩ fw_Acts_21 (B' := BActs_4) (by decide +kernel) ?_
  refine KB_iconst (pc := 23) (i := 12) rfl ?_
  refine KB_ist_n (pc := 24) (i := 13) (lo' := [(0, _), (1, _)]) rfl rfl rfl rfl ?_
  refine KB_iload_n (pc := 25) (i := 14) rfl rfl ?_
  refine KB_bipush (pc := 26) (i := 15) rfl rfl ?_
  refine KB_ge_f 50 (pc := 28) (i := 16) rfl rfl (by decide) (by decide) (by decide) ?_
  refine KB_aload_n (pc := 31) (i := 17) rfl rfl ?_
  obtain ⟨r1032, hr1032⟩ : ∃ r, ad7 1 = r := ⟨_, rfl⟩
  refine KB_getR (pc := 32) (i := 18) (B := BActs_4) (j := 0) (d := 1) rfl h0 hr1032 rfl rfl (by decide) rfl fw_Acts_11 ?_
  refine KB_iload_n (pc := 35) (i := 19) rfl rfl ?_
  refine KB_new (pc := 36) (i := 20) (B := BActs_4) (n := 2) (fs := [2, 2, 2, 2, 2, 2, 0]) rfl rfl (List.mem_of_getElem? (i := 161) (by decide +kernel)) (List.mem_of_getElem? (i := 91) (by decide +kernel)) (List.mem_of_getElem? (i := 51) (by decide +kernel)) nw_Fleet (by decide +kernel) (by decide +kernel) rfl ⟨Nat.le_of_ble_eq_true rfl, Nat.le_of_ble_eq_true rfl⟩ (B' := BActs_5) (by decide +kernel) (fun q2036 ad2036 hg2036 hq2036 => ?_)
  have h0 := (hg2036 0 (by decide)).trans h0
  have hr1032 := (hg2036 1 (by decide)).trans hr1032
  refine KB_dup (pc := 39) (i := 21) rfl rfl ?_
  refine KB_ctorN (pc := 40) (i := 22) (B := BActs_5) (B0 := BActs_6) (n := 2) rfl (cb_Fleet G) (by decide +kernel) (by decide +kernel) hq2036 (by decide +kernel) (by decide +kernel) (by decide +kernel) (by decide +kernel) rfl rfl (by decide +kernel) (List.mem_of_getElem? (i := 93) (by decide +kernel)) (List.mem_of_getElem? (i := 51) (by decide +kernel)) (List.mem_of_getElem? (i := 94) (by decide +kernel)) ⟨⟨Nat.le_of_ble_eq_true rfl, Nat.le_of_ble_eq_true rfl⟩, Nat.le_of_ble_eq_true rfl, Nat.le_of_ble_eq_true rfl⟩ (Nat.le_of_ble_eq_true rfl) (B' := BActs_7) (by decide +kernel) (fun ad3040 hg3040 => ?_)
  have h0 := (hg3040 0 (by decide)).trans h0
  have hr1032 := (hg3040 1 (by decide)).trans hr1032
  have hq2036 := (hg3040 2 (by decide)).trans hq2036
  refine KB_aast (pc := 43) (i := 23) (B := BActs_7) (rc := 1) (vc := 2) (t := 12) (by decide) rfl hr1032 hq2036 rfl rfl rfl (by decide) (by decide) (by decide) (B' := BActs_8) (by decide +kernel) ?_
  refine KB_inc (pc := 44) (i := 24) (q := 1) (b := 1) (lo' := [(0, _), (1, _)]) rfl rfl rfl rfl rfl rfl ?_
  refine KB_goto 25 (pc := 47) (i := 25) rfl rfl ?_
  refine KB_iload_n (pc := 25) (i := 14) rfl rfl ?_
  refine KB_bipush (pc := 26) (i := 15) rfl rfl ?_
  refine KB_ge_f 50 (pc := 28) (i := 16) rfl rfl (by decide) (by decide) (by decide) ?_
  refine KB_aload_n (pc := 31) (i := 17) rfl rfl ?_
  obtain ⟨r4032, hr4032⟩ : ∃ r, ad3040 1 = r := ⟨_, rfl⟩
  refine KB_getR (pc := 32) (i := 18) (B := BActs_8) (j := 0) (d := 1) rfl h0 hr4032 rfl rfl (by decide) rfl fw_Acts_11 ?_
  refine KB_iload_n (pc := 35) (i := 19) rfl rfl ?_
  refine KB_new (pc := 36) (i := 20) (B := BActs_8) (n := 9) (fs := [2, 2, 2, 2, 2, 2, 0]) rfl rfl (List.mem_of_getElem? (i := 161) (by decide +kernel)) (List.mem_of_getElem? (i := 91) (by decide +kernel)) (List.mem_of_getElem? (i := 51) (by decide +kernel)) nw_Fleet (by decide +kernel) (by decide +kernel) rfl ⟨Nat.le_of_ble_eq_true rfl, Nat.le_of_ble_eq_true rfl⟩ (B' := BActs_9) (by decide +kernel) (fun q5036 ad5036 hg5036 hq5036 => ?_)
  have h0 := (hg5036 0 (by decide)).trans h0
  have hr4032 := (hg5036 1 (by decide)).trans hr4032
  refine KB_dup (pc := 39) (i := 21) rfl rfl ?_
  refine KB_ctorN (pc := 40) (i := 22) (B := BActs_9) (B0 := BActs_10) (n := 9) rfl (cb_Fleet G) (by decide +kernel) (by decide +kernel) hq5036 (by decide +kernel) (by decide +kernel) (by decide +kernel) (by decide +kernel) rfl rfl (by decide +kernel) (List.mem_of_getElem? (i := 93) (by decide +kernel)) (List.mem_of_getElem? (i := 51) (by decide +kernel)) (List.mem_of_getElem? (i := 94) (by decide +kernel)) ⟨⟨Nat.le_of_ble_eq_true rfl, Nat.le_of_ble_eq_true rfl⟩, Nat.le_of_ble_eq_true rfl, Nat.le_of_ble_eq_true rfl⟩ (Nat.le_of_ble_eq_true rfl) (B' := BActs_11) (by decide +kernel) (fun ad6040 hg6040 => ?_)
  have h0 := (hg6040 0 (by decide)).trans h0
  have hr4032 := (hg6040 1 (by decide)).trans hr4032
  have hq5036 := (hg6040 9 (by decide)).trans hq5036
  refine KB_aast (pc := 43) (i := 23) (B := BActs_11) (rc := 1) (vc := 9) (t := 12) (by decide) rfl hr4032 hq5036 rfl rfl rfl (by decide) (by decide) (by decide) (B' := BActs_12) (by decide +kernel) ?_
  refine KB_inc (pc := 44) (i := 24) (q := 1) (b := 2) (lo' := [(0, _), (1, _)]) rfl rfl rfl rfl rfl rfl ?_
  refine KB_goto 25 (pc := 47) (i := 25) rfl rfl ?_
  refine KB_iload_n (pc := 25) (i := 14) rfl rfl ?_
  refine KB_bipush (pc := 26) (i := 15) rfl rfl ?_
  refine KB_ge_f 50 (pc := 28) (i := 16) rfl rfl (by decide) (by decide) (by decide) ?_
  refine KB_aload_n (pc := 31) (i := 17) rfl rfl ?_
  obtain ⟨r7032, hr7032⟩ : ∃ r, ad6040 1 = r := ⟨_, rfl⟩
  refine KB_getR (pc := 32) (i := 18) (B := BActs_12) (j := 0) (d := 1) rfl h0 hr7032 rfl rfl (by decide) rfl fw_Acts_11 ?_
  refine KB_iload_n (pc := 35) (i := 19) rfl rfl ?_
  refine KB_new (pc := 36) (i := 20) (B := BActs_12) (n := 16) (fs := [2, 2, 2, 2, 2, 2, 0]) rfl rfl (List.mem_of_getElem? (i := 161) (by decide +kernel)) (List.mem_of_getElem? (i := 91) (by decide +kernel)) (List.mem_of_getElem? (i := 51) (by decide +kernel)) nw_Fleet (by decide +kernel) (by decide +kernel) rfl ⟨Nat.le_of_ble_eq_true rfl, Nat.le_of_ble_eq_true rfl⟩ (B' := BActs_13) (by decide +kernel) (fun q8036 ad8036 hg8036 hq8036 => ?_)
  have h0 := (hg8036 0 (by decide)).trans h0
  have hr7032 := (hg8036 1 (by decide)).trans hr7032
  refine KB_dup (pc := 39) (i := 21) rfl rfl ?_
  refine KB_ctorN (pc := 40) (i := 22) (B := BActs_13) (B0 := BActs_14) (n := 16) rfl (cb_Fleet G) (by decide +kernel) (by decide +kernel) hq8036 (by decide +kernel) (by decide +kernel) (by decide +kernel) (by decide +kernel) rfl rfl (by decide +kernel) (List.mem_of_getElem? (i := 93) (by decide +kernel)) (List.mem_of_getElem? (i := 51) (by decide +kernel)) (List.mem_of_getElem? (i := 94) (by decide +kernel)) ⟨⟨Nat.le_of_ble_eq_true rfl, Nat.le_of_ble_eq_true rfl⟩, Nat.le_of_ble_eq_true rfl, Nat.le_of_ble_eq_true rfl⟩ (Nat.le_of_ble_eq_true rfl) (B' := BActs_15) (by decide +kernel) (fun ad9040 hg9040 => ?_)
  have h0 := (hg9040 0 (by decide)).trans h0
  have hr7032 := (hg9040 1 (by decide)).trans hr7032
  have hq8036 := (hg9040 16 (by decide)).trans hq8036
  refine KB_aast (pc := 43) (i := 23) (B := BActs_15) (rc := 1) (vc := 16) (t := 12) (by decide) rfl hr7032 hq8036 rfl rfl rfl (by decide) (by decide) (by decide) (B' := BActs_16) (by decide +kernel) ?_
  refine KB_inc (pc := 44) (i := 24) (q := 1) (b := 3) (lo' := [(0, _), (1, _)]) rfl rfl rfl rfl rfl rfl ?_
  refine KB_goto 25 (pc := 47) (i := 25) rfl rfl ?_
  refine KB_iload_n (pc := 25) (i := 14) rfl rfl ?_
  refine KB_bipush (pc := 26) (i := 15) rfl rfl ?_
  refine KB_ge_f 50 (pc := 28) (i := 16) rfl rfl (by decide) (by decide) (by decide) ?_
  refine KB_aload_n (pc := 31) (i := 17) rfl rfl ?_
  obtain ⟨r10032, hr10032⟩ : ∃ r, ad9040 1 = r := ⟨_, rfl⟩
  refine KB_getR (pc := 32) (i := 18) (B := BActs_16) (j := 0) (d := 1) rfl h0 hr10032 rfl rfl (by decide) rfl fw_Acts_11 ?_
  refine KB_iload_n (pc := 35) (i := 19) rfl rfl ?_
  refine KB_new (pc := 36) (i := 20) (B := BActs_16) (n := 23) (fs := [2, 2, 2, 2, 2, 2, 0]) rfl rfl (List.mem_of_getElem? (i := 161) (by decide +kernel)) (List.mem_of_getElem? (i := 91) (by decide +kernel)) (List.mem_of_getElem? (i := 51) (by decide +kernel)) nw_Fleet (by decide +kernel) (by decide +kernel) rfl ⟨Nat.le_of_ble_eq_true rfl, Nat.le_of_ble_eq_true rfl⟩ (B' := BActs_17) (by decide +kernel) (fun q11036 ad11036 hg11036 hq11036 => ?_)
  have h0 := (hg11036 0 (by decide)).trans h0
  have hr10032 := (hg11036 1 (by decide)).trans hr10032
  refine KB_dup (pc := 39) (i := 21) rfl rfl ?_
  refine KB_ctorN (pc := 40) (i := 22) (B := BActs_17) (B0 := BActs_18) (n := 23) rfl (cb_Fleet G) (by decide +kernel) (by decide +kernel) hq11036 (by decide +kernel) (by decide +kernel) (by decide +kernel) (by decide +kernel) rfl rfl (by decide +kernel) (List.mem_of_getElem? (i := 93) (by decide +kernel)) (List.mem_of_getElem? (i := 51) (by decide +kernel)) (List.mem_of_getElem? (i := 94) (by decide +kernel)) ⟨⟨Nat.le_of_ble_eq_true rfl, Nat.le_of_ble_eq_true rfl⟩, Nat.le_of_ble_eq_true rfl, Nat.le_of_ble_eq_true rfl⟩ (Nat.le_of_ble_eq_true rfl) (B' := BActs_19) (by decide +kernel) (fun ad12040 hg12040 => ?_)
  have h0 := (hg12040 0 (by decide)).trans h0
  have hr10032 := (hg12040 1 (by decide)).trans hr10032
  have hq11036 := (hg12040 23 (by decide)).trans hq11036
  refine KB_aast (pc := 43) (i := 23) (B := BActs_19) (rc := 1) (vc := 23) (t := 12) (by decide) rfl hr10032 hq11036 rfl rfl rfl (by decide) (by decide) (by decide) (B' := BActs_20) (by decide +kernel) ?_
  refine KB_inc (pc := 44) (i := 24) (q := 1) (b := 4) (lo' := [(0, _), (1, _)]) rfl rfl rfl rfl rfl rfl ?_
  refine KB_goto 25 (pc := 47) (i := 25) rfl rfl ?_
  refine KB_iload_n (pc := 25) (i := 14) rfl rfl ?_
  refine KB_bipush (pc := 26) (i := 15) rfl rfl ?_
  refine KB_ge_f 50 (pc := 28) (i := 16) rfl rfl (by decide) (by decide) (by decide) ?_
  refine KB_aload_n (pc := 31) (i := 17) rfl rfl ?_
  obtain ⟨r13032, hr13032⟩ : ∃ r, ad12040 1 = r := ⟨_, rfl⟩
  refine KB_getR (pc := 32) (i := 18) (B := BActs_20) (j := 0) (d := 1) rfl h0 hr13032 rfl rfl (by decide) rfl fw_Acts_11 ?_
  refine KB_iload_n (pc := 35) (i := 19) rfl rfl ?_
  refine KB_new (pc := 36) (i := 20) (B := BActs_20) (n := 30) (fs := [2, 2, 2, 2, 2, 2, 0]) rfl rfl (List.mem_of_getElem? (i := 161) (by decide +kernel)) (List.mem_of_getElem? (i := 91) (by decide +kernel)) (List.mem_of_getElem? (i := 51) (by decide +kernel)) nw_Fleet (by decide +kernel) (by decide +kernel) rfl ⟨Nat.le_of_ble_eq_true rfl, Nat.le_of_ble_eq_true rfl⟩ (B' := BActs_21) (by decide +kernel) (fun q14036 ad14036 hg14036 hq14036 => ?_)
  have h0 := (hg14036 0 (by decide)).trans h0
  have hr13032 := (hg14036 1 (by decide)).trans hr13032
  refine KB_dup (pc := 39) (i := 21) rfl rfl ?_
  refine KB_ctorN (pc := 40) (i := 22) (B := BActs_21) (B0 := BActs_22) (n := 30) rfl (cb_Fleet G) (by decide +kernel) (by decide +kernel) hq14036 (by decide +kernel) (by decide +kernel) (by decide +kernel) (by decide +kernel) rfl rfl (by decide +kernel) (List.mem_of_getElem? (i := 93) (by decide +kernel)) (List.mem_of_getElem? (i := 51) (by decide +kernel)) (List.mem_of_getElem? (i := 94) (by decide +kernel)) ⟨⟨Nat.le_of_ble_eq_true rfl, Nat.le_of_ble_eq_true rfl⟩, Nat.le_of_ble_eq_true rfl, Nat.le_of_ble_eq_true rfl⟩ (Nat.le_of_ble_eq_true rfl) (B' := BActs_23) (by decide +kernel) (fun ad15040 hg15040 => ?_)
  have h0 := (hg15040 0 (by decide)).trans h0
  have hr13032 := (hg15040 1 (by decide)).trans hr13032
  have hq14036 := (hg15040 30 (by decide)).trans hq14036
  refine KB_aast (pc := 43) (i := 23) (B := BActs_23) (rc := 1) (vc := 30) (t := 12) (by decide) rfl hr13032 hq14036 rfl rfl rfl (by decide) (by decide) (by decide) (B' := BActs_24) (by decide +kernel) ?_
  refine KB_inc (pc := 44) (i := 24) (q := 1) (b := 5) (lo' := [(0, _), (1, _)]) rfl rfl rfl rfl rfl rfl ?_
  refine KB_goto 25 (pc := 47) (i := 25) rfl rfl ?_
  refine KB_iload_n (pc := 25) (i := 14) rfl rfl ?_
  refine KB_bipush (pc := 26) (i := 15) rfl rfl ?_
  refine KB_ge_f 50 (pc := 28) (i := 16) rfl rfl (by decide) (by decide) (by decide) ?_
  refine KB_aload_n (pc := 31) (i := 17) rfl rfl ?_
  obtain ⟨r16032, hr16032⟩ : ∃ r, ad15040 1 = r := ⟨_, rfl⟩
  refine KB_getR (pc := 32) (i := 18) (B := BActs_24) (j := 0) (d := 1) rfl h0 hr16032 rfl rfl (by decide) rfl fw_Acts_11 ?_
  refine KB_iload_n (pc := 35) (i := 19) rfl rfl ?_
  refine KB_new (pc := 36) (i := 20) (B := BActs_24) (n := 37) (fs := [2, 2, 2, 2, 2, 2, 0]) rfl rfl (List.mem_of_getElem? (i := 161) (by decide +kernel)) (List.mem_of_getElem? (i := 91) (by decide +kernel)) (List.mem_of_getElem? (i := 51) (by decide +kernel)) nw_Fleet (by decide +kernel) (by decide +kernel) rfl ⟨Nat.le_of_ble_eq_true rfl, Nat.le_of_ble_eq_true rfl⟩ (B' := BActs_25) (by decide +kernel) (fun q17036 ad17036 hg17036 hq17036 => ?_)
  have h0 := (hg17036 0 (by decide)).trans h0
  have hr16032 := (hg17036 1 (by decide)).trans hr16032
  refine KB_dup (pc := 39) (i := 21) rfl rfl ?_
  refine KB_ctorN (pc := 40) (i := 22) (B := BActs_25) (B0 := BActs_26) (n := 37) rfl (cb_Fleet G) (by decide +kernel) (by decide +kernel) hq17036 (by decide +kernel) (by decide +kernel) (by decide +kernel) (by decide +kernel) rfl rfl (by decide +kernel) (List.mem_of_getElem? (i := 93) (by decide +kernel)) (List.mem_of_getElem? (i := 51) (by decide +kernel)) (List.mem_of_getElem? (i := 94) (by decide +kernel)) ⟨⟨Nat.le_of_ble_eq_true rfl, Nat.le_of_ble_eq_true rfl⟩, Nat.le_of_ble_eq_true rfl, Nat.le_of_ble_eq_true rfl⟩ (Nat.le_of_ble_eq_true rfl) (B' := BActs_27) (by decide +kernel) (fun ad18040 hg18040 => ?_)
  have h0 := (hg18040 0 (by decide)).trans h0
  have hr16032 := (hg18040 1 (by decide)).trans hr16032
  have hq17036 := (hg18040 37 (by decide)).trans hq17036
  refine KB_aast (pc := 43) (i := 23) (B := BActs_27) (rc := 1) (vc := 37) (t := 12) (by decide) rfl hr16032 hq17036 rfl rfl rfl (by decide) (by decide) (by decide) (B' := BActs_28) (by decide +kernel) ?_
  refine KB_inc (pc := 44) (i := 24) (q := 1) (b := 6) (lo' := [(0, _), (1, _)]) rfl rfl rfl rfl rfl rfl ?_
  refine KB_goto 25 (pc := 47) (i := 25) rfl rfl ?_
  refine KB_iload_n (pc := 25) (i := 14) rfl rfl ?_
  refine KB_bipush (pc := 26) (i := 15) rfl rfl ?_
  refine KB_ge_f 50 (pc := 28) (i := 16) rfl rfl (by decide) (by decide) (by decide) ?_
  refine KB_aload_n (pc := 31) (i := 17) rfl rfl ?_
  obtain ⟨r19032, hr19032⟩ : ∃ r, ad18040 1 = r := ⟨_, rfl⟩
  refine KB_getR (pc := 32) (i := 18) (B := BActs_28) (j := 0) (d := 1) rfl h0 hr19032 rfl rfl (by decide) rfl fw_Acts_11 ?_
  refine KB_iload_n (pc := 35) (i := 19) rfl rfl ?_
  refine KB_new (pc := 36) (i := 20) (B := BActs_28) (n := 44) (fs := [2, 2, 2, 2, 2, 2, 0]) rfl rfl (List.mem_of_getElem? (i := 161) (by decide +kernel)) (List.mem_of_getElem? (i := 91) (by decide +kernel)) (List.mem_of_getElem? (i := 51) (by decide +kernel)) nw_Fleet (by decide +kernel) (by decide +kernel) rfl ⟨Nat.le_of_ble_eq_true rfl, Nat.le_of_ble_eq_true rfl⟩ (B' := BActs_29) (by decide +kernel) (fun q20036 ad20036 hg20036 hq20036 => ?_)
  have h0 := (hg20036 0 (by decide)).trans h0
  have hr19032 := (hg20036 1 (by decide)).trans hr19032
  refine KB_dup (pc := 39) (i := 21) rfl rfl ?_
  refine KB_ctorN (pc := 40) (i := 22) (B := BActs_29) (B0 := BActs_30) (n := 44) rfl (cb_Fleet G) (by decide +kernel) (by decide +kernel) hq20036 (by decide +kernel) (by decide +kernel) (by decide +kernel) (by decide +kernel) rfl rfl (by decide +kernel) (List.mem_of_getElem? (i := 93) (by decide +kernel)) (List.mem_of_getElem? (i := 51) (by decide +kernel)) (List.mem_of_getElem? (i := 94) (by decide +kernel)) ⟨⟨Nat.le_of_ble_eq_true rfl, Nat.le_of_ble_eq_true rfl⟩, Nat.le_of_ble_eq_true rfl, Nat.le_of_ble_eq_true rfl⟩ (Nat.le_of_ble_eq_true rfl) (B' := BActs_31) (by decide +kernel) (fun ad21040 hg21040 => ?_)
  have h0 := (hg21040 0 (by decide)).trans h0
  have hr19032 := (hg21040 1 (by decide)).trans hr19032
  have hq20036 := (hg21040 44 (by decide)).trans hq20036
  refine KB_aast (pc := 43) (i := 23) (B := BActs_31) (rc := 1) (vc := 44) (t := 12) (by decide) rfl hr19032 hq20036 rfl rfl rfl (by decide) (by decide) (by decide) (B' := BActs_32) (by decide +kernel) ?_
  refine KB_inc (pc := 44) (i := 24) (q := 1) (b := 7) (lo' := [(0, _), (1, _)]) rfl rfl rfl rfl rfl rfl ?_
  refine KB_goto 25 (pc := 47) (i := 25) rfl rfl ?_
  refine KB_iload_n (pc := 25) (i := 14) rfl rfl ?_
  refine KB_bipush (pc := 26) (i := 15) rfl rfl ?_
  refine KB_ge_f 50 (pc := 28) (i := 16) rfl rfl (by decide) (by decide) (by decide) ?_
  refine KB_aload_n (pc := 31) (i := 17) rfl rfl ?_
  obtain ⟨r22032, hr22032⟩ : ∃ r, ad21040 1 = r := ⟨_, rfl⟩
  refine KB_getR (pc := 32) (i := 18) (B := BActs_32) (j := 0) (d := 1) rfl h0 hr22032 rfl rfl (by decide) rfl fw_Acts_11 ?_
  refine KB_iload_n (pc := 35) (i := 19) rfl rfl ?_
  refine KB_new (pc := 36) (i := 20) (B := BActs_32) (n := 51) (fs := [2, 2, 2, 2, 2, 2, 0]) rfl rfl (List.mem_of_getElem? (i := 161) (by decide +kernel)) (List.mem_of_getElem? (i := 91) (by decide +kernel)) (List.mem_of_getElem? (i := 51) (by decide +kernel)) nw_Fleet (by decide +kernel) (by decide +kernel) rfl ⟨Nat.le_of_ble_eq_true rfl, Nat.le_of_ble_eq_true rfl⟩ (B' := BActs_33) (by decide +kernel) (fun q23036 ad23036 hg23036 hq23036 => ?_)
  have h0 := (hg23036 0 (by decide)).trans h0
  have hr22032 := (hg23036 1 (by decide)).trans hr22032
  refine KB_dup (pc := 39) (i := 21) rfl rfl ?_
  refine KB_ctorN (pc := 40) (i := 22) (B := BActs_33) (B0 := BActs_34) (n := 51) rfl (cb_Fleet G) (by decide +kernel) (by decide +kernel) hq23036 (by decide +kernel) (by decide +kernel) (by decide +kernel) (by decide +kernel) rfl rfl (by decide +kernel) (List.mem_of_getElem? (i := 93) (by decide +kernel)) (List.mem_of_getElem? (i := 51) (by decide +kernel)) (List.mem_of_getElem? (i := 94) (by decide +kernel)) ⟨⟨Nat.le_of_ble_eq_true rfl, Nat.le_of_ble_eq_true rfl⟩, Nat.le_of_ble_eq_true rfl, Nat.le_of_ble_eq_true rfl⟩ (Nat.le_of_ble_eq_true rfl) (B' := BActs_35) (by decide +kernel) (fun ad24040 hg24040 => ?_)
  have h0 := (hg24040 0 (by decide)).trans h0
  have hr22032 := (hg24040 1 (by decide)).trans hr22032
  have hq23036 := (hg24040 51 (by decide)).trans hq23036
  refine KB_aast (pc := 43) (i := 23) (B := BActs_35) (rc := 1) (vc := 51) (t := 12) (by decide) rfl hr22032 hq23036 rfl rfl rfl (by decide) (by decide) (by decide) (B' := BActs_36) (by decide +kernel) ?_
  refine KB_inc (pc := 44) (i := 24) (q := 1) (b := 8) (lo' := [(0, _), (1, _)]) rfl rfl rfl rfl rfl rfl ?_
  refine KB_goto 25 (pc := 47) (i := 25) rfl rfl ?_
  refine KB_iload_n (pc := 25) (i := 14) rfl rfl ?_
  refine KB_bipush (pc := 26) (i := 15) rfl rfl ?_
  refine KB_ge_f 50 (pc := 28) (i := 16) rfl rfl (by decide) (by decide) (by decide) ?_
  refine KB_aload_n (pc := 31) (i := 17) rfl rfl ?_
  obtain ⟨r25032, hr25032⟩ : ∃ r, ad24040 1 = r := ⟨_, rfl⟩
  refine KB_getR (pc := 32) (i := 18) (B := BActs_36) (j := 0) (d := 1) rfl h0 hr25032 rfl rfl (by decide) rfl fw_Acts_11 ?_
  refine KB_iload_n (pc := 35) (i := 19) rfl rfl ?_
  refine KB_new (pc := 36) (i := 20) (B := BActs_36) (n := 58) (fs := [2, 2, 2, 2, 2, 2, 0]) rfl rfl (List.mem_of_getElem? (i := 161) (by decide +kernel)) (List.mem_of_getElem? (i := 91) (by decide +kernel)) (List.mem_of_getElem? (i := 51) (by decide +kernel)) nw_Fleet (by decide +kernel) (by decide +kernel) rfl ⟨Nat.le_of_ble_eq_true rfl, Nat.le_of_ble_eq_true rfl⟩ (B' := BActs_37) (by decide +kernel) (fun q26036 ad26036 hg26036 hq26036 => ?_)
  have h0 := (hg26036 0 (by decide)).trans h0
  have hr25032 := (hg26036 1 (by decide)).trans hr25032
  refine KB_dup (pc := 39) (i := 21) rfl rfl ?_
  refine KB_ctorN (pc := 40) (i := 22) (B := BActs_37) (B0 := BActs_38) (n := 58) rfl (cb_Fleet G) (by decide +kernel) (by decide +kernel) hq26036 (by decide +kernel) (by decide +kernel) (by decide +kernel) (by decide +kernel) rfl rfl (by decide +kernel) (List.mem_of_getElem? (i := 93) (by decide +kernel)) (List.mem_of_getElem? (i := 51) (by decide +kernel)) (List.mem_of_getElem? (i := 94) (by decide +kernel)) ⟨⟨Nat.le_of_ble_eq_true rfl, Nat.le_of_ble_eq_true rfl⟩, Nat.le_of_ble_eq_true rfl, Nat.le_of_ble_eq_true rfl⟩ (Nat.le_of_ble_eq_true rfl) (B' := BActs_39) (by decide +kernel) (fun ad27040 hg27040 => ?_)
  have h0 := (hg27040 0 (by decide)).trans h0
  have hr25032 := (hg27040 1 (by decide)).trans hr25032
  have hq26036 := (hg27040 58 (by decide)).trans hq26036
  refine KB_aast (pc := 43) (i := 23) (B := BActs_39) (rc := 1) (vc := 58) (t := 12) (by decide) rfl hr25032 hq26036 rfl rfl rfl (by decide) (by decide) (by decide) (B' := BActs_40) (by decide +kernel) ?_
  refine KB_inc (pc := 44) (i := 24) (q := 1) (b := 9) (lo' := [(0, _), (1, _)]) rfl rfl rfl rfl rfl rfl ?_
  refine KB_goto 25 (pc := 47) (i := 25) rfl rfl ?_
  refine KB_iload_n (pc := 25) (i := 14) rfl rfl ?_
  refine KB_bipush (pc := 26) (i := 15) rfl rfl ?_
  refine KB_ge_f 50 (pc := 28) (i := 16) rfl rfl (by decide) (by decide) (by decide) ?_
  refine KB_aload_n (pc := 31) (i := 17) rfl rfl ?_
  obtain ⟨r28032, hr28032⟩ : ∃ r, ad27040 1 = r := ⟨_, rfl⟩
  refine KB_getR (pc := 32) (i := 18) (B := BActs_40) (j := 0) (d := 1) rfl h0 hr28032 rfl rfl (by decide) rfl fw_Acts_11 ?_
  refine KB_iload_n (pc := 35) (i := 19) rfl rfl ?_
  refine KB_new (pc := 36) (i := 20) (B := BActs_40) (n := 65) (fs := [2, 2, 2, 2, 2, 2, 0]) rfl rfl (List.mem_of_getElem? (i := 161) (by decide +kernel)) (List.mem_of_getElem? (i := 91) (by decide +kernel)) (List.mem_of_getElem? (i := 51) (by decide +kernel)) nw_Fleet (by decide +kernel) (by decide +kernel) rfl ⟨Nat.le_of_ble_eq_true rfl, Nat.le_of_ble_eq_true rfl⟩ (B' := BActs_41) (by decide +kernel) (fun q29036 ad29036 hg29036 hq29036 => ?_)
  have h0 := (hg29036 0 (by decide)).trans h0
  have hr28032 := (hg29036 1 (by decide)).trans hr28032
  refine KB_dup (pc := 39) (i := 21) rfl rfl ?_
  refine KB_ctorN (pc := 40) (i := 22) (B := BActs_41) (B0 := BActs_42) (n := 65) rfl (cb_Fleet G) (by decide +kernel) (by decide +kernel) hq29036 (by decide +kernel) (by decide +kernel) (by decide +kernel) (by decide +kernel) rfl rfl (by decide +kernel) (List.mem_of_getElem? (i := 93) (by decide +kernel)) (List.mem_of_getElem? (i := 51) (by decide +kernel)) (List.mem_of_getElem? (i := 94) (by decide +kernel)) ⟨⟨Nat.le_of_ble_eq_true rfl, Nat.le_of_ble_eq_true rfl⟩, Nat.le_of_ble_eq_true rfl, Nat.le_of_ble_eq_true rfl⟩ (Nat.le_of_ble_eq_true rfl) (B' := BActs_43) (by decide +kernel) (fun ad30040 hg30040 => ?_)
  have h0 := (hg30040 0 (by decide)).trans h0
  have hr28032 := (hg30040 1 (by decide)).trans hr28032
  have hq29036 := (hg30040 65 (by decide)).trans hq29036
  refine KB_aast (pc := 43) (i := 23) (B := BActs_43) (rc := 1) (vc := 65) (t := 12) (by decide) rfl hr28032 hq29036 rfl rfl rfl (by decide) (by decide) (by decide) (B' := BActs_44) (by decide +kernel) ?_
  refine KB_inc (pc := 44) (i := 24) (q := 1) (b := 10) (lo' := [(0, _), (1, _)]) rfl rfl rfl rfl rfl rfl ?_
  refine KB_goto 25 (pc := 47) (i := 25) rfl rfl ?_
  refine KB_iload_n (pc := 25) (i := 14) rfl rfl ?_
  refine KB_bipush (pc := 26) (i := 15) rfl rfl ?_
  refine KB_ge_f 50 (pc := 28) (i := 16) rfl rfl (by decide) (by decide) (by decide) ?_
  refine KB_aload_n (pc := 31) (i := 17) rfl rfl ?_
  obtain ⟨r31032, hr31032⟩ : ∃ r, ad30040 1 = r := ⟨_, rfl⟩
  refine KB_getR (pc := 32) (i := 18) (B := BActs_44) (j := 0) (d := 1) rfl h0 hr31032 rfl rfl (by decide) rfl fw_Acts_11 ?_
  refine KB_iload_n (pc := 35) (i := 19) rfl rfl ?_
  refine KB_new (pc := 36) (i := 20) (B := BActs_44) (n := 72) (fs := [2, 2, 2, 2, 2, 2, 0]) rfl rfl (List.mem_of_getElem? (i := 161) (by decide +kernel)) (List.mem_of_getElem? (i := 91) (by decide +kernel)) (List.mem_of_getElem? (i := 51) (by decide +kernel)) nw_Fleet (by decide +kernel) (by decide +kernel) rfl ⟨Nat.le_of_ble_eq_true rfl, Nat.le_of_ble_eq_true rfl⟩ (B' := BActs_45) (by decide +kernel) (fun q32036 ad32036 hg32036 hq32036 => ?_)
  have h0 := (hg32036 0 (by decide)).trans h0
  have hr31032 := (hg32036 1 (by decide)).trans hr31032
  refine KB_dup (pc := 39) (i := 21) rfl rfl ?_
  refine KB_ctorN (pc := 40) (i := 22) (B := BActs_45) (B0 := BActs_46) (n := 72) rfl (cb_Fleet G) (by decide +kernel) (by decide +kernel) hq32036 (by decide +kernel) (by decide +kernel) (by decide +kernel) (by decide +kernel) rfl rfl (by decide +kernel) (List.mem_of_getElem? (i := 93) (by decide +kernel)) (List.mem_of_getElem? (i := 51) (by decide +kernel)) (List.mem_of_getElem? (i := 94) (by decide +kernel)) ⟨⟨Nat.le_of_ble_eq_true rfl, Nat.le_of_ble_eq_true rfl⟩, Nat.le_of_ble_eq_true rfl, Nat.le_of_ble_eq_true rfl⟩ (Nat.le_of_ble_eq_true rfl) (B' := BActs_47) (by decide +kernel) (fun ad33040 hg33040 => ?_)
  have h0 := (hg33040 0 (by decide)).trans h0
  have hr31032 := (hg33040 1 (by decide)).trans hr31032
  have hq32036 := (hg33040 72 (by decide)).trans hq32036
  refine KB_aast (pc := 43) (i := 23) (B := BActs_47) (rc := 1) (vc := 72) (t := 12) (by decide) rfl hr31032 hq32036 rfl rfl rfl (by decide) (by decide) (by decide) (B' := BActs_48) (by decide +kernel) ?_
  refine KB_inc (pc := 44) (i := 24) (q := 1) (b := 11) (lo' := [(0, _), (1, _)]) rfl rfl rfl rfl rfl rfl ?_
  refine KB_goto 25 (pc := 47) (i := 25) rfl rfl ?_
  refine KB_iload_n (pc := 25) (i := 14) rfl rfl ?_
  refine KB_bipush (pc := 26) (i := 15) rfl rfl ?_
  refine KB_ge_f 50 (pc := 28) (i := 16) rfl rfl (by decide) (by decide) (by decide) ?_
  refine KB_aload_n (pc := 31) (i := 17) rfl rfl ?_
  obtain ⟨r34032, hr34032⟩ : ∃ r, ad33040 1 = r := ⟨_, rfl⟩
  refine KB_getR (pc := 32) (i := 18) (B := BActs_48) (j := 0) (d := 1) rfl h0 hr34032 rfl rfl (by decide) rfl fw_Acts_11 ?_
  refine KB_iload_n (pc := 35) (i := 19) rfl rfl ?_
  refine KB_new (pc := 36) (i := 20) (B := BActs_48) (n := 79) (fs := [2, 2, 2, 2, 2, 2, 0]) rfl rfl (List.mem_of_getElem? (i := 161) (by decide +kernel)) (List.mem_of_getElem? (i := 91) (by decide +kernel)) (List.mem_of_getElem? (i := 51) (by decide +kernel)) nw_Fleet (by decide +kernel) (by decide +kernel) rfl ⟨Nat.le_of_ble_eq_true rfl, Nat.le_of_ble_eq_true rfl⟩ (B' := BActs_49) (by decide +kernel) (fun q35036 ad35036 hg35036 hq35036 => ?_)
  have h0 := (hg35036 0 (by decide)).trans h0
  have hr34032 := (hg35036 1 (by decide)).trans hr34032
  refine KB_dup (pc := 39) (i := 21) rfl rfl ?_
  refine KB_ctorN (pc := 40) (i := 22) (B := BActs_49) (B0 := BActs_50) (n := 79) rfl (cb_Fleet G) (by decide +kernel) (by decide +kernel) hq35036 (by decide +kernel) (by decide +kernel) (by decide +kernel) (by decide +kernel) rfl rfl (by decide +kernel) (List.mem_of_getElem? (i := 93) (by decide +kernel)) (List.mem_of_getElem? (i := 51) (by decide +kernel)) (List.mem_of_getElem? (i := 94) (by decide +kernel)) ⟨⟨Nat.le_of_ble_eq_true rfl, Nat.le_of_ble_eq_true rfl⟩, Nat.le_of_ble_eq_true rfl, Nat.le_of_ble_eq_true rfl⟩ (Nat.le_of_ble_eq_true rfl) (B' := BActs_51) (by decide +kernel) (fun ad36040 hg36040 => ?_)
  have h0 := (hg36040 0 (by decide)).trans h0
  have hr34032 := (hg36040 1 (by decide)).trans hr34032
  have hq35036 := (hg36040 79 (by decide)).trans hq35036
  refine KB_aast (pc := 43) (i := 23) (B := BActs_51) (rc := 1) (vc := 79) (t := 12) (by decide) rfl hr34032 hq35036 rfl rfl rfl (by decide) (by decide) (by decide) (B' := BActs_52) (by decide +kernel) ?_
  refine KB_inc (pc := 44) (i := 24) (q := 1) (b := 12) (lo' := [(0, _), (1, _)]) rfl rfl rfl rfl rfl rfl ?_
  refine KB_goto 25 (pc := 47) (i := 25) rfl rfl ?_
  refine KB_iload_n (pc := 25) (i := 14) rfl rfl ?_
  refine KB_bipush (pc := 26) (i := 15) rfl rfl ?_
  refine KB_ge_f 50 (pc := 28) (i := 16) rfl rfl (by decide) (by decide) (by decide) ?_
  refine KB_aload_n (pc := 31) (i := 17) rfl rfl ?_
  obtain ⟨r37032, hr37032⟩ : ∃ r, ad36040 1 = r := ⟨_, rfl⟩
  refine KB_getR (pc := 32) (i := 18) (B := BActs_52) (j := 0) (d := 1) rfl h0 hr37032 rfl rfl (by decide) rfl fw_Acts_11 ?_
  refine KB_iload_n (pc := 35) (i := 19) rfl rfl ?_
  refine KB_new (pc := 36) (i := 20) (B := BActs_52) (n := 86) (fs := [2, 2, 2, 2, 2, 2, 0]) rfl rfl (List.mem_of_getElem? (i := 161) (by decide +kernel)) (List.mem_of_getElem? (i := 91) (by decide +kernel)) (List.mem_of_getElem? (i := 51) (by decide +kernel)) nw_Fleet (by decide +kernel) (by decide +kernel) rfl ⟨Nat.le_of_ble_eq_true rfl, Nat.le_of_ble_eq_true rfl⟩ (B' := BActs_53) (by decide +kernel) (fun q38036 ad38036 hg38036 hq38036 => ?_)
  have h0 := (hg38036 0 (by decide)).trans h0
  have hr37032 := (hg38036 1 (by decide)).trans hr37032
  refine KB_dup (pc := 39) (i := 21) rfl rfl ?_
  refine KB_ctorN (pc := 40) (i := 22) (B := BActs_53) (B0 := BActs_54) (n := 86) rfl (cb_Fleet G) (by decide +kernel) (by decide +kernel) hq38036 (by decide +kernel) (by decide +kernel) (by decide +kernel) (by decide +kernel) rfl rfl (by decide +kernel) (List.mem_of_getElem? (i := 93) (by decide +kernel)) (List.mem_of_getElem? (i := 51) (by decide +kernel)) (List.mem_of_getElem? (i := 94) (by decide +kernel)) ⟨⟨Nat.le_of_ble_eq_true rfl, Nat.le_of_ble_eq_true rfl⟩, Nat.le_of_ble_eq_true rfl, Nat.le_of_ble_eq_true rfl⟩ (Nat.le_of_ble_eq_true rfl) (B' := BActs_55) (by decide +kernel) (fun ad39040 hg39040 => ?_)
  have h0 := (hg39040 0 (by decide)).trans h0
  have hr37032 := (hg39040 1 (by decide)).trans hr37032
  have hq38036 := (hg39040 86 (by decide)).trans hq38036
  refine KB_aast (pc := 43) (i := 23) (B := BActs_55) (rc := 1) (vc := 86) (t := 12) (by decide) rfl hr37032 hq38036 rfl rfl rfl (by decide) (by decide) (by decide) (B' := BActs_56) (by decide +kernel) ?_
  refine KB_inc (pc := 44) (i := 24) (q := 1) (b := 13) (lo' := [(0, _), (1, _)]) rfl rfl rfl rfl rfl rfl ?_
  refine KB_goto 25 (pc := 47) (i := 25) rfl rfl ?_
  refine KB_iload_n (pc := 25) (i := 14) rfl rfl ?_
  refine KB_bipush (pc := 26) (i := 15) rfl rfl ?_
  refine KB_ge_f 50 (pc := 28) (i := 16) rfl rfl (by decide) (by decide) (by decide) ?_
  refine KB_aload_n (pc := 31) (i := 17) rfl rfl ?_
  obtain ⟨r40032, hr40032⟩ : ∃ r, ad39040 1 = r := ⟨_, rfl⟩
  refine KB_getR (pc := 32) (i := 18) (B := BActs_56) (j := 0) (d := 1) rfl h0 hr40032 rfl rfl (by decide) rfl fw_Acts_11 ?_
  refine KB_iload_n (pc := 35) (i := 19) rfl rfl ?_
  refine KB_new (pc := 36) (i := 20) (B := BActs_56) (n := 93) (fs := [2, 2, 2, 2, 2, 2, 0]) rfl rfl (List.mem_of_getElem? (i := 161) (by decide +kernel)) (List.mem_of_getElem? (i := 91) (by decide +kernel)) (List.mem_of_getElem? (i := 51) (by decide +kernel)) nw_Fleet (by decide +kernel) (by decide +kernel) rfl ⟨Nat.le_of_ble_eq_true rfl, Nat.le_of_ble_eq_true rfl⟩ (B' := BActs_57) (by decide +kernel) (fun q41036 ad41036 hg41036 hq41036 => ?_)
  have h0 := (hg41036 0 (by decide)).trans h0
  have hr40032 := (hg41036 1 (by decide)).trans hr40032
  refine KB_dup (pc := 39) (i := 21) rfl rfl ?_
  refine KB_ctorN (pc := 40) (i := 22) (B := BActs_57) (B0 := BActs_58) (n := 93) rfl (cb_Fleet G) (by decide +kernel) (by decide +kernel) hq41036 (by decide +kernel) (by decide +kernel) (by decide +kernel) (by decide +kernel) rfl rfl (by decide +kernel) (List.mem_of_getElem? (i := 93) (by decide +kernel)) (List.mem_of_getElem? (i := 51) (by decide +kernel)) (List.mem_of_getElem? (i := 94) (by decide +kernel)) ⟨⟨Nat.le_of_ble_eq_true rfl, Nat.le_of_ble_eq_true rfl⟩, Nat.le_of_ble_eq_true rfl, Nat.le_of_ble_eq_true rfl⟩ (Nat.le_of_ble_eq_true rfl) (B' := BActs_59) (by decide +kernel) (fun ad42040 hg42040 => ?_)
  have h0 := (hg42040 0 (by decide)).trans h0
  have hr40032 := (hg42040 1 (by decide)).trans hr40032
  have hq41036 := (hg42040 93 (by decide)).trans hq41036
  refine KB_aast (pc := 43) (i := 23) (B := BActs_59) (rc := 1) (vc := 93) (t := 12) (by decide) rfl hr40032 hq41036 rfl rfl rfl (by decide) (by decide) (by decide) (B' := BActs_60) (by decide +kernel) ?_
  refine KB_inc (pc := 44) (i := 24) (q := 1) (b := 14) (lo' := [(0, _), (1, _)]) rfl rfl rfl rfl rfl rfl ?_
  refine KB_goto 25 (pc := 47) (i := 25) rfl rfl ?_
  refine KB_iload_n (pc := 25) (i := 14) rfl rfl ?_
  refine KB_bipush (pc := 26) (i := 15) rfl rfl ?_
  refine KB_ge_f 50 (pc := 28) (i := 16) rfl rfl (by decide) (by decide) (by decide) ?_
  refine KB_aload_n (pc := 31) (i := 17) rfl rfl ?_
  obtain ⟨r43032, hr43032⟩ : ∃ r, ad42040 1 = r := ⟨_, rfl⟩
  refine KB_getR (pc := 32) (i := 18) (B := BActs_60) (j := 0) (d := 1) rfl h0 hr43032 rfl rfl (by decide) rfl fw_Acts_11 ?_
  refine KB_iload_n (pc := 35) (i := 19) rfl rfl ?_
  refine KB_new (pc := 36) (i := 20) (B := BActs_60) (n := 100) (fs := [2, 2, 2, 2, 2, 2, 0]) rfl rfl (List.mem_of_getElem? (i := 161) (by decide +kernel)) (List.mem_of_getElem? (i := 91) (by decide +kernel)) (List.mem_of_getElem? (i := 51) (by decide +kernel)) nw_Fleet (by decide +kernel) (by decide +kernel) rfl ⟨Nat.le_of_ble_eq_true rfl, Nat.le_of_ble_eq_true rfl⟩ (B' := BActs_61) (by decide +kernel) (fun q44036 ad44036 hg44036 hq44036 => ?_)
  have h0 := (hg44036 0 (by decide)).trans h0
  have hr43032 := (hg44036 1 (by decide)).trans hr43032
  refine KB_dup (pc := 39) (i := 21) rfl rfl ?_
  refine KB_ctorN (pc := 40) (i := 22) (B := BActs_61) (B0 := BActs_62) (n := 100) rfl (cb_Fleet G) (by decide +kernel) (by decide +kernel) hq44036 (by decide +kernel) (by decide +kernel) (by decide +kernel) (by decide +kernel) rfl rfl (by decide +kernel) (List.mem_of_getElem? (i := 93) (by decide +kernel)) (List.mem_of_getElem? (i := 51) (by decide +kernel)) (List.mem_of_getElem? (i := 94) (by decide +kernel)) ⟨⟨Nat.le_of_ble_eq_true rfl, Nat.le_of_ble_eq_true rfl⟩, Nat.le_of_ble_eq_true rfl, Nat.le_of_ble_eq_true rfl⟩ (Nat.le_of_ble_eq_true rfl) (B' := BActs_63) (by decide +kernel) (fun ad45040 hg45040 => ?_)
  have h0 := (hg45040 0 (by decide)).trans h0
  have hr43032 := (hg45040 1 (by decide)).trans hr43032
  have hq44036 := (hg45040 100 (by decide)).trans hq44036
  refine KB_aast (pc := 43) (i := 23) (B := BActs_63) (rc := 1) (vc := 100) (t := 12) (by decide) rfl hr43032 hq44036 rfl rfl rfl (by decide) (by decide) (by decide) (B' := BActs_64) (by decide +kernel) ?_
  refine KB_inc (pc := 44) (i := 24) (q := 1) (b := 15) (lo' := [(0, _), (1, _)]) rfl rfl rfl rfl rfl rfl ?_
  refine KB_goto 25 (pc := 47) (i := 25) rfl rfl ?_
  refine KB_iload_n (pc := 25) (i := 14) rfl rfl ?_
  refine KB_bipush (pc := 26) (i := 15) rfl rfl ?_
  refine KB_ge_f 50 (pc := 28) (i := 16) rfl rfl (by decide) (by decide) (by decide) ?_
  refine KB_aload_n (pc := 31) (i := 17) rfl rfl ?_
  obtain ⟨r46032, hr46032⟩ : ∃ r, ad45040 1 = r := ⟨_, rfl⟩
  refine KB_getR (pc := 32) (i := 18) (B := BActs_64) (j := 0) (d := 1) rfl h0 hr46032 rfl rfl (by decide) rfl fw_Acts_11 ?_
  refine KB_iload_n (pc := 35) (i := 19) rfl rfl ?_
  refine KB_new (pc := 36) (i := 20) (B := BActs_64) (n := 107) (fs := [2, 2, 2, 2, 2, 2, 0]) rfl rfl (List.mem_of_getElem? (i := 161) (by decide +kernel)) (List.mem_of_getElem? (i := 91) (by decide +kernel)) (List.mem_of_getElem? (i := 51) (by decide +kernel)) nw_Fleet (by decide +kernel) (by decide +kernel) rfl ⟨Nat.le_of_ble_eq_true rfl, Nat.le_of_ble_eq_true rfl⟩ (B' := BActs_65) (by decide +kernel) (fun q47036 ad47036 hg47036 hq47036 => ?_)
  have h0 := (hg47036 0 (by decide)).trans h0
  have hr46032 := (hg47036 1 (by decide)).trans hr46032
  refine KB_dup (pc := 39) (i := 21) rfl rfl ?_
  refine KB_ctorN (pc := 40) (i := 22) (B := BActs_65) (B0 := BActs_66) (n := 107) rfl (cb_Fleet G) (by decide +kernel) (by decide +kernel) hq47036 (by decide +kernel) (by decide +kernel) (by decide +kernel) (by decide +kernel) rfl rfl (by decide +kernel) (List.mem_of_getElem? (i := 93) (by decide +kernel)) (List.mem_of_getElem? (i := 51) (by decide +kernel)) (List.mem_of_getElem? (i := 94) (by decide +kernel)) ⟨⟨Nat.le_of_ble_eq_true rfl, Nat.le_of_ble_eq_true rfl⟩, Nat.le_of_ble_eq_true rfl, Nat.le_of_ble_eq_true rfl⟩ (Nat.le_of_ble_eq_true rfl) (B' := BActs_67) (by decide +kernel) (fun ad48040 hg48040 => ?_)
  have h0 := (hg48040 0 (by decide)).trans h0
  have hr46032 := (hg48040 1 (by decide)).trans hr46032
  have hq47036 := (hg48040 107 (by decide)).trans hq47036
  refine KB_aast (pc := 43) (i := 23) (B := BActs_67) (rc := 1) (vc := 107) (t := 12) (by decide) rfl hr46032 hq47036 rfl rfl rfl (by decide) (by decide) (by decide) (B' := BActs_68) (by decide +kernel) ?_
  refine KB_inc (pc := 44) (i := 24) (q := 1) (b := 16) (lo' := [(0, _), (1, _)]) rfl rfl rfl rfl rfl rfl ?_
  refine KB_goto 25 (pc := 47) (i := 25) rfl rfl ?_
  refine KB_iload_n (pc := 25) (i := 14) rfl rfl ?_
  refine KB_bipush (pc := 26) (i := 15) rfl rfl ?_
  refine KB_ge_t 50 (pc := 28) (i := 16) rfl rfl (by decide) (by decide) (by decide) ?_
  exact KB_ret (pc := 50) (i := 26) rfl rfl h0
