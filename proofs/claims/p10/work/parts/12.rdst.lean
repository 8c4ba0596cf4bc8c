/-! reading and storing under the invariant -/
section RdSt
variable {g : kGh} {h : kH} {f s i : Nat} {v : Int}
theorem rd_kites (hI : Gd g h) (hf : f ∈ FL) : 0 ≤ h f 6 ∧ h f 6 ≤ 8 := kPk3.mp ((kP_of (fl_ok f hf).1.1).mp (hI.1 f 6)) rfl
theorem rd_town (hI : Gd g h) (hf : f ∈ FL) (i : Nat) : 0 ≤ h (f+1) i ∧ h (f+1) i ≤ 1 := kPk1.mp ((kP_of (fl_ok f hf).1.2.1).mp (hI.1 (f+1) i))
theorem rd_height (hI : Gd g h) (hf : f ∈ FL) (i : Nat) : 0 ≤ h (f+4) i ∧ h (f+4) i ≤ 9 := kPk2.mp ((kP_of (fl_ok f hf).1.2.2.2.2.1).mp (hI.1 (f+4) i))
theorem st_kites (hI : Gd g h) (hf : f ∈ FL) (hv : 0 ≤ v ∧ v ≤ 8) : Gd g (kU h f 6 v) := Gd.st ((kP_of (fl_ok f hf).1.1).mpr (kPk3.mpr fun _ => hv)) (fr_fl (k := 0) hf (by omega)) hI
theorem st_town (hI : Gd g h) (hf : f ∈ FL) (hv : 0 ≤ v ∧ v ≤ 1) : Gd g (kU h (f+1) i v) := Gd.st ((kP_of (fl_ok f hf).1.2.1).mpr (kPk1.mpr hv)) (fr_fl (k := 1) hf (by omega)) hI
theorem st_height (hI : Gd g h) (hf : f ∈ FL) (hv : 0 ≤ v ∧ v ≤ 9) : Gd g (kU h (f+4) i v) := Gd.st ((kP_of (fl_ok f hf).1.2.2.2.2.1).mpr (kPk2.mpr hv)) (fr_fl (k := 4) hf (by omega)) hI
theorem rd_stake (hI : Gd g h) (hf : f ∈ FL) (i : Nat) : 0 ≤ h (f+2) i ∧ h (f+2) i ≤ 40 := kPk15.mp ((kP_of (fl_ok f hf).1.2.2.1).mp (hI.1 (f+2) i))
theorem rd_x (hI : Gd g h) (hf : f ∈ FL) (i : Nat) : 0 ≤ h (f+3) i ∧ h (f+3) i ≤ 40 := kPk15.mp ((kP_of (fl_ok f hf).1.2.2.2.1).mp (hI.1 (f+3) i))
theorem rd_glass (hI : Gd g h) (hf : f ∈ FL) (i : Nat) : 0 ≤ h (f+5) i ∧ h (f+5) i ≤ 9 := kPk16.mp ((kP_of (fl_ok f hf).1.2.2.2.2.2.1).mp (hI.1 (f+5) i))
theorem rd_wind (hI : Gd g h) (hs : s ∈ SK) (i : Nat) : -3 ≤ h (s+1) i ∧ h (s+1) i ≤ 3 := kPk17.mp ((kP_of (sk_ok s hs).1).mp (hI.1 (s+1) i))
theorem st_stake (hI : Gd g h) (hf : f ∈ FL) (hv : 0 ≤ v ∧ v ≤ 40) : Gd g (kU h (f+2) i v) := Gd.st ((kP_of (fl_ok f hf).1.2.2.1).mpr (kPk15.mpr hv)) (fr_fl (k := 2) hf (by omega)) hI
theorem st_x (hI : Gd g h) (hf : f ∈ FL) (hv : 0 ≤ v ∧ v ≤ 40) : Gd g (kU h (f+3) i v) := Gd.st ((kP_of (fl_ok f hf).1.2.2.2.1).mpr (kPk15.mpr hv)) (fr_fl (k := 3) hf (by omega)) hI
theorem st_glass (hI : Gd g h) (hf : f ∈ FL) (hv : 0 ≤ v ∧ v ≤ 9) : Gd g (kU h (f+5) i v) := Gd.st ((kP_of (fl_ok f hf).1.2.2.2.2.2.1).mpr (kPk16.mpr hv)) (fr_fl (k := 5) hf (by omega)) hI
theorem st_won (hI : Gd g h) (hf : f ∈ FL) : Gd g (kU h (f+6) i v) := Gd.st (kP_any (fl_ok f hf).1.2.2.2.2.2.2) (fr_fl (k := 6) hf (by omega)) hI
theorem st_wind (hI : Gd g h) (hs : s ∈ SK) (hv : -3 ≤ v ∧ v ≤ 3) : Gd g (kU h (s+1) i v) := Gd.st ((kP_of (sk_ok s hs).1).mpr (kPk17.mpr hv)) (fr_sk (k := 1) hs (by omega)) hI
theorem st_edges (hI : Gd g h) (hs : s ∈ SK) : Gd g (kU h (s+2) i v) := Gd.st (kP_any (sk_ok s hs).2.1) (fr_sk (k := 2) hs (by omega)) hI
theorem cp_fl {f' sp dp n : Nat} (hI : Gd g h) (hf : f ∈ FL) (hf' : f' ∈ FL) (k : Nat) (hk : 1 ≤ k ∧ k ≤ 6) : Gd g (kCpy h (f+k) (f'+k) sp dp n) := by
  refine Gd.cp (fun j v _ hp => ?_) (fun i => fr_fl (k := k) hf' (by omega)) hI
  obtain ⟨⟨-, a1, a2, a3, a4, a5, a6⟩, -⟩ := fl_ok f hf
  obtain ⟨⟨-, b1, b2, b3, b4, b5, b6⟩, -⟩ := fl_ok f' hf'
  unfold kP at hp ⊢
  rcases (show k = 1 ∨ k = 2 ∨ k = 3 ∨ k = 4 ∨ k = 5 ∨ k = 6 by omega) with rfl | rfl | rfl | rfl | rfl | rfl
  · rw [a1] at hp; rw [b1]; exact kPk1.mpr (kPk1.mp hp)
  · rw [a2] at hp; rw [b2]; exact kPk15.mpr (kPk15.mp hp)
  · rw [a3] at hp; rw [b3]; exact kPk15.mpr (kPk15.mp hp)
  · rw [a4] at hp; rw [b4]; exact kPk2.mpr (kPk2.mp hp)
  · rw [a5] at hp; rw [b5]; exact kPk16.mpr (kPk16.mp hp)
  · rw [b6]; simp [kPk]
theorem cp_wind {s' sp dp n : Nat} (hI : Gd g h) (hs : s ∈ SK) (hs' : s' ∈ SK) : Gd g (kCpy h (s+1) (s'+1) sp dp n) := Gd.cp (fun j v _ hp => (kP_of (sk_ok s' hs').1).mpr (kPk17.mpr (kPk17.mp ((kP_of (sk_ok s hs).1).mp hp)))) (fun i => fr_sk (k := 1) hs' (by omega)) hI
theorem fr_of2 {c i : Nat} (h1 : 2 ≤ c ∧ c ≠ 184 ∧ c ≠ 187 ∧ c ≠ 191 ∧ c ≠ 200) : kFree c i = true := by
  simp [kFree, kFree0, beqF (show c ≠ 1 by omega), beqF (show c ≠ 0 by omega), beqF (show c ≠ 184 by omega), beqF (show c ≠ 187 by omega), beqF (show c ≠ 191 by omega), beqF (show c ≠ 200 by omega)]
theorem st_free {c : Nat} (hI : Gd g h) (hb : kBk c = 0) (h1 : 2 ≤ c ∧ c ≠ 184 ∧ c ≠ 187 ∧ c ≠ 191 ∧ c ≠ 200) : Gd g (kU h c i v) := Gd.st (kP_any hb) (fr_of2 h1) hI
theorem rd_len (hI : Gd g h) : 0 ≤ h 1 1 ∧ h 1 1 ≤ 74 := kPk4.mp ((kP_of (by decide +kernel : kBk 1 = 4)).mp (hI.1 1 1)) rfl
theorem rd_bytes (hI : Gd g h) (i : Nat) : 0 ≤ h 2 i ∧ h 2 i ≤ 255 := kPk5.mp ((kP_of (by decide +kernel : kBk 2 = 5)).mp (hI.1 2 i))
theorem st_bytes (hI : Gd g h) (hv : 0 ≤ v ∧ v ≤ 255) : Gd g (kU h 2 i v) := Gd.st ((kP_of (by decide +kernel : kBk 2 = 5)).mpr (kPk5.mpr hv)) (fr_of2 (by omega)) hI
theorem rd_actnext (hI : Gd g h) : 0 ≤ h 23 1 ∧ h 23 1 ≤ 15 := (kPk6.mp ((kP_of (by decide +kernel : kBk 23 = 6)).mp (hI.1 23 1))).1 rfl
theorem rd_actsize (hI : Gd g h) : 0 ≤ h 23 2 ∧ h 23 2 ≤ 16 := (kPk6.mp ((kP_of (by decide +kernel : kBk 23 = 6)).mp (hI.1 23 2))).2 rfl
theorem st_actnext (hI : Gd g h) (hv : 0 ≤ v ∧ v ≤ 15) : Gd g (kU h 23 1 v) := Gd.st ((kP_of (by decide +kernel : kBk 23 = 6)).mpr (kPk6.mpr ⟨fun _ => hv, fun e => (by cases e)⟩)) (by decide +kernel) hI
theorem st_actsize (hI : Gd g h) (hv : 0 ≤ v ∧ v ≤ 16) : Gd g (kU h 23 2 v) := Gd.st ((kP_of (by decide +kernel : kBk 23 = 6)).mpr (kPk6.mpr ⟨fun e => (by cases e), fun _ => hv⟩)) (by decide +kernel) hI
theorem rd_anscount (hI : Gd g h) : 0 ≤ h 160 8 ∧ h 160 8 ≤ 243 := kPk7.mp ((kP_of (by decide +kernel : kBk 160 = 7)).mp (hI.1 160 8)) rfl
theorem st_anscount (hI : Gd g h) (hv : 0 ≤ v ∧ v ≤ 243) : Gd g (kU h 160 8 v) := Gd.st ((kP_of (by decide +kernel : kBk 160 = 7)).mpr (kPk7.mpr fun _ => hv)) (by decide +kernel) hI
theorem rd_seensize (hI : Gd g h) : 0 ≤ h 169 6 ∧ h 169 6 ≤ 8 := kPk8.mp ((kP_of (by decide +kernel : kBk 169 = 8)).mp (hI.1 169 6)) rfl
theorem st_seensize (hI : Gd g h) (hv : 0 ≤ v ∧ v ≤ 8) : Gd g (kU h 169 6 v) := Gd.st ((kP_of (by decide +kernel : kBk 169 = 8)).mpr (kPk8.mpr fun _ => hv)) (by decide +kernel) hI
theorem rd_seenkite (hI : Gd g h) (i : Nat) : 0 ≤ h 170 i ∧ h 170 i ≤ 7 := kPk9.mp ((kP_of (by decide +kernel : kBk 170 = 9)).mp (hI.1 170 i))
theorem st_seenkite (hI : Gd g h) (hv : 0 ≤ v ∧ v ≤ 7) : Gd g (kU h 170 i v) := Gd.st ((kP_of (by decide +kernel : kBk 170 = 9)).mpr (kPk9.mpr hv)) (fr_of2 (by omega)) hI
theorem rd_seenother (hI : Gd g h) (i : Nat) : 0 ≤ h 171 i ∧ h 171 i ≤ 7 := kPk9.mp ((kP_of (by decide +kernel : kBk 171 = 9)).mp (hI.1 171 i))
theorem st_seenother (hI : Gd g h) (hv : 0 ≤ v ∧ v ≤ 7) : Gd g (kU h 171 i v) := Gd.st ((kP_of (by decide +kernel : kBk 171 = 9)).mpr (kPk9.mpr hv)) (fr_of2 (by omega)) hI
theorem rd_mtext (hI : Gd g h) (i : Nat) : 0 ≤ h 190 i ∧ h 190 i ≤ 255 := kPk5.mp ((kP_of (by decide +kernel : kBk 190 = 5)).mp (hI.1 190 i))
theorem st_mtext (hI : Gd g h) (hv : 0 ≤ v ∧ v ≤ 255) : Gd g (kU h 190 i v) := Gd.st ((kP_of (by decide +kernel : kBk 190 = 5)).mpr (kPk5.mpr hv)) (fr_of2 (by omega)) hI
theorem rd_mseenone (hI : Gd g h) (i : Nat) : 0 ≤ h 193 i ∧ h 193 i ≤ 3 := kPk14.mp ((kP_of (by decide +kernel : kBk 193 = 14)).mp (hI.1 193 i))
theorem st_mseenone (hI : Gd g h) (hv : 0 ≤ v ∧ v ≤ 3) : Gd g (kU h 193 i v) := Gd.st ((kP_of (by decide +kernel : kBk 193 = 14)).mpr (kPk14.mpr hv)) (fr_of2 (by omega)) hI
theorem rd_mseenother (hI : Gd g h) (i : Nat) : 0 ≤ h 194 i ∧ h 194 i ≤ 3 := kPk14.mp ((kP_of (by decide +kernel : kBk 194 = 14)).mp (hI.1 194 i))
theorem st_mseenother (hI : Gd g h) (hv : 0 ≤ v ∧ v ≤ 3) : Gd g (kU h 194 i v) := Gd.st ((kP_of (by decide +kernel : kBk 194 = 14)).mpr (kPk14.mpr hv)) (fr_of2 (by omega)) hI
theorem rd_readMany (hI : Gd g h) : 0 ≤ h 184 1 ∧ h 184 1 ≤ 8 := (kPk10.mp ((kP_of (by decide +kernel : kBk 184 = 10)).mp (hI.1 184 1))).1 (by omega)
theorem st_readMany (hI : Gd g h) (hv : 0 ≤ v ∧ v ≤ 8) : Gd g (kU h 184 1 v) := Gd.st ((kP_of (by decide +kernel : kBk 184 = 10)).mpr (kPk10.mpr ⟨by omega, by omega, by omega, by omega, by omega⟩)) (by decide +kernel) hI
theorem rd_many (hI : Gd g h) : 0 ≤ h 184 4 ∧ h 184 4 ≤ 8 := (kPk10.mp ((kP_of (by decide +kernel : kBk 184 = 10)).mp (hI.1 184 4))).1 (by omega)
theorem st_many (hI : Gd g h) (hv : 0 ≤ v ∧ v ≤ 8) (hM : g.2.2.2.2 → MOk h → MOk (kU h 184 4 v)) : Gd g (kU h 184 4 v) := Gd.stM ((kP_of (by decide +kernel : kBk 184 = 10)).mpr (kPk10.mpr ⟨by omega, by omega, by omega, by omega, by omega⟩)) (by decide +kernel) hM hI
theorem rd_mseen (hI : Gd g h) : 0 ≤ h 184 16 ∧ h 184 16 ≤ 8 := (kPk10.mp ((kP_of (by decide +kernel : kBk 184 = 10)).mp (hI.1 184 16))).1 (by omega)
theorem st_mseen (hI : Gd g h) (hv : 0 ≤ v ∧ v ≤ 8) : Gd g (kU h 184 16 v) := Gd.st ((kP_of (by decide +kernel : kBk 184 = 10)).mpr (kPk10.mpr ⟨by omega, by omega, by omega, by omega, by omega⟩)) (by decide +kernel) hI
theorem rd_mlength (hI : Gd g h) : 0 ≤ h 184 8 ∧ h 184 8 ≤ 74 := (kPk10.mp ((kP_of (by decide +kernel : kBk 184 = 10)).mp (hI.1 184 8))).2.1 (by omega)
theorem rd_at (hI : Gd g h) : 0 ≤ h 184 9 ∧ h 184 9 ≤ 74 := (kPk10.mp ((kP_of (by decide +kernel : kBk 184 = 10)).mp (hI.1 184 9))).2.1 (by omega)
theorem st_at (hI : Gd g h) (hv : 0 ≤ v ∧ v ≤ 74) : Gd g (kU h 184 9 v) := Gd.st ((kP_of (by decide +kernel : kBk 184 = 10)).mpr (kPk10.mpr ⟨by omega, by omega, by omega, by omega, by omega⟩)) (by decide +kernel) hI
theorem rd_mnext (hI : Gd g h) : 0 ≤ h 184 12 ∧ h 184 12 ≤ 15 := (kPk10.mp ((kP_of (by decide +kernel : kBk 184 = 10)).mp (hI.1 184 12))).2.2.1 rfl
theorem st_mnext (hI : Gd g h) (hv : 0 ≤ v ∧ v ≤ 15) : Gd g (kU h 184 12 v) := Gd.st ((kP_of (by decide +kernel : kBk 184 = 10)).mpr (kPk10.mpr ⟨by omega, by omega, by omega, by omega, by omega⟩)) (by decide +kernel) hI
theorem rd_faultAt (hI : Gd g h) : -9 ≤ h 184 10 ∧ h 184 10 ≤ 74 := (kPk10.mp ((kP_of (by decide +kernel : kBk 184 = 10)).mp (hI.1 184 10))).2.2.2.1 rfl
theorem st_faultAt (hI : Gd g h) (hv : -9 ≤ v ∧ v ≤ 74) : Gd g (kU h 184 10 v) := Gd.st ((kP_of (by decide +kernel : kBk 184 = 10)).mpr (kPk10.mpr ⟨by omega, by omega, by omega, by omega, by omega⟩)) (by decide +kernel) hI
theorem rd_macts (hI : Gd g h) : 0 ≤ h 184 11 ∧ h 184 11 ≤ 16 := (kPk10.mp ((kP_of (by decide +kernel : kBk 184 = 10)).mp (hI.1 184 11))).2.2.2.2 rfl
theorem st_macts (hI : Gd g h) (hv : 0 ≤ v ∧ v ≤ 16) : Gd g (kU h 184 11 v) := Gd.st ((kP_of (by decide +kernel : kBk 184 = 10)).mpr (kPk10.mpr ⟨by omega, by omega, by omega, by omega, by omega⟩)) (by decide +kernel) hI
theorem st_tonightMost (hI : Gd g h) : Gd g (kU h 184 15 v) := Gd.st ((kP_of (by decide +kernel : kBk 184 = 10)).mpr (kPk10.mpr ⟨by omega, by omega, by omega, by omega, by omega⟩)) (by decide +kernel) hI
theorem rd_readKites (hI : Gd g h) (i : Nat) : bK i (h 185 i) := kPk11.mp ((kP_of (by decide +kernel : kBk 185 = 11)).mp (hI.1 185 i))
theorem st_readKites (hI : Gd g h) (hv : bK i v) : Gd g (kU h 185 i v) := Gd.st ((kP_of (by decide +kernel : kBk 185 = 11)).mpr (kPk11.mpr hv)) (fr_of2 (by omega)) hI
theorem rd_mkites (hI : Gd g h) (i : Nat) : bK i (h 187 i) := kPk11.mp ((kP_of (by decide +kernel : kBk 187 = 11)).mp (hI.1 187 i))
theorem st_mkites (hI : Gd g h) (hv : bK i v) (hM : g.2.2.2.2 → MOk h → MOk (kU h 187 i v)) : Gd g (kU h 187 i v) := Gd.stM ((kP_of (by decide +kernel : kBk 187 = 11)).mpr (kPk11.mpr hv)) rfl hM hI
theorem rd_row (hI : Gd g h) (i : Nat) : bR i (h 191 i) := kPk12.mp ((kP_of (by decide +kernel : kBk 191 = 12)).mp (hI.1 191 i))
theorem st_row (hI : Gd g h) (hv : bR i v) (hM : g.2.2.2.2 → MOk h → MOk (kU h 191 i v)) : Gd g (kU h 191 i v) := Gd.stM ((kP_of (by decide +kernel : kBk 191 = 12)).mpr (kPk12.mpr hv)) rfl hM hI
theorem rd_kept (hI : Gd g h) (i : Nat) : bP i (h 200 i) := kPk13.mp ((kP_of (by decide +kernel : kBk 200 = 13)).mp (hI.1 200 i))
theorem st_kept (hI : Gd g h) (hv : bP i v) (hM : g.2.2.2.2 → MOk h → MOk (kU h 200 i v)) : Gd g (kU h 200 i v) := Gd.stM ((kP_of (by decide +kernel : kBk 200 = 13)).mpr (kPk13.mpr hv)) rfl hM hI
theorem rd_mwinds (hI : Gd g h) (i : Nat) : -3 ≤ h 188 i ∧ h 188 i ≤ 3 := kPk17.mp ((kP_of (by decide +kernel : kBk 188 = 17)).mp (hI.1 188 i))
theorem st_mwinds (hI : Gd g h) (hv : -3 ≤ v ∧ v ≤ 3) : Gd g (kU h 188 i v) := Gd.st ((kP_of (by decide +kernel : kBk 188 = 17)).mpr (kPk17.mpr hv)) (fr_of2 (by omega)) hI
theorem rd_readWind (hI : Gd g h) (i : Nat) : -3 ≤ h 186 i ∧ h 186 i ≤ 3 := kPk17.mp ((kP_of (by decide +kernel : kBk 186 = 17)).mp (hI.1 186 i))
theorem st_readWind (hI : Gd g h) (hv : -3 ≤ v ∧ v ≤ 3) : Gd g (kU h 186 i v) := Gd.st ((kP_of (by decide +kernel : kBk 186 = 17)).mpr (kPk17.mpr hv)) (fr_of2 (by omega)) hI
theorem rd_spareWind (hI : Gd g h) (i : Nat) : -3 ≤ h 198 i ∧ h 198 i ≤ 3 := kPk17.mp ((kP_of (by decide +kernel : kBk 198 = 17)).mp (hI.1 198 i))
theorem st_spareWind (hI : Gd g h) (hv : -3 ≤ v ∧ v ≤ 3) : Gd g (kU h 198 i v) := Gd.st ((kP_of (by decide +kernel : kBk 198 = 17)).mpr (kPk17.mpr hv)) (fr_of2 (by omega)) hI
theorem rd_plh (hI : Gd g h) (i : Nat) : 0 ≤ h 161 i ∧ h 161 i ≤ 9 := kPk2.mp ((kP_of (by decide +kernel : kBk 161 = 2)).mp (hI.1 161 i))
theorem st_plh (hI : Gd g h) (hv : 0 ≤ v ∧ v ≤ 9) : Gd g (kU h 161 i v) := Gd.st ((kP_of (by decide +kernel : kBk 161 = 2)).mpr (kPk2.mpr hv)) (fr_of2 (by omega)) hI
theorem rd_plp (hI : Gd g h) (i : Nat) : 0 ≤ h 162 i ∧ h 162 i ≤ 40 := kPk15.mp ((kP_of (by decide +kernel : kBk 162 = 15)).mp (hI.1 162 i))
theorem st_plp (hI : Gd g h) (hv : 0 ≤ v ∧ v ≤ 40) : Gd g (kU h 162 i v) := Gd.st ((kP_of (by decide +kernel : kBk 162 = 15)).mpr (kPk15.mpr hv)) (fr_of2 (by omega)) hI
theorem rd_crossing (hI : Gd g h) (i : Nat) : 0 ≤ h 172 i ∧ h 172 i ≤ 1 := kPk1.mp ((kP_of (by decide +kernel : kBk 172 = 1)).mp (hI.1 172 i))
theorem st_crossing (hI : Gd g h) (hv : 0 ≤ v ∧ v ≤ 1) : Gd g (kU h 172 i v) := Gd.st ((kP_of (by decide +kernel : kBk 172 = 1)).mpr (kPk1.mpr hv)) (fr_of2 (by omega)) hI
theorem rd_seenCross (hI : Gd g h) (i : Nat) : 0 ≤ h 195 i ∧ h 195 i ≤ 1 := kPk1.mp ((kP_of (by decide +kernel : kBk 195 = 1)).mp (hI.1 195 i))
theorem st_seenCross (hI : Gd g h) (hv : 0 ≤ v ∧ v ≤ 1) : Gd g (kU h 195 i v) := Gd.st ((kP_of (by decide +kernel : kBk 195 = 1)).mpr (kPk1.mpr hv)) (fr_of2 (by omega)) hI
theorem rd_isKept (hI : Gd g h) (i : Nat) : 0 ≤ h 199 i ∧ h 199 i ≤ 1 := kPk1.mp ((kP_of (by decide +kernel : kBk 199 = 1)).mp (hI.1 199 i))
theorem st_isKept (hI : Gd g h) (hv : 0 ≤ v ∧ v ≤ 1) : Gd g (kU h 199 i v) := Gd.st ((kP_of (by decide +kernel : kBk 199 = 1)).mpr (kPk1.mpr hv)) (fr_of2 (by omega)) hI
end RdSt
theorem kR_of8 {z : Int} (h : 0 ≤ z ∧ z ≤ 255) : kR z := by omega
