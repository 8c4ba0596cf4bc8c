section
/-! what ties the class's cells to the reference's -/
theorem Fx.two {S S' : Nat → Nat → Prop} {h h1 h2 : kH} (a : Fx S h h1) (b : Fx S' h1 h2) : Fx (fun c i => S c i ∨ S' c i) h h2 := fun c i q => (b c i (fun e => q (Or.inr e))).trans (a c i (fun e => q (Or.inl e)))
theorem Fx.less {S S' : Nat → Nat → Prop} {h h' : kH} (f : Fx S h h') (e : ∀ c i, S c i → ¬ S' c i → h' c i = h c i) : Fx S' h h' := fun c i q => Classical.byCases (fun s : S c i => e c i s q) (fun s => f c i s)
theorem FE.cg {h h' : kH} {f : Nat} {k k' : Nat → Int} {n n' w0 w1 w0' w1' : Int} (a : FE h f k n w0 w1) (hc : ∀ c i, f ≤ c → c ≤ f + 6 → h' c i = h c i) (hk : ∀ j : Nat, (j : Int) < 5 * n → k' j = k j) (en : n' = n) (e0 : w0' = w0) (e1 : w1' = w1) : FE h' f k' n' w0' w1' := by
  subst en; subst e0; subst e1
  obtain ⟨a1, a2, a3, a4⟩ := a
  exact ⟨by rw [hc f 6 (by omega) (by omega)]; exact a1, fun i c hi h5 => by rw [hc _ _ (by omega) (by omega), hk _ (by omega)]; exact a2 i c hi h5, by rw [hc _ _ (by omega) (by omega)]; exact a3, by rw [hc _ _ (by omega) (by omega)]; exact a4⟩
theorem FE.set {h h' : kH} {f : Nat} {k k' : Nat → Int} {n w0 w1 v : Int} {b x : Nat} (a : FE h f k n w0 w1) (hb : b < 5) (hc : ∀ c, f ≤ c → c ≤ f + 6 → c ≠ f + 1 + b → h' c = h c) (hv : ∀ j, h' (f + 1 + b) j = if j = x then v else h (f + 1 + b) j) (hk : ∀ j, k' j = if j = 5 * x + b then v else k j) : FE h' f k' n w0 w1 := by
  obtain ⟨a1, a2, a3, a4⟩ := a
  refine ⟨by rw [hc f (by omega) (by omega) (by omega)]; exact a1, fun i c hi h5 => ?_, by rw [hc _ (by omega) (by omega) (by omega)]; exact a3, by rw [hc _ (by omega) (by omega) (by omega)]; exact a4⟩
  by_cases e : c = b
  · subst e
    rw [hv i, hk]
    by_cases q : i = x
    · rw [if_pos q, if_pos (by omega)]
    · rw [if_neg q, if_neg (by omega)]; exact a2 i c hi h5
  · rw [hc (f + 1 + c) (by omega) (by omega) (by omega), hk, if_neg (by omega)]; exact a2 i c hi h5
def RF (h : kH) : Prop := FE h 6 (h 187) (h 184 4) (h 189 0) (h 189 1)
def RW9 (h : kH) : Prop := ∀ i, i < 10 → h 4 i = h 188 i
def RB (h : kH) : Prop := h 23 1 = h 184 12 ∧ ∀ r, r < 16 → FE h (25 + 7 * r) (fun j => h 191 (43 * r + j)) (h 191 (43 * r + 40)) (h 191 (43 * r + 41)) (h 191 (43 * r + 42))
def RA (h : kH) : Prop := h 23 2 = h 184 11 ∧ RB h
def RG (h : kH) : Prop := ∀ s, s < 2 → h (138 + 11 * s) 1 = h 199 s
def RS2 (h : kH) : Prop := ∀ s, s < 2 → FE h (142 + 11 * s) (fun j => h 200 (53 * s + j)) (h 200 (53 * s + 50)) (h 200 (53 * s + 51)) (h 200 (53 * s + 52)) ∧ ∀ i, i < 10 → h (140 + 11 * s) i = h 200 (53 * s + 40 + i)
def RN (h : kH) : Prop := h 169 6 = h 184 16 ∧ ∀ j : Nat, (j : Int) < h 169 6 → (h 170 j = min (h 193 j) (h 194 j) ∧ h 171 j = max (h 193 j) (h 194 j)) ∧ h 172 j = h 195 j ∧ h 193 j ≠ h 194 j
def Rs (h : kH) : Prop := RF h ∧ RW9 h ∧ RA h ∧ RG h ∧ RS2 h ∧ RN h
def Rl (h : kH) : Prop := h 2 = h 190 ∧ Rs h
theorem FE_zero {f : Nat} {k : Nat → Int} : FE (fun _ _ => 0) f k 0 0 0 := ⟨rfl, fun i a hi => absurd hi (by omega), rfl, rfl⟩
theorem Rl_zero : Rl (fun _ _ => 0) := ⟨rfl, FE_zero, fun _ _ => rfl, ⟨rfl, rfl, fun _ _ => FE_zero⟩, fun _ _ => rfl, fun _ _ => ⟨FE_zero, fun _ _ => rfl⟩, rfl, fun j hj => absurd hj (show ¬ ((j : Int) < 0) by omega)⟩
section Frames
variable {S : Nat → Nat → Prop} {g : kGh} {h h' : kH}
theorem RF.fx (a : RF h) (hI : Gd g h) (f : Fx S h h') (q : ∀ c i, (6 ≤ c ∧ c ≤ 12) ∨ (c = 187 ∧ i < 40) ∨ (c = 184 ∧ i = 4) ∨ c = 189 → ¬ S c i) : RF h' := by
  have n8 := rd_many hI
  exact FE.cg a (fun c i p r => f c i (q c i (by omega))) (fun j hj => f 187 j (q 187 j (by omega))) (f 184 4 (q _ _ (by omega))) (f 189 0 (q _ _ (by omega))) (f 189 1 (q _ _ (by omega)))
theorem RW9.fx (a : RW9 h) (f : Fx S h h') (q : ∀ c i, c = 4 ∨ c = 188 → ¬ S c i) : RW9 h' := fun i hi => by
  rw [f 4 i (q _ _ (by omega)), f 188 i (q _ _ (by omega))]; exact a i hi
theorem RB.fx (a : RB h) (hI : Gd g h) (f : Fx S h h') (q : ∀ c i, (c = 23 ∧ i = 1) ∨ (25 ≤ c ∧ c ≤ 136) ∨ c = 191 ∨ (c = 184 ∧ i = 12) → ¬ S c i) : RB h' := by
  refine ⟨by rw [f 23 1 (q _ _ (by omega)), f 184 12 (q _ _ (by omega))]; exact a.1, fun r hr => ?_⟩
  have e : ∀ j, h' 191 j = h 191 j := fun j => f 191 j (q _ _ (by omega))
  exact FE.cg (a.2 r hr) (fun c i p s => f c i (q c i (by omega))) (fun j _ => e _) (e _) (e _) (e _)
theorem RA.fx (a : RA h) (hI : Gd g h) (f : Fx S h h') (q : ∀ c i, (c = 23 ∧ (i = 1 ∨ i = 2)) ∨ (25 ≤ c ∧ c ≤ 136) ∨ c = 191 ∨ (c = 184 ∧ (i = 11 ∨ i = 12)) → ¬ S c i) : RA h' :=
  ⟨by rw [f 23 2 (q _ _ (by omega)), f 184 11 (q _ _ (by omega))]; exact a.1, a.2.fx hI f (fun c i p => q c i (by omega))⟩
theorem RG.fx (a : RG h) (f : Fx S h h') (q : ∀ c i, ((c = 138 ∨ c = 149) ∧ i = 1) ∨ c = 199 → ¬ S c i) : RG h' := fun s hs => by
  rw [f (138 + 11 * s) 1 (q _ _ (by omega)), f 199 s (q _ _ (by omega))]; exact a s hs
theorem RS2.fx (a : RS2 h) (f : Fx S h h') (q : ∀ c i, (139 ≤ c ∧ c ≤ 148) ∨ (150 ≤ c ∧ c ≤ 159) ∨ c = 200 → ¬ S c i) : RS2 h' := fun s hs => by
  have e : ∀ j, h' 200 j = h 200 j := fun j => f 200 j (q _ _ (by omega))
  refine ⟨FE.cg (a s hs).1 (fun c i p r => f c i (q c i (by omega))) (fun j _ => e _) (e _) (e _) (e _), fun i hi => ?_⟩
  rw [f (140 + 11 * s) i (q _ _ (by omega)), e]; exact (a s hs).2 i hi
theorem RN.fx (a : RN h) (f : Fx S h h') (q : ∀ c i, (c = 169 ∧ i = 6) ∨ (170 ≤ c ∧ c ≤ 172) ∨ (193 ≤ c ∧ c ≤ 195) ∨ (c = 184 ∧ i = 16) → ¬ S c i) : RN h' := by
  have e6 : h' 169 6 = h 169 6 := f 169 6 (q _ _ (by omega))
  refine ⟨by rw [e6, f 184 16 (q _ _ (by omega))]; exact a.1, fun j hj => ?_⟩
  rw [f 170 j (q _ _ (by omega)), f 171 j (q _ _ (by omega)), f 172 j (q _ _ (by omega)), f 193 j (q _ _ (by omega)), f 194 j (q _ _ (by omega)), f 195 j (q _ _ (by omega))]
  exact a.2 j (by omega)
theorem Rs.fx (a : Rs h) (hI : Gd g h) (f : Fx S h h') (q1 : ∀ c i, (6 ≤ c ∧ c ≤ 12) ∨ (c = 187 ∧ i < 40) ∨ (c = 184 ∧ i = 4) ∨ c = 189 → ¬ S c i) (q2 : ∀ c i, c = 4 ∨ c = 188 → ¬ S c i)
    (q3 : ∀ c i, (c = 23 ∧ (i = 1 ∨ i = 2)) ∨ (25 ≤ c ∧ c ≤ 136) ∨ c = 191 ∨ (c = 184 ∧ (i = 11 ∨ i = 12)) → ¬ S c i) (q4 : ∀ c i, ((c = 138 ∨ c = 149) ∧ i = 1) ∨ c = 199 → ¬ S c i) (q5 : ∀ c i, (139 ≤ c ∧ c ≤ 148) ∨ (150 ≤ c ∧ c ≤ 159) ∨ c = 200 → ¬ S c i)
    (q6 : ∀ c i, (c = 169 ∧ i = 6) ∨ (170 ≤ c ∧ c ≤ 172) ∨ (193 ≤ c ∧ c ≤ 195) ∨ (c = 184 ∧ i = 16) → ¬ S c i) : Rs h' :=
  ⟨a.1.fx hI f q1, a.2.1.fx f q2, a.2.2.1.fx hI f q3, a.2.2.2.1.fx f q4, a.2.2.2.2.1.fx f q5, a.2.2.2.2.2.fx f q6⟩
end Frames
theorem MR.base {h h1 h2 : kH} (a : MR h1 h2) (e : ∀ c, 184 ≤ c → h1 c = h c) : MR h h2 := by
  unfold MR at a
  rw [e 184 (by omega), e 187 (by omega), e 189 (by omega), e 191 (by omega)] at a
  exact a
theorem RA.act {g : kGh} {h h2 : kH} (ra : RA h) (rf : RF h) (hI : Gd g h) (ar : AR h h2) (mr : MR h h2) : RA h2 := by
  obtain ⟨a2, a1, a3⟩ := ra
  obtain ⟨⟨p1, p2⟩, p3, p4⟩ := ar
  obtain ⟨⟨q1, q2⟩, q3, ⟨q4, q5, q6⟩, q7⟩ := mr
  have hr := rd_mnext hI
  refine ⟨by rw [p2, q2, a2], by rw [p1, q1, a1], fun r hr2 => ?_⟩
  by_cases e : r = (h 184 12).toNat
  · subst e
    have f1 : FE h2 (25 + 7 * (h 23 1).toNat) (h 187) (h 184 4) (h 189 0) (h 189 1) := rf.of p3
    rw [a1] at f1
    rw [q4, q5, q6]
    exact f1.k (rd_many hI).2 (fun j hj => q3 j hj)
  · have e191 : ∀ j, j < 43 → h2 191 (43 * r + j) = h 191 (43 * r + j) := fun j hj => q7 _ (by omega)
    rw [e191 40 (by omega), e191 41 (by omega), e191 42 (by omega)]
    have n8 := (rd_row hI (43 * r + 40)).2 (by omega)
    exact (FE.of (a3 r hr2) (FC.same (fun c a b => p4 c (by omega) (by omega) (by omega)))).k n8.2 (fun j hj => e191 j (by omega))
/-! gusts of the class and of the reference -/
theorem cut_rel {hx : kH} {s : Nat} {km w : Nat → Int} {n z z' : Int} (ag : ∀ i a : Nat, (i : Int) < n → a < 5 → hx (s + 3 + 1 + a) i = km (5 * i + a)) (wd : ∀ i, 1 ≤ i → i < 10 → hx (s + 1) i = w i) (fk : FK km n) (kr : kR z) (kr' : kR z') (c : CtC hx s n z) (m : CtK km w n z') : z = z' := by
  have eq : ∀ i : Nat, (i : Int) < n → eg hx s i = egK km w i := fun i hi => by
    have h4 : hx (s + 3 + 5) i = km (5 * i + 4) := ag i 4 hi (by omega)
    have h3 : hx (s + 3 + 4) i = km (5 * i + 3) := ag i 3 hi (by omega)
    have hh := (fk i hi).2.2.1
    unfold eg egK
    rw [h4, h3, wd _ (by omega) (by omega)]
  have tq : ∀ i : Nat, (i : Int) < n → hx (s + 3 + 1) i = km (5 * i) := fun i hi => ag i 0 hi (by omega)
  have mq : ∀ p q : Nat, (p : Int) < n → (q : Int) < n → p ≠ q → (mt hx (s + 3) p q ↔ crK km p q) := fun p q hp hq hne => by
    have a1 : hx (s + 3 + 2) p = km (5 * p + 1) := ag p 1 hp (by omega)
    have a2 : hx (s + 3 + 3) p = km (5 * p + 2) := ag p 2 hp (by omega)
    have a3 : hx (s + 3 + 4) p = km (5 * p + 3) := ag p 3 hp (by omega)
    have b1 : hx (s + 3 + 2) q = km (5 * q + 1) := ag q 1 hq (by omega)
    have b2 : hx (s + 3 + 3) q = km (5 * q + 2) := ag q 2 hq (by omega)
    have b3 : hx (s + 3 + 4) q = km (5 * q + 3) := ag q 3 hq (by omega)
    unfold mt crK
    rw [a1, a2, a3, b1, b2, b3]
    exact cr_iff (fk p hp).2.2.1.1 (fk q hq).2.2.1.1 ((fk p hp).2.2.2 q hq (Ne.symm hne))
  have sy : ∀ p q : Nat, (p : Int) < n → (q : Int) < n → p ≠ q → crK km p q → crK km q p := fun p q hp hq hne a => (crM_sym ((fk p hp).2.2.2 q hq (Ne.symm hne))).1 a
  apply tb_ext kr kr'
  intro v h0 h1
  apply Bool.eq_iff_iff.mpr
  rw [c v h0 h1, m v h0 h1]
  constructor
  · rintro ⟨p, q, ⟨hpq, hq⟩, ⟨t1, t2, t3⟩, hj⟩
    have hp : (p : Int) < n := by omega
    rw [tq p hp, tq q hq] at t1
    have t3' := (mq p q hp hq (by omega)).1 t3
    by_cases e : eg hx s p < eg hx s q
    · rw [lo_lt e] at hj
      rw [eq p hp, eq q hq] at e
      exact ⟨q, p, ⟨hq, hp⟩, ⟨Ne.symm t1, e, sy p q hp hq (by omega) t3'⟩, hj⟩
    · rw [lo_ge e] at hj
      rw [eq p hp, eq q hq] at e t2
      exact ⟨p, q, ⟨hp, hq⟩, ⟨t1, by omega, t3'⟩, hj⟩
  · rintro ⟨p, q, ⟨hp, hq⟩, ⟨t1, t2, t3⟩, hj⟩
    have hne : p ≠ q := fun e => t1 (by rw [e])
    rw [← eq p hp, ← eq q hq] at t2
    rw [← tq p hp, ← tq q hq] at t1
    by_cases e : p < q
    · exact ⟨p, q, ⟨e, hq⟩, ⟨t1, by omega, (mq p q hp hq hne).2 t3⟩, by rw [lo_ge (by omega)]; exact hj⟩
    · exact ⟨q, p, ⟨by omega, hp⟩, ⟨Ne.symm t1, by omega, (mq q p hq hp (Ne.symm hne)).2 (sy p q hp hq hne t3)⟩, by rw [lo_lt t2]; exact hj⟩
theorem gust_rel {h h1 : kH} {s : Nat} {k k' w : Nat → Int} {n n' w0 w1 z z' : Int} {d : Nat → Int} (fe : FE h (s + 3) k n w0 w1) (fk : FK k n) (hn : 0 ≤ n) (wd : ∀ i, 1 ≤ i → i < 10 → h (s + 1) i = w i) (kr : kR z) (b : BLW h h1 s z) (gs : GSK w k n k' n' z' d) :
    z = z' ∧ FE h1 (s + 3) k' n' (w0 + d 0) (w1 + d 1) ∧ FK k' n' := by
  obtain ⟨f1, f2, f3, f4⟩ := fe
  obtain ⟨hx, ⟨x1, x2⟩, ct, b1, b2, b3⟩ := b
  obtain ⟨km, ⟨kr', bx, ck, fkm⟩, m1, m2, m3⟩ := gs
  rw [f1] at x2 ct b1 b2 b3
  have ag : ∀ i a : Nat, (i : Int) < n → a < 5 → hx (s + 3 + 1 + a) i = km (5 * i + a) := fun i a hi ha => by
    by_cases e : a = 2
    · subst e
      have g2 : h (s + 3 + 3) i = k (5 * i + 2) := f2 i 2 hi (by omega)
      have g3 : h (s + 3 + 4) i = k (5 * i + 3) := f2 i 3 hi (by omega)
      have hh := (fk i hi).2.2.1
      rw [show s + 3 + 1 + 2 = s + 3 + 3 by omega, x2 i hi, bx.lt hi]
      unfold blX
      rw [g2, g3, wd _ (by omega) (by omega)]
    · rw [x1 _ (by omega) (by omega), f2 i a hi ha, bx.ot (j := 5 * i + a) (by omega)]
  have ez : z = z' := cut_rel ag (fun i p q => by rw [x1 _ (by omega) (by omega)]; exact wd i p q) fkm kr kr' ct ck
  subst ez
  have tw : ∀ t : Int, cw z (h (s + 3 + 1)) t n.toNat = cw z (fun i => k (5 * i)) t n.toNat := fun t => cw_congr (fun i hi => f2 i 0 (by omega) (by omega))
  refine ⟨rfl, ⟨by rw [b1, m1], fun i a hi ha => ?_, ?_, ?_⟩, by rw [m1]; exact FK.thin fkm m2 hn⟩
  · obtain ⟨j, j1, j2, j3⟩ := kc_on (pB z) (show i < kc (pB z) n.toNat by omega)
    rw [← j3, b2 j a (by omega) j2 ha, m2 j a (by omega) j2 ha, ag j a (by omega) ha]
  · rw [b3 0 (by omega), f3, m3 0 (by omega)]
    congr 1
    exact tw 0
  · rw [b3 1 (by omega), f4, m3 1 (by omega)]
    congr 1
    exact tw 1
theorem kc_one {p : Nat → Bool} {x : Nat} : ∀ {k : Nat}, (∀ j, j < k → (p j = true ↔ j ≠ x)) → kc p k = if k ≤ x then k else k - 1 := by
  intro k
  induction k with
  | zero => intro _; simp [kc]
  | succ k ih =>
    intro hp
    rw [kc, ih (fun j hj => hp j (by omega))]
    have := hp k (by omega)
    by_cases e : k = x
    · subst e
      have q : p k = false := by cases q : p k; rfl; exact absurd rfl (this.1 q)
      rw [q]
      simp
    · rw [this.2 e]
      simp only [if_true]
      split <;> split <;> omega
theorem pB_one {x : Int} (hx : 0 ≤ x ∧ x ≤ 31) {j : Nat} (hj : j ≤ 31) : pB (kShl 1 x) j = true ↔ j ≠ x.toNat := by
  have := tbc_shl (t := x) (v := (j : Int)) hx (by omega) (by omega)
  unfold pB
  cases q : tb (kShl 1 x) (j : Int)
  · rw [q] at this
    simp at this
    simp
    omega
  · have e := this.1 q
    simp
    omega
theorem bt_rel {s : Nat} {w : Nat → Int} : ∀ {m : Nat} {h h' : kH} {k k' : Nat → Int} {n n' w0 w1 : Int} {d : Nat → Int}, FE h (s + 3) k n w0 w1 → FK k n → 0 ≤ n → (∀ i, 1 ≤ i → i < 10 → h (s + 1) i = w i) → BTW s m h h' → MTK w m k n k' n' d →
    FE h' (s + 3) k' n' (w0 + d 0) (w1 + d 1) ∧ FK k' n' ∧ 0 ≤ n' ∧ ∀ i, 1 ≤ i → i < 10 → h' (s + 1) i = w i := by
  intro m
  induction m with
  | zero =>
    intro h h' k k' n n' w0 w1 d fe fk hn wd a b
    have e : h' = h := a
    obtain ⟨b1, b2, b3⟩ := b
    rw [e, b1, b2, b3 0 (by omega), b3 1 (by omega), Int.add_zero, Int.add_zero]
    exact ⟨fe, fk, hn, wd⟩
  | succ m ih =>
    intro h h' k k' n n' w0 w1 d fe fk hn wd a b
    obtain ⟨h1, z, a1, a2, a3, a4⟩ := a
    obtain ⟨k1, n1, d1, z', d2, b1, b2, b3⟩ := b
    obtain ⟨i1, i2, i3, i4⟩ := ih fe fk hn wd a1 b1
    obtain ⟨-, j2, j3⟩ := gust_rel i1 i2 i3 i4 a2 a3 b2
    rw [b3 0 (by omega), b3 1 (by omega), ← Int.add_assoc, ← Int.add_assoc]
    refine ⟨j2, j3, ?_, fun i p q => by rw [a4]; exact i4 i p q⟩
    obtain ⟨km, -, c2, -⟩ := b2
    rw [c2]
    omega
theorem au_rel {s : Nat} {sd : Int} : ∀ {m : Nat} {h h' : kH} {k k' : Nat → Int} {n n' w0 w1 : Int} {d : Nat → Int}, FE h (s + 3) k n w0 w1 → FK k n → 0 ≤ n → AUC s sd m h h' → AUK sd m k n k' n' d →
    FE h' (s + 3) k' n' (w0 + d 0) (w1 + d 1) ∧ FK k' n' ∧ 0 ≤ n' := by
  intro m
  induction m with
  | zero =>
    intro h h' k k' n n' w0 w1 d fe fk hn a b
    have e : h' = h := a
    obtain ⟨b1, b2, b3⟩ := b
    rw [e, b1, b2, b3 0 (by omega), b3 1 (by omega), Int.add_zero, Int.add_zero]
    exact ⟨fe, fk, hn⟩
  | succ m ih =>
    intro h h' k k' n n' w0 w1 d fe fk hn a b
    obtain ⟨h1, h2, z, a1, ⟨a2, a3⟩, a4, a5⟩ := a
    obtain ⟨k1, n1, d1, z', d2, w, b1, b2, b3, b4⟩ := b
    obtain ⟨i1, i2, i3⟩ := ih fe fk hn a1 b1
    have i4 := FE.cg (h' := h2) i1 (fun c i p q => by rw [a2 c p (by omega)]) (fun _ _ => rfl) rfl rfl rfl
    obtain ⟨-, j2, j3⟩ := gust_rel i4 i2 i3 (fun i p q => (a3 i p q).trans (b2 i p q).symm) a4 a5 b3
    rw [b4 0 (by omega), b4 1 (by omega), ← Int.add_assoc, ← Int.add_assoc]
    refine ⟨j2, j3, ?_⟩
    obtain ⟨km, -, c2, -⟩ := b3
    rw [c2]
    omega
end
section
/-! the calls that change the state: both sides answer alike, and stay tied -/
theorem rl_wind {g : kGh} {h h1 h2 : kH} {x : Int} {w : Int} {z z' : Int} (rs : Rs h) (hI : Gd g h) (hk : MOk h) (hc : CWwind h h1 x w z) (fa : Fx (fun c i => c = 4) h h1) (hm : CMwind h1 h2 x w z') (fb : Fx (fun c i => c = 188) h1 h2) : z = z' ∧ Rs h2 := by
  have e1 : ∀ c, 184 ≤ c → h1 c = h c := fun c hc => fa.cell c (fun i => by first | (dsimp only; omega) | omega | exact not_false)
  have e2 : ∀ c, c < 184 → h2 c = h1 c := fun c hc => fb.cell c (fun i => by first | (dsimp only; omega) | omega | exact not_false)
  have fx := Fx.two fa fb
  obtain ⟨rf, rw9, ra, rg, rs2, rn⟩ := rs
  have n8 := rd_many hI
  have f1 : h 6 6 = h 184 4 := rf.1
  unfold CMwind at hm
  rw [e1 188 (by omega)] at hm
  have key : z = z' ∧ RW9 h2 := by
    rcases hc with ⟨c1, c2, c3⟩ | ⟨c1, c2, c3⟩ <;> rcases hm with ⟨m1, m2, m3⟩ | ⟨m1, m2, m3⟩
    · refine ⟨by rw [c2, m2, rw9 x.toNat (by omega)], fun i hi => ?_⟩
      rw [e2 4 (by omega), c3 i, m3 i]
      split
      · rfl
      · exact rw9 i hi
    · exact absurd c1 m1
    · exact absurd m1 c1
    · refine ⟨by rw [c2, m2], ?_⟩
      rw [m3, c3]; exact rw9
  exact ⟨key.1, rf.fx hI fx (fun c i q => by first | (dsimp only; omega) | omega), key.2, ra.fx hI fx (fun c i q => by first | (dsimp only; omega) | omega), rg.fx fx (fun c i q => by first | (dsimp only; omega) | omega), rs2.fx fx (fun c i q => by first | (dsimp only; omega) | omega), rn.fx fx (fun c i q => by first | (dsimp only; omega) | omega)⟩
theorem rl_rise {g : kGh} {h h1 h2 : kH} {x : Int} {n : Int} {z z' : Int} (rs : Rs h) (hI : Gd g h) (hk : MOk h) (hc : CWrise h h1 x n z) (fa : Fx (fun c i => (6 ≤ c ∧ c ≤ 12) ∨ c = 23 ∨ (25 ≤ c ∧ c ≤ 136)) h h1) (hm : CMrise h1 h2 x n z') (fb : Fx (fun c i => c = 187 ∨ c = 191 ∨ (c = 184 ∧ (i = 11 ∨ i = 12))) h1 h2) : z = z' ∧ Rs h2 := by
  have e1 : ∀ c, 184 ≤ c → h1 c = h c := fun c hc => fa.cell c (fun i => by first | (dsimp only; omega) | omega | exact not_false)
  have e2 : ∀ c, c < 184 → h2 c = h1 c := fun c hc => fb.cell c (fun i => by first | (dsimp only; omega) | omega | exact not_false)
  have fx := Fx.two fa fb
  obtain ⟨rf, rw9, ra, rg, rs2, rn⟩ := rs
  have n8 := rd_many hI
  have f1 : h 6 6 = h 184 4 := rf.1
  unfold CMrise at hm
  rw [e1 184 (by omega), e1 187 (by omega)] at hm
  have key : z = z' ∧ RF h2 ∧ (h2 = h ∨ (AR h h2 ∧ MR h h2)) := by
    have g3 : 0 ≤ x → x < h 6 6 → h 10 x.toNat = h 187 (5 * x.toNat + 3) := fun p q => rf.2.1 x.toNat 3 (by omega) (by omega)
    rcases hc with ⟨c1, c2, c3⟩ | ⟨c1, c2, c3, c4⟩ | ⟨c1, c2, c3, c4, c5, c6⟩ <;> rcases hm with ⟨d1, d2, d3⟩ | ⟨d1, d2, d3, d4⟩ | ⟨d1, d2, d3, d4, d5⟩
    · exact ⟨by rw [c2, d2], by rw [d3, c3]; exact rf, Or.inl (d3.trans c3)⟩
    · exact absurd d1 (by omega)
    · exact absurd d1 (by omega)
    · exact absurd c1 (by omega)
    · exact ⟨by rw [c3, d3], by rw [d4, c4]; exact rf, Or.inl (d4.trans c4)⟩
    · have g4 := g3 c1.1 c1.2; rw [g4] at c2; exact absurd d2 c2
    · exact absurd c1 (by omega)
    · have g4 := g3 c1.1 c1.2; rw [g4] at c2; exact absurd c2 d2
    · have g4 := g3 c1.1 c1.2
      have m4 : h2 184 4 = h 184 4 := by rw [fb 184 4 (by first | (dsimp only; omega) | omega), e1 184 (by omega)]
      have m9 : h2 189 = h 189 := by rw [fb.cell 189 (fun i => by first | (dsimp only; omega) | omega | exact not_false), e1 189 (by omega)]
      refine ⟨by rw [c3, d3, g4], ?_, Or.inr ⟨AR.of c4 (rd_actnext hI) (fun c a b => e2 c (by omega)), d4.base e1⟩⟩
      unfold RF
      rw [m4, m9]
      exact FE.set (b := 3) (x := x.toNat) (v := h 187 (5 * x.toNat + 3) + n) rf (by omega) (fun c a b q => (e2 c (by omega)).trans (c5 c a b (by omega))) (fun j => by rw [e2 _ (by omega)]; have q := c6 j; rw [g4] at q; exact q) d5
  obtain ⟨k1, k2, k3⟩ := key
  refine ⟨k1, k2, rw9.fx fx (fun c i q => by first | (dsimp only; omega) | omega), ?_, rg.fx fx (fun c i q => by first | (dsimp only; omega) | omega), rs2.fx fx (fun c i q => by first | (dsimp only; omega) | omega), rn.fx fx (fun c i q => by first | (dsimp only; omega) | omega)⟩
  rcases k3 with k3 | k3
  · rw [k3]; exact ra
  · exact ra.act rf hI k3.1 k3.2
theorem rl_run {g : kGh} {h h1 h2 : kH} {x : Int} {s : Int} {z z' : Int} (rs : Rs h) (hI : Gd g h) (hk : MOk h) (hc : CWrun h h1 x s z) (fa : Fx (fun c i => (6 ≤ c ∧ c ≤ 12) ∨ c = 23 ∨ (25 ≤ c ∧ c ≤ 136)) h h1) (hm : CMrun h1 h2 x s z') (fb : Fx (fun c i => c = 187 ∨ c = 191 ∨ (c = 184 ∧ (i = 11 ∨ i = 12))) h1 h2) : z = z' ∧ Rs h2 := by
  have e1 : ∀ c, 184 ≤ c → h1 c = h c := fun c hc => fa.cell c (fun i => by first | (dsimp only; omega) | omega | exact not_false)
  have e2 : ∀ c, c < 184 → h2 c = h1 c := fun c hc => fb.cell c (fun i => by first | (dsimp only; omega) | omega | exact not_false)
  have fx := Fx.two fa fb
  obtain ⟨rf, rw9, ra, rg, rs2, rn⟩ := rs
  have n8 := rd_many hI
  have f1 : h 6 6 = h 184 4 := rf.1
  have key : z = z' ∧ RF h2 ∧ (h2 = h ∨ (AR h h2 ∧ MR h h2)) := by
    have hs : ∀ s : Int, hsF h 6 s ↔ hsM h s := fun s => by
      constructor
      · rintro ⟨i, a, b⟩
        exact ⟨i, by omega, by rw [← b]; exact (rf.2.1 i 1 (by omega) (by omega)).symm⟩
      · rintro ⟨i, a, b⟩
        exact ⟨i, by omega, by rw [← b]; exact rf.2.1 i 1 a (by omega)⟩
    have hM : ∀ s : Int, hsM h1 s ↔ hsM h s := fun s => by unfold hsM; rw [e1 184 (by omega), e1 187 (by omega)]
    unfold CMrun at hm
    rw [hM s, ← hs s, e1 184 (by omega), e1 187 (by omega)] at hm
    rcases hc with ⟨c1, c2, c3⟩ | ⟨c1, c2, c3, c4⟩ | ⟨c1, c2, c3, c4, c5⟩ | ⟨c1, c2, c3, c4, c5, c6, c7⟩ <;> rcases hm with ⟨d1, d2, d3⟩ | ⟨d1, d2, d3, d4⟩ | ⟨d1, d2, d3, d4, d5⟩ | ⟨d1, d2, d3, d4, d5, d6⟩
    · exact ⟨by rw [c2, d2], by rw [d3, c3]; exact rf, Or.inl (d3.trans c3)⟩
    · exact absurd d1 (by omega)
    · exact absurd d1 (by omega)
    · exact absurd d1 (by omega)
    · exact absurd c1 (by omega)
    · exact ⟨by rw [c3, d3], by rw [d4, c4]; exact rf, Or.inl (d4.trans c4)⟩
    · exact absurd d2 c2
    · exact absurd d2 c2
    · exact absurd c1 (by omega)
    · exact absurd c2 d2
    · exact ⟨by rw [c4, d4], by rw [d5, c5]; exact rf, Or.inl (d5.trans c5)⟩
    · exact absurd c3 d3
    · exact absurd c1 (by omega)
    · exact absurd c2 d2
    · exact absurd d3 c3
    · have g4 : h 8 x.toNat = h 187 (5 * x.toNat + 1) := rf.2.1 x.toNat 1 (by omega) (by omega)
      have m4 : h2 184 4 = h 184 4 := by rw [fb 184 4 (by first | (dsimp only; omega) | omega), e1 184 (by omega)]
      have m9 : h2 189 = h 189 := by rw [fb.cell 189 (fun i => by first | (dsimp only; omega) | omega | exact not_false), e1 189 (by omega)]
      refine ⟨by rw [c4, d4, g4], ?_, Or.inr ⟨AR.of c5 (rd_actnext hI) (fun c a b => e2 c (by omega)), d5.base e1⟩⟩
      unfold RF
      rw [m4, m9]
      exact FE.set (b := 1) (x := x.toNat) (v := s) rf (by omega) (fun c a b q => (e2 c (by omega)).trans (c6 c a b (by omega))) (fun j => by rw [e2 _ (by omega)]; exact c7 j) d6
  obtain ⟨k1, k2, k3⟩ := key
  refine ⟨k1, k2, rw9.fx fx (fun c i q => by first | (dsimp only; omega) | omega), ?_, rg.fx fx (fun c i q => by first | (dsimp only; omega) | omega), rs2.fx fx (fun c i q => by first | (dsimp only; omega) | omega), rn.fx fx (fun c i q => by first | (dsimp only; omega) | omega)⟩
  rcases k3 with k3 | k3
  · rw [k3]; exact ra
  · exact ra.act rf hI k3.1 k3.2
theorem rl_launch {g : kGh} {h h1 h2 : kH} {t : Int} {s : Int} {e : Int} {gl : Int} {z z' : Int} (rs : Rs h) (hI : Gd g h) (hk : MOk h) (hc : CWlaunch h h1 t s e gl z) (fa : Fx (fun c i => (6 ≤ c ∧ c ≤ 12) ∨ c = 23 ∨ (25 ≤ c ∧ c ≤ 136)) h h1) (hm : CMlaunch h1 h2 t s e gl z') (fb : Fx (fun c i => c = 187 ∨ c = 191 ∨ (c = 184 ∧ (i = 4 ∨ i = 11 ∨ i = 12))) h1 h2) : z = z' ∧ Rs h2 := by
  have e1 : ∀ c, 184 ≤ c → h1 c = h c := fun c hc => fa.cell c (fun i => by first | (dsimp only; omega) | omega | exact not_false)
  have e2 : ∀ c, c < 184 → h2 c = h1 c := fun c hc => fb.cell c (fun i => by first | (dsimp only; omega) | omega | exact not_false)
  have fx := Fx.two fa fb
  obtain ⟨rf, rw9, ra, rg, rs2, rn⟩ := rs
  have n8 := rd_many hI
  have f1 : h 6 6 = h 184 4 := rf.1
  have key : z = z' ∧ RF h2 ∧ (h2 = h ∨ (AR h h2 ∧ MR h h2)) := by
    have hs : ∀ s : Int, hsF h 6 s ↔ hsM h s := fun s => by
      constructor
      · rintro ⟨i, a, b⟩
        exact ⟨i, by omega, by rw [← b]; exact (rf.2.1 i 1 (by omega) (by omega)).symm⟩
      · rintro ⟨i, a, b⟩
        exact ⟨i, by omega, by rw [← b]; exact rf.2.1 i 1 a (by omega)⟩
    have hM : ∀ s : Int, hsM h1 s ↔ hsM h s := fun s => by unfold hsM; rw [e1 184 (by omega), e1 187 (by omega)]
    unfold CMlaunch at hm
    rw [hM s, ← hs s, e1 184 (by omega), e1 187 (by omega)] at hm
    rcases hc with ⟨c1, c2, c3⟩ | ⟨c1, c2, c3, c4⟩ | ⟨c1, c2, c3, c4, c5⟩ | ⟨c1, c2, c3, c4, c5, c6⟩ <;> rcases hm with ⟨d1, d2, d3⟩ | ⟨d1, d2, d3, d4⟩ | ⟨d1, d2, d3, d4, d5⟩ | ⟨d1, d2, d3, d4, d5, d6, d7⟩
    · exact ⟨by rw [c2, d2], by rw [d3, c3]; exact rf, Or.inl (d3.trans c3)⟩
    · exact absurd d1 c1
    · exact absurd d1 c1
    · exact absurd d1 c1
    · exact absurd c1 d1
    · exact ⟨by rw [c3, d3], by rw [d4, c4]; exact rf, Or.inl (d4.trans c4)⟩
    · exact absurd c2 d2
    · exact absurd c2 d2
    · exact absurd c1 d1
    · exact absurd d2 c2
    · exact ⟨by rw [c4, d4], by rw [d5, c5]; exact rf, Or.inl (d5.trans c5)⟩
    · omega
    · exact absurd c1 d1
    · exact absurd d2 c2
    · omega
    · have m9 : h2 189 = h 189 := by rw [fb.cell 189 (fun i => by first | (dsimp only; omega) | omega | exact not_false), e1 189 (by omega)]
      refine ⟨by rw [c4, d4, f1], ?_, Or.inr ⟨AR.of c5 (rd_actnext hI) (fun c a b => e2 c (by omega)), d5.base e1⟩⟩
      obtain ⟨m, em⟩ : ∃ m : Nat, h 184 4 = m := Int.eq_ofNat_of_zero_le n8.1
      unfold RF at rf ⊢
      rw [em] at rf
      rw [d6, m9, em]
      obtain ⟨k0, k1, k2, k3, k4, k5⟩ := d7
      rw [show (h 184 4).toNat = m by omega] at k0 k1 k2 k3 k4 k5
      have c7 : FA h h2 6 t s s e gl := by
        unfold FA
        rw [e2 6 (by omega), e2 (6 + 1) (by omega), e2 (6 + 2) (by omega), e2 (6 + 3) (by omega), e2 (6 + 4) (by omega), e2 (6 + 5) (by omega), e2 (6 + 6) (by omega)]
        exact ⟨c6.1, fun i a hi ha => by rw [e2 _ (by omega)]; exact c6.2.1 i a hi ha, c6.2.2⟩
      exact FA.fe c7 rf k0 k1 k2 k3 k4 k5
  obtain ⟨k1, k2, k3⟩ := key
  refine ⟨k1, k2, rw9.fx fx (fun c i q => by first | (dsimp only; omega) | omega), ?_, rg.fx fx (fun c i q => by first | (dsimp only; omega) | omega), rs2.fx fx (fun c i q => by first | (dsimp only; omega) | omega), rn.fx fx (fun c i q => by first | (dsimp only; omega) | omega)⟩
  rcases k3 with k3 | k3
  · rw [k3]; exact ra
  · exact ra.act rf hI k3.1 k3.2
theorem rl_takeIn {g : kGh} {h h1 h2 : kH} {x : Int} {z z' : Int} (rs : Rs h) (hI : Gd g h) (hk : MOk h) (hc : CWtakeIn h h1 x z) (fa : Fx (fun c i => (6 ≤ c ∧ c ≤ 12) ∨ c = 23 ∨ (25 ≤ c ∧ c ≤ 136)) h h1) (hm : CMtakeIn h1 h2 x z') (fb : Fx (fun c i => c = 187 ∨ c = 191 ∨ (c = 184 ∧ (i = 4 ∨ i = 11 ∨ i = 12))) h1 h2) : z = z' ∧ Rs h2 := by
  have e1 : ∀ c, 184 ≤ c → h1 c = h c := fun c hc => fa.cell c (fun i => by first | (dsimp only; omega) | omega | exact not_false)
  have e2 : ∀ c, c < 184 → h2 c = h1 c := fun c hc => fb.cell c (fun i => by first | (dsimp only; omega) | omega | exact not_false)
  have fx := Fx.two fa fb
  obtain ⟨rf, rw9, ra, rg, rs2, rn⟩ := rs
  have n8 := rd_many hI
  have f1 : h 6 6 = h 184 4 := rf.1
  have key : z = z' ∧ RF h2 ∧ (h2 = h ∨ (AR h h2 ∧ MR h h2)) := by
    unfold CMtakeIn at hm
    rw [e1 184 (by omega), e1 187 (by omega)] at hm
    rcases hc with ⟨c1, c2, c3⟩ | ⟨c1, c2, c3, c4⟩ <;> rcases hm with ⟨d1, d2, d3⟩ | ⟨d1, d2, d3, d4, d5, d6⟩
    · exact ⟨by rw [c2, d2], by rw [d3, c3]; exact rf, Or.inl (d3.trans c3)⟩
    · exact absurd d1 (by omega)
    · exact absurd c1 (by omega)
    · have m9 : h2 189 = h 189 := by rw [fb.cell 189 (fun i => by first | (dsimp only; omega) | omega | exact not_false), e1 189 (by omega)]
      have kk : ∀ k : Nat, (k : Int) ≤ h 184 4 → kc (pB (kShl 1 x)) k = if k ≤ x.toNat then k else k - 1 := fun k hk => kc_one (fun j hj => pB_one (by omega) (by omega))
      have kn : ((kc (pB (kShl 1 x)) (h 184 4).toNat : Nat) : Int) = h 184 4 - 1 := by rw [kk _ (by omega), if_neg (by omega)]; omega
      have z1 : h1 6 6 = h 184 4 - 1 := by rw [c4.1, f1, kn]
      have c5 : FD h h2 6 (pB (kShl 1 x)) := by
        unfold FD
        rw [e2 6 (by omega), e2 (6 + 6) (by omega)]
        exact ⟨c4.1, fun k a hk hp ha => by rw [e2 _ (by omega)]; exact c4.2.1 k a hk hp ha, c4.2.2⟩
      have w0 : h 189 0 = h2 (6 + 6) 0 := by rw [c5.2.2 0]; exact rf.2.2.1.symm
      have w1 : h 189 1 = h2 (6 + 6) 1 := by rw [c5.2.2 1]; exact rf.2.2.2.symm
      refine ⟨by rw [c2, d2, d3, z1], ?_, Or.inr ⟨AR.of c3 (rd_actnext hI) (fun c a b => e2 c (by omega)), d4.base e1⟩⟩
      have fe := FD.fe (k' := h2 187) c5 rf n8.1 (fun j c hj hp hc5 => by
        have jx := (pB_one (x := x) (by omega) (show j ≤ 31 by omega)).1 hp
        rw [kk j (by omega)]
        by_cases q : j ≤ x.toNat
        · rw [if_pos q, d5 _ (by omega)]
        · rw [if_neg q, d6 _ (by omega) (by omega)]
          congr 1
          omega) w0 w1
      unfold RF
      rw [d3, m9, ← kn]
      exact fe
  obtain ⟨k1, k2, k3⟩ := key
  refine ⟨k1, k2, rw9.fx fx (fun c i q => by first | (dsimp only; omega) | omega), ?_, rg.fx fx (fun c i q => by first | (dsimp only; omega) | omega), rs2.fx fx (fun c i q => by first | (dsimp only; omega) | omega), rn.fx fx (fun c i q => by first | (dsimp only; omega) | omega)⟩
  rcases k3 with k3 | k3
  · rw [k3]; exact ra
  · exact ra.act rf hI k3.1 k3.2
theorem rl_gust {g : kGh} {h h1 h2 : kH} {z z' : Int} (rs : Rs h) (hI : Gd g h) (hk : MOk h) (hc : CWgust h h1 z) (fa : Fx (fun c i => (5 ≤ c ∧ c ≤ 12) ∨ c = 23 ∨ (25 ≤ c ∧ c ≤ 136)) h h1) (hm : CMgust h1 h2 z') (fb : Fx (fun c i => c = 187 ∨ c = 189 ∨ c = 191 ∨ c = 192 ∨ (c = 184 ∧ (i = 4 ∨ i = 11 ∨ i = 12))) h1 h2) : z = z' ∧ Rs h2 := by
  have e1 : ∀ c, 184 ≤ c → h1 c = h c := fun c hc => fa.cell c (fun i => by first | (dsimp only; omega) | omega | exact not_false)
  have e2 : ∀ c, c < 184 → h2 c = h1 c := fun c hc => fb.cell c (fun i => by first | (dsimp only; omega) | omega | exact not_false)
  have fx := Fx.two fa fb
  obtain ⟨rf, rw9, ra, rg, rs2, rn⟩ := rs
  have n8 := rd_many hI
  have f1 : h 6 6 = h 184 4 := rf.1
  have key : z = z' ∧ RF h2 ∧ (h2 = h ∨ (AR h h2 ∧ MR h h2)) := by
    obtain ⟨d1, d, d2, d3, d4⟩ := hm
    rw [e1 188 (by omega), e1 187 (by omega), e1 184 (by omega)] at d2
    rw [e1 189 (by omega)] at d3 d4
    obtain ⟨c1, c2, c3⟩ := hc
    obtain ⟨r1, r2, -⟩ := gust_rel (s := 3) rf hk.1 n8.1 (fun i _ q => rw9 i q) c1 c3 d2
    refine ⟨r1, ?_, Or.inr ⟨AR.of c2 (rd_actnext hI) (fun c a b => e2 c (by omega)), d1.base e1⟩⟩
    unfold RF
    rw [d3, d4]
    exact FE.cg r2 (fun c i a b => by rw [e2 c (by omega)]) (fun _ _ => rfl) rfl rfl rfl
  obtain ⟨k1, k2, k3⟩ := key
  refine ⟨k1, k2, rw9.fx fx (fun c i q => by first | (dsimp only; omega) | omega), ?_, rg.fx fx (fun c i q => by first | (dsimp only; omega) | omega), rs2.fx fx (fun c i q => by first | (dsimp only; omega) | omega), rn.fx fx (fun c i q => by first | (dsimp only; omega) | omega)⟩
  rcases k3 with k3 | k3
  · rw [k3]; exact ra
  · exact ra.act rf hI k3.1 k3.2
theorem rl_undo {g : kGh} {h h1 h2 : kH} {z z' : Int} (rs : Rs h) (hI : Gd g h) (hk : MOk h) (hc : CWundo h h1 z) (fa : Fx (fun c i => (6 ≤ c ∧ c ≤ 12) ∨ c = 23) h h1) (hm : CMundo h1 h2 z') (fb : Fx (fun c i => c = 187 ∨ c = 189 ∨ (c = 184 ∧ (i = 4 ∨ i = 11 ∨ i = 12))) h1 h2) : z = z' ∧ Rs h2 := by
  have e1 : ∀ c, 184 ≤ c → h1 c = h c := fun c hc => fa.cell c (fun i => by first | (dsimp only; omega) | omega | exact not_false)
  have e2 : ∀ c, c < 184 → h2 c = h1 c := fun c hc => fb.cell c (fun i => by first | (dsimp only; omega) | omega | exact not_false)
  have fx := Fx.two fa fb
  obtain ⟨rf, rw9, ra, rg, rs2, rn⟩ := rs
  have n8 := rd_many hI
  have f1 : h 6 6 = h 184 4 := rf.1
  unfold CMundo at hm
  rw [e1 184 (by omega), e1 191 (by omega)] at hm
  have a1 := ra.1
  have key : z = z' ∧ RF h2 ∧ (h2 23 2 = h2 184 11 ∧ h2 23 1 = h2 184 12) := by
    rcases hc with ⟨c1, c2, c3⟩ | ⟨c1, c2, c3, c4, c5⟩ <;> rcases hm with ⟨d1, d2, d3⟩ | ⟨d1, d2, d3, d4, d5, d6, d7, d8⟩
    · exact ⟨by rw [c2, d2], by rw [d3, c3]; exact rf, by rw [d3, c3]; exact ⟨a1, ra.2.1⟩⟩
    · omega
    · omega
    · have an := rd_mnext hI
      have fe := FE.of (ra.2.2 ((h 184 12 + 15) % 16).toNat (by omega)) (by have q := c5; rw [ra.2.1] at q; exact q)
      refine ⟨by rw [c2, d2, a1], ?_, by rw [e2 23 (by omega), c4, d4, a1], by rw [e2 23 (by omega), c3, d3, ra.2.1]⟩
      unfold RF
      rw [d6, d7, d8]
      have n9 := (rd_row hI (43 * ((h 184 12 + 15) % 16).toNat + 40)).2 (by omega)
      exact FE.cg fe (fun c i a b => by rw [e2 c (by omega)]) (fun j hj => d5 j (by omega)) rfl rfl rfl
  refine ⟨key.1, key.2.1, rw9.fx fx (fun c i q => by first | (dsimp only; omega) | omega), ⟨key.2.2.1, key.2.2.2, fun r hr => ?_⟩, rg.fx fx (fun c i q => by first | (dsimp only; omega) | omega), rs2.fx fx (fun c i q => by first | (dsimp only; omega) | omega), rn.fx fx (fun c i q => by first | (dsimp only; omega) | omega)⟩
  have e : ∀ j, h2 191 j = h 191 j := fun j => by rw [fb.cell 191 (fun i => by first | (dsimp only; omega) | omega | exact not_false), e1 191 (by omega)]
  exact FE.cg (ra.2.2 r hr) (fun c i a b => by rw [e2 c (by omega), fa c i (by first | (dsimp only; omega) | omega)]) (fun j _ => e _) (e _) (e _) (e _)
theorem rl_keep {g : kGh} {h h1 h2 : kH} {x : Int} {z z' : Int} (rs : Rs h) (hI : Gd g h) (hk : MOk h) (hc : CWkeep h h1 x z) (fa : Fx (fun c i => 138 ≤ c ∧ c ≤ 159) h h1) (hm : CMkeep h1 h2 x z') (fb : Fx (fun c i => c = 199 ∨ c = 200) h1 h2) : z = z' ∧ Rs h2 := by
  have e1 : ∀ c, 184 ≤ c → h1 c = h c := fun c hc => fa.cell c (fun i => by first | (dsimp only; omega) | omega | exact not_false)
  have e2 : ∀ c, c < 184 → h2 c = h1 c := fun c hc => fb.cell c (fun i => by first | (dsimp only; omega) | omega | exact not_false)
  have fx := Fx.two fa fb
  obtain ⟨rf, rw9, ra, rg, rs2, rn⟩ := rs
  have n8 := rd_many hI
  have f1 : h 6 6 = h 184 4 := rf.1
  unfold CMkeep at hm
  rw [e1 184 (by omega), e1 187 (by omega), e1 188 (by omega), e1 189 (by omega), e1 199 (by omega), e1 200 (by omega)] at hm
  have key : z = z' ∧ RG h2 ∧ RS2 h2 := by
    rcases hc with ⟨c1, c2, c3⟩ | ⟨c1, c2, c3, c4, c5, c6⟩ <;> rcases hm with ⟨d1, d2, d3⟩ | ⟨d1, d2, d3, d4, d5, ⟨d6, d7, d8⟩, d9⟩
    · exact ⟨by rw [c2, d2], by rw [d3, c3]; exact rg, by rw [d3, c3]; exact rs2⟩
    · exact absurd d1 c1
    · exact absurd c1 d1
    · refine ⟨by rw [c2, d2, f1], fun s hs => ?_, fun s hs => ?_⟩
      · rw [e2 _ (by omega), d3 s]
        by_cases q : s = x.toNat
        · rw [if_pos q, q]; exact c3
        · rw [if_neg q, c6 _ (by omega)]; exact rg s hs
      · by_cases q : s = x.toNat
        · subst q
          refine ⟨?_, fun i hi => ?_⟩
          · rw [d6, d7, d8]
            exact FE.cg (FE.of rf c4) (fun c i a b => by rw [e2 c (by omega)]) (fun j hj => d4 j (by omega)) rfl rfl rfl
          · rw [e2 _ (by omega), c5 i hi, d5 i hi]; exact rw9 i hi
        · have e : ∀ j, j < 53 → h2 200 (53 * s + j) = h 200 (53 * s + j) := fun j hj => d9 _ (by omega)
          have n9 := (rd_kept hI (53 * s + 50)).2.1 (by omega)
          refine ⟨?_, fun i hi => ?_⟩
          · rw [e 50 (by omega), e 51 (by omega), e 52 (by omega)]
            exact FE.cg (rs2 s hs).1 (fun c i a b => by rw [e2 c (by omega), c6 c (by omega)]) (fun j hj => e j (by omega)) rfl rfl rfl
          · rw [e2 _ (by omega), c6 _ (by omega), (rs2 s hs).2 i hi, show 53 * s + 40 + i = 53 * s + (40 + i) by omega]
            exact (e (40 + i) (by omega)).symm
  exact ⟨key.1, rf.fx hI fx (fun c i q => by first | (dsimp only; omega) | omega), rw9.fx fx (fun c i q => by first | (dsimp only; omega) | omega), ra.fx hI fx (fun c i q => by first | (dsimp only; omega) | omega), key.2.1, key.2.2, rn.fx fx (fun c i q => by first | (dsimp only; omega) | omega)⟩
theorem rl_again {g : kGh} {h h1 h2 : kH} {x : Int} {z z' : Int} (rs : Rs h) (hI : Gd g h) (hk : MOk h) (hc : CWagain h h1 x z) (fa : Fx (fun c i => c = 4 ∨ (6 ≤ c ∧ c ≤ 12) ∨ c = 23) h h1) (hm : CMagain h1 h2 x z') (fb : Fx (fun c i => c = 187 ∨ c = 188 ∨ c = 189 ∨ (c = 184 ∧ (i = 4 ∨ i = 11))) h1 h2) : z = z' ∧ Rs h2 := by
  have e1 : ∀ c, 184 ≤ c → h1 c = h c := fun c hc => fa.cell c (fun i => by first | (dsimp only; omega) | omega | exact not_false)
  have e2 : ∀ c, c < 184 → h2 c = h1 c := fun c hc => fb.cell c (fun i => by first | (dsimp only; omega) | omega | exact not_false)
  have fx := Fx.two fa fb
  obtain ⟨rf, rw9, ra, rg, rs2, rn⟩ := rs
  have n8 := rd_many hI
  have f1 : h 6 6 = h 184 4 := rf.1
  unfold CMagain at hm
  rw [e1 199 (by omega), e1 200 (by omega)] at hm
  have key : z = z' ∧ RF h2 ∧ RW9 h2 ∧ h2 23 2 = h2 184 11 := by
    rcases hc with ⟨c1, c2, c3⟩ | ⟨c1, c2, c3, c4⟩ | ⟨c1, c2, c3, c4, c5, c6, c7⟩ <;> rcases hm with ⟨d1, d2, d3⟩ | ⟨d1, d2, d3, d4⟩ | ⟨d1, d2, d3, d4, d5, ⟨d6, d7, d8⟩, d9⟩
    · exact ⟨by rw [c2, d2], by rw [d3, c3]; exact rf, by rw [d3, c3]; exact rw9, by rw [d3, c3]; exact ra.1⟩
    · exact absurd d1 c1
    · exact absurd d1 c1
    · exact absurd c1 d1
    · exact ⟨by rw [c3, d3], by rw [d4, c4]; exact rf, by rw [d4, c4]; exact rw9, by rw [d4, c4]; exact ra.1⟩
    · have q := rg x.toNat (by omega); omega
    · exact absurd c1 d1
    · have q := rg x.toNat (by omega); omega
    · have r2 := rs2 x.toNat (by omega)
      have n9 := (rd_kept hI (53 * x.toNat + 50)).2.1 (by omega)
      have fe := FE.of r2.1 c4
      refine ⟨by rw [c3, d3, d6]; exact fe.1, ?_, fun i hi => ?_, by rw [e2 23 (by omega), c6, d9]⟩
      · unfold RF
        rw [d6, d7, d8]
        exact FE.cg fe (fun c i a b => by rw [e2 c (by omega)]) (fun j hj => d4 j (by omega)) rfl rfl rfl
      · rw [e2 4 (by omega), c5 i, if_pos hi, d5 i hi]; exact r2.2 i hi
  refine ⟨key.1, key.2.1, key.2.2.1, ⟨key.2.2.2, ?_, fun r hr => ?_⟩, rg.fx fx (fun c i q => by first | (dsimp only; omega) | omega), rs2.fx fx (fun c i q => by first | (dsimp only; omega) | omega), rn.fx fx (fun c i q => by first | (dsimp only; omega) | omega)⟩
  · have q1 : h2 23 1 = h 23 1 := by
      rw [e2 23 (by omega)]
      rcases hc with ⟨-, -, c3⟩ | ⟨-, -, -, c4⟩ | ⟨-, -, -, -, -, -, c7⟩
      · rw [c3]
      · rw [c4]
      · exact c7
    rw [q1, fb 184 12 (by first | (dsimp only; omega) | omega), e1 184 (by omega)]
    exact ra.2.1
  · have e : ∀ j, h2 191 j = h 191 j := fun j => by rw [fb.cell 191 (fun i => by first | (dsimp only; omega) | omega | exact not_false), e1 191 (by omega)]
    exact FE.cg (ra.2.2 r hr) (fun c i a b => by rw [e2 c (by omega), fa c i (by first | (dsimp only; omega) | omega)]) (fun j _ => e _) (e _) (e _) (e _)
theorem rl_war {g : kGh} {h h1 h2 : kH} {z z' : Int} (tx : h 2 = h 190) (tl : h 1 1 = h 184 8) (rs : Rs h) (hI : Gd g h) (hk : MOk h) (hc : CWwar h h1 z) (fa : Fx (fun c i => c = 4 ∨ (6 ≤ c ∧ c ≤ 12) ∨ (c = 23 ∧ i = 2) ∨ ((c = 138 ∨ c = 149) ∧ i = 1)) h h1) (hm : CMwar h1 h2 z') (fb : Fx (fun c i => c = 185 ∨ c = 186 ∨ (c = 184 ∧ (i = 1 ∨ i = 9 ∨ i = 10)) ∨ (c = 184 ∧ (i = 4 ∨ i = 11)) ∨ c = 187 ∨ c = 188 ∨ c = 189 ∨ c = 199) h1 h2) : z = z' ∧ Rs h2 := by
  have e1 : ∀ c, 184 ≤ c → h1 c = h c := fun c hc => fa.cell c (fun i => by first | (dsimp only; omega) | omega | exact not_false)
  have e2 : ∀ c, c < 184 → h2 c = h1 c := fun c hc => fb.cell c (fun i => by first | (dsimp only; omega) | omega | exact not_false)
  have fx := Fx.two fa fb
  obtain ⟨rf, rw9, ra, rg, rs2, rn⟩ := rs
  have n8 := rd_many hI
  have f1 : h 6 6 = h 184 4 := rf.1
  obtain ⟨fl, w1, w2⟩ := hc
  obtain ⟨fl', m1, m2⟩ := hm
  rw [e1 190 (by omega), e1 184 (by omega), ← tx, ← tl] at m1
  have ef : fl = fl' := FaultIs.uniq w1 m1
  subst ef
  rw [e1 184 (by omega), e1 187 (by omega), e1 188 (by omega), e1 189 (by omega), e1 190 (by omega), e1 199 (by omega), ← tx, ← tl] at m2
  have key : z = z' ∧ RF h2 ∧ RW9 h2 ∧ h2 23 2 = h2 184 11 ∧ RG h2 := by
    rcases w2 with ⟨c1, c2, c3⟩ | ⟨c1, c2, c3, c4, c5, c6⟩ <;> rcases m2 with ⟨d1, d2, ⟨k1, k2, k3, k4⟩, d4, d5⟩ | ⟨d1, d2, d3, d4, ⟨d5, d5'⟩, ⟨d6, d7⟩, d8, d9, d10⟩
    · refine ⟨by rw [c2, d2], ?_, ?_, ?_, ?_⟩
      · unfold RF; rw [k1, d4, k3]
        exact FE.cg rf (fun c i a b => by rw [e2 c (by omega), c3]) (fun _ _ => rfl) rfl rfl rfl
      · intro i hi; rw [e2 4 (by omega), c3, k2]; exact rw9 i hi
      · rw [e2 23 (by omega), c3, d5]; exact ra.1
      · intro s hs; rw [e2 _ (by omega), c3, k4]; exact rg s hs
    · exact absurd d1 c1
    · exact absurd c1 d1
    · have hz : h1 6 6 = h2 184 4 := by have q := c4.1; omega
      refine ⟨by rw [c2, d2, hz], ?_, ?_, ?_, ?_⟩
      · obtain ⟨l1, l2, l3, l4⟩ := c4
        refine ⟨by rw [e2 6 (by omega)]; exact hz, fun i a hi ha => ?_, by rw [e2 _ (by omega), d6]; exact l3, by rw [e2 _ (by omega), d7]; exact l4⟩
        obtain ⟨p0, p1, p2, p3, p4⟩ := l2 i (by omega)
        obtain ⟨q0, q1, q2, q3, q4⟩ := d4 i hi
        rw [e2 _ (by omega)]
        rcases (show a = 0 ∨ a = 1 ∨ a = 2 ∨ a = 3 ∨ a = 4 by omega) with rfl | rfl | rfl | rfl | rfl
        · exact p0.trans q0.symm
        · exact p1.trans q1.symm
        · exact p2.trans q2.symm
        · exact p3.trans q3.symm
        · exact p4.trans q4.symm
      · intro i hi
        rw [e2 4 (by omega), c3 i]
        by_cases q : 1 ≤ i ∧ (i : Int) < 10
        · rw [if_pos q, d5 i q.1 hi]
        · rw [if_neg q, show i = 0 by omega, d5']; exact rw9 0 (by omega)
      · rw [e2 23 (by omega), c5, d8]
      · intro s hs
        rw [e2 _ (by omega), c6 s hs]
        rcases (show s = 0 ∨ s = 1 by omega) with rfl | rfl
        · exact d9.symm
        · exact d10.symm
  exact ⟨key.1, key.2.1, key.2.2.1, ⟨key.2.2.2.1, ra.2.fx hI fx (fun c i q => by first | (dsimp only; omega) | omega)⟩, key.2.2.2.2, rs2.fx fx (fun c i q => by first | (dsimp only; omega) | omega), rn.fx fx (fun c i q => by first | (dsimp only; omega) | omega)⟩
theorem rl_see {g : kGh} {h h1 h2 : kH} {x : Int} {y : Int} {b : Int} {z z' : Int} (rs : Rs h) (hI : Gd g h) (hk : MOk h) (hc : CWsee h h1 x y b z) (fa : Fx (fun c i => 169 ≤ c ∧ c ≤ 172) h h1) (hm : CMsee h1 h2 x y b z') (fb : Fx (fun c i => c = 193 ∨ c = 194 ∨ c = 195 ∨ (c = 184 ∧ i = 16)) h1 h2) : z = z' ∧ Rs h2 := by
  have e1 : ∀ c, 184 ≤ c → h1 c = h c := fun c hc => fa.cell c (fun i => by first | (dsimp only; omega) | omega | exact not_false)
  have e2 : ∀ c, c < 184 → h2 c = h1 c := fun c hc => fb.cell c (fun i => by first | (dsimp only; omega) | omega | exact not_false)
  have fx := Fx.two fa fb
  obtain ⟨rf, rw9, ra, rg, rs2, rn⟩ := rs
  have n8 := rd_many hI
  have f1 : h 6 6 = h 184 4 := rf.1
  unfold CMsee at hm
  rw [e1 184 (by omega), e1 193 (by omega), e1 194 (by omega), e1 195 (by omega)] at hm
  have r1 := rn.1
  have s8 := rd_seensize hI
  have key : z = z' ∧ RN h2 := by
    rcases hc with ⟨c1, c2, c3⟩ | ⟨c1, c2, c3, c4⟩ | ⟨c1, c2, c3, c4, c5⟩ | ⟨c1, c2, c3, c4, c5, c6, c7, c8⟩ <;> rcases hm with ⟨d1, d2, d3⟩ | ⟨d1, d2, d3, d4⟩ | ⟨d1, d2, d3, d4, d5⟩ | ⟨d1, d2, d3, d4, d5, d6, d7, d8⟩
    · exact ⟨by rw [c2, d2], by rw [d3, c3]; exact rn⟩
    · exact absurd d1 (by omega)
    · exact absurd d1 (by omega)
    · exact absurd d1 (by omega)
    · exact absurd c1 (by omega)
    · exact ⟨by rw [c3, d3], by rw [d4, c4]; exact rn⟩
    · exact absurd c2 d2
    · exact absurd c2 d2
    · exact absurd c1 (by omega)
    · exact absurd d2 c2
    · exact ⟨by rw [c4, d4], by rw [d5, c5]; exact rn⟩
    · omega
    · exact absurd c1 (by omega)
    · exact absurd d2 c2
    · omega
    · refine ⟨by rw [c4, d4, r1], by rw [e2 169 (by omega), c5, d5, r1], fun j hj => ?_⟩
      rw [e2 169 (by omega), c5] at hj
      rw [e2 170 (by omega), e2 171 (by omega), e2 172 (by omega), c6 j, c7 j, c8 j, d6 j, d7 j, d8 j, r1]
      by_cases q : j = (h 184 16).toNat
      · simp only [if_pos q]
        exact ⟨⟨trivial, trivial⟩, trivial, c2⟩
      · simp only [if_neg q]
        exact rn.2 j (by omega)
  exact ⟨key.1, rf.fx hI fx (fun c i q => by first | (dsimp only; omega) | omega), rw9.fx fx (fun c i q => by first | (dsimp only; omega) | omega), ra.fx hI fx (fun c i q => by first | (dsimp only; omega) | omega), rg.fx fx (fun c i q => by first | (dsimp only; omega) | omega), rs2.fx fx (fun c i q => by first | (dsimp only; omega) | omega), key.2⟩
theorem rl_unsee {g : kGh} {h h1 h2 : kH} {z z' : Int} (rs : Rs h) (hI : Gd g h) (hk : MOk h) (hc : z = h 169 6 ∧ h1 169 6 = 0 ∧ h1 170 = h 170 ∧ h1 171 = h 171 ∧ h1 172 = h 172) (fa : Fx (fun c i => 169 ≤ c ∧ c ≤ 172) h h1) (hm : z' = h1 184 16 ∧ h2 184 16 = 0) (fb : Fx (fun c i => c = 184 ∧ i = 16) h1 h2) : z = z' ∧ Rs h2 := by
  have e1 : ∀ c, 184 ≤ c → h1 c = h c := fun c hc => fa.cell c (fun i => by first | (dsimp only; omega) | omega | exact not_false)
  have e2 : ∀ c, c < 184 → h2 c = h1 c := fun c hc => fb.cell c (fun i => by first | (dsimp only; omega) | omega | exact not_false)
  have fx := Fx.two fa fb
  obtain ⟨rf, rw9, ra, rg, rs2, rn⟩ := rs
  have n8 := rd_many hI
  have f1 : h 6 6 = h 184 4 := rf.1
  rw [e1 184 (by omega)] at hm
  refine ⟨by rw [hc.1, hm.1, rn.1], rf.fx hI fx (fun c i q => by first | (dsimp only; omega) | omega), rw9.fx fx (fun c i q => by first | (dsimp only; omega) | omega), ra.fx hI fx (fun c i q => by first | (dsimp only; omega) | omega), rg.fx fx (fun c i q => by first | (dsimp only; omega) | omega), rs2.fx fx (fun c i q => by first | (dsimp only; omega) | omega), by rw [e2 169 (by omega), hc.2.1, hm.2], fun j hj => ?_⟩
  rw [e2 169 (by omega), hc.2.1] at hj
  omega
theorem rs_toLaunch {g : kGh} {h h1 h2 : kH} (rs : Rs h) (hI : Gd g h) (fa : Fx (fun c i => 13 ≤ c ∧ c ≤ 22) h h1) (hm : h2 184 4 = h1 184 4 ∧ ∀ j : Nat, (j : Int) < 5 * h1 184 4 → h2 187 j = h1 187 j) (fb : Fx (fun c i => c = 187 ∨ c = 192 ∨ (c = 184 ∧ i = 4)) h1 h2) : Rs h2 := by
  have e1 : ∀ c, 184 ≤ c → h1 c = h c := fun c hc => fa.cell c (fun i => by first | (dsimp only; omega) | omega | exact not_false)
  have e2 : ∀ c, c < 184 → h2 c = h1 c := fun c hc => fb.cell c (fun i => by first | (dsimp only; omega) | omega | exact not_false)
  have fx := Fx.two fa fb
  obtain ⟨rf, rw9, ra, rg, rs2, rn⟩ := rs
  have n8 := rd_many hI
  have f1 : h 6 6 = h 184 4 := rf.1
  rw [e1 184 (by omega), e1 187 (by omega)] at hm
  have m9 : h2 189 = h 189 := by rw [fb.cell 189 (fun i => by first | (dsimp only; omega) | omega | exact not_false), e1 189 (by omega)]
  refine ⟨?_, rw9.fx fx (fun c i q => by first | (dsimp only; omega) | omega), ra.fx hI fx (fun c i q => by first | (dsimp only; omega) | omega), rg.fx fx (fun c i q => by first | (dsimp only; omega) | omega), rs2.fx fx (fun c i q => by first | (dsimp only; omega) | omega), rn.fx fx (fun c i q => by first | (dsimp only; omega) | omega)⟩
  unfold RF
  rw [m9, hm.1]
  exact FE.cg rf (fun c i a b => by rw [e2 c (by omega), fa c i (by first | (dsimp only; omega) | omega)]) hm.2 rfl rfl rfl
theorem rs_autumn {g : kGh} {h h1 h2 : kH} (rs : Rs h) (hI : Gd g h) (fa : Fx (fun c i => c = 0 ∨ (13 ≤ c ∧ c ≤ 22)) h h1) (hm : ∀ i, i < 10 → h2 188 i = h1 188 i) (fb : Fx (fun c i => (c = 187 ∧ 40 ≤ i) ∨ c = 192 ∨ c = 188 ∨ c = 198 ∨ (c = 184 ∧ i = 22)) h1 h2) : Rs h2 := by
  have e1 : ∀ c, 184 ≤ c → h1 c = h c := fun c hc => fa.cell c (fun i => by first | (dsimp only; omega) | omega | exact not_false)
  have e2 : ∀ c, c < 184 → h2 c = h1 c := fun c hc => fb.cell c (fun i => by first | (dsimp only; omega) | omega | exact not_false)
  have fx := Fx.two fa fb
  obtain ⟨rf, rw9, ra, rg, rs2, rn⟩ := rs
  have n8 := rd_many hI
  have f1 : h 6 6 = h 184 4 := rf.1
  refine ⟨rf.fx hI fx (fun c i q => by first | (dsimp only; omega) | omega), fun i hi => ?_, ra.fx hI fx (fun c i q => by first | (dsimp only; omega) | omega), rg.fx fx (fun c i q => by first | (dsimp only; omega) | omega), rs2.fx fx (fun c i q => by first | (dsimp only; omega) | omega), rn.fx fx (fun c i q => by first | (dsimp only; omega) | omega)⟩
  rw [e2 4 (by omega), fa 4 i (by first | (dsimp only; omega) | omega), hm i hi, e1 188 (by omega)]
  exact rw9 i hi
theorem an_kite {h h1 : kH} {x y z z' : Int} (rs : Rs h) (hk : MOk h) (e1 : ∀ c, 184 ≤ c → h1 c = h c) (hc : z = ktF (h 6 6) (fun i a => h (7 + a) i) (eg h 3) x y) (hm : z' = ktF (h1 184 4) (fun i a => h1 187 (5 * i + a)) (fun i => egK (h1 187) (h1 188) i) x y) : z = z' := by
  rw [e1 184 (by omega), e1 187 (by omega), e1 188 (by omega)] at hm
  rw [hc, hm]
  obtain ⟨rf, rw9, -⟩ := rs
  have f1 : h 6 6 = h 184 4 := rf.1
  unfold ktF
  rw [f1]
  by_cases q : 0 ≤ x ∧ x < h 184 4
  · rw [if_pos q, if_pos q]
    by_cases q2 : 0 ≤ y ∧ y ≤ 4
    · rw [if_pos q2, if_pos q2]
      exact rf.2.1 x.toNat y.toNat (by omega) (by omega)
    · rw [if_neg q2, if_neg q2]
      have h4 : h (3 + 3 + 5) x.toNat = h 187 (5 * x.toNat + 4) := rf.2.1 x.toNat 4 (by omega) (by omega)
      have h3 : h (3 + 3 + 4) x.toNat = h 187 (5 * x.toNat + 3) := rf.2.1 x.toNat 3 (by omega) (by omega)
      have hh := (hk.1 x.toNat (by omega)).2.2.1
      have e : eg h 3 x.toNat = egK (h 187) (h 188) x.toNat := by
        unfold eg egK
        rw [h4, h3, rw9 _ (by omega)]
      rw [e]
  · rw [if_neg q, if_neg q]
theorem an_cross {h h1 : kH} {x y z z' : Int} (rs : Rs h) (hk : MOk h) (e1 : ∀ c, 184 ≤ c → h1 c = h c) (hc : CWcross h x y z) (hm : CMcross h1 x y z') : z = z' := by
  unfold CMcross at hm
  rw [e1 184 (by omega), e1 187 (by omega)] at hm
  obtain ⟨rf, -⟩ := rs
  have f1 : h 6 6 = h 184 4 := rf.1
  rcases hc with ⟨c1, c2⟩ | ⟨c1, c2, c3⟩ | ⟨c1, c2, c3⟩ <;> rcases hm with ⟨d1, d2⟩ | ⟨d1, d2, d3⟩ | ⟨d1, d2, d3⟩
  · rw [c2, d2]
  · exact absurd d1 (by omega)
  · exact absurd d1 (by omega)
  · exact absurd c1 (by omega)
  · rw [c3, d3]
  · exact absurd c2 d2
  · exact absurd c1 (by omega)
  · exact absurd d2 c2
  · have hx : ((x.toNat : Nat) : Int) < h 184 4 := by omega
    have hy : ((y.toNat : Nat) : Int) < h 184 4 := by omega
    have a1 : h (6 + 2) x.toNat = h 187 (5 * x.toNat + 1) := rf.2.1 x.toNat 1 hx (by omega)
    have a2 : h (6 + 3) x.toNat = h 187 (5 * x.toNat + 2) := rf.2.1 x.toNat 2 hx (by omega)
    have a3 : h (6 + 4) x.toNat = h 187 (5 * x.toNat + 3) := rf.2.1 x.toNat 3 hx (by omega)
    have b1 : h (6 + 2) y.toNat = h 187 (5 * y.toNat + 1) := rf.2.1 y.toNat 1 hy (by omega)
    have b2 : h (6 + 3) y.toNat = h 187 (5 * y.toNat + 2) := rf.2.1 y.toNat 2 hy (by omega)
    have b3 : h (6 + 4) y.toNat = h 187 (5 * y.toNat + 3) := rf.2.1 y.toNat 3 hy (by omega)
    have e : mt h 6 x.toNat y.toNat ↔ crK (h 187) x.toNat y.toNat := by
      unfold mt crK
      rw [a1, a2, a3, b1, b2, b3]
      exact cr_iff (hk.1 _ hx).2.2.1.1 (hk.1 _ hy).2.2.1.1 ((hk.1 _ hx).2.2.2 _ hy (by omega))
    rw [e] at c3
    rcases c3 with ⟨c3, c4⟩ | ⟨c3, c4⟩ <;> rcases d3 with ⟨d3, d4⟩ | ⟨d3, d4⟩
    · rw [c3, d3]
    · exact absurd c4 d4
    · exact absurd d4 c4
    · rw [c3, d3]
theorem an_after {g : kGh} {h h1 : kH} {x n z z' : Int} (rs : Rs h) (hI : Gd g h) (hk : MOk h) (e1 : ∀ c, 184 ≤ c → h1 c = h c) (hc : CWafter h x n z) (hm : CMafter h1 x n z') : z = z' := by
  unfold CMafter at hm
  rw [e1 184 (by omega), e1 187 (by omega), e1 188 (by omega)] at hm
  obtain ⟨rf, rw9, -⟩ := rs
  have n8 := rd_many hI
  rcases hc with ⟨c1, c2⟩ | ⟨c1, ht, hz, c2, c3, c4, c5⟩ <;> rcases hm with ⟨d1, d2⟩ | ⟨d1, k0, k', n', d, d2, d3, d4⟩
  · rw [c2, d2]
  · exact absurd d1 c1
  · exact absurd c1 d1
  · have fe : FE ht (13 + 3) k0 (h 184 4) (h 189 0) (h 189 1) := (FE.of rf c2).k n8.2 d2
    have fk : FK k0 (h 184 4) := FK.congr n8.2 d2 hk.1
    obtain ⟨r1, -⟩ := bt_rel (s := 13) fe fk n8.1 (fun i p q => (c3 i q).trans (rw9 i q)) c4 d3
    have w0 : hz 22 0 = h 189 0 + d 0 := r1.2.2.1
    have w1 : hz 22 1 = h 189 1 + d 1 := r1.2.2.2
    have v0 : h 12 0 = h 189 0 := rf.2.2.1
    have v1 : h 12 1 = h 189 1 := rf.2.2.2
    rw [c5, d4]
    rcases (show x.toNat = 0 ∨ x.toNat = 1 by omega) with q | q
    · rw [q]; omega
    · rw [q]; omega
theorem an_autumn {g : kGh} {h h1 : kH} {sd x n z z' : Int} (rs : Rs h) (hI : Gd g h) (hk : MOk h) (e1 : h1 184 4 = h 184 4 ∧ h1 187 = h 187) (hc : CWautumn h sd x n z) (hm : CMautumn h1 sd x n z') : z = z' := by
  unfold CMautumn at hm
  rw [e1.1, e1.2] at hm
  obtain ⟨rf, rw9, -⟩ := rs
  have n8 := rd_many hI
  rcases hc with ⟨c1, c2⟩ | ⟨c1, ht, hz, c2, c4, c5⟩ <;> rcases hm with ⟨d1, d2⟩ | ⟨d1, k0, k', n', d, d2, d3, d4⟩
  · rw [c2, d2]
  · exact absurd d1 c1
  · exact absurd c1 d1
  · have fe : FE ht (13 + 3) k0 (h 184 4) (h 189 0) (h 189 1) := (FE.of rf c2).k n8.2 d2
    have fk : FK k0 (h 184 4) := FK.congr n8.2 d2 hk.1
    obtain ⟨r1, -⟩ := au_rel (s := 13) fe fk n8.1 c4 d3
    have w0 : hz 22 0 = h 189 0 + d 0 := r1.2.2.1
    have w1 : hz 22 1 = h 189 1 + d 1 := r1.2.2.2
    have v0 : h 12 0 = h 189 0 := rf.2.2.1
    have v1 : h 12 1 = h 189 1 := rf.2.2.2
    rw [c5, d4]
    rcases (show x.toNat = 0 ∨ x.toNat = 1 by omega) with q | q
    · rw [q]; omega
    · rw [q]; omega
theorem an_toLaunch {g : kGh} {h h1 : kH} {t gl n z z' : Int} (rs : Rs h) (hI : Gd g h) (hk : MOk h) (e1 : ∀ c, 184 ≤ c → h1 c = h c) (hc : CWtoLaunch h t gl n z) (hm : CMtoLaunch h1 t gl n z') : z = z' := by
  have ep : PM h1 t gl n = PM h t gl n := by unfold PM; rw [e1 184 (by omega), e1 187 (by omega), e1 188 (by omega)]
  have em : ∀ s : Int, hsM h1 s ↔ hsM h s := fun s => by unfold hsM; rw [e1 184 (by omega), e1 187 (by omega)]
  unfold CMtoLaunch at hm
  rw [ep, e1 184 (by omega)] at hm
  obtain ⟨rf, rw9, -⟩ := rs
  have n8 := rd_many hI
  have f1 : h 6 6 = h 184 4 := rf.1
  rcases hc with ⟨c1, c2⟩ | ⟨c1, c2, c3⟩ | ⟨c1, c2, m, c3⟩ <;> rcases hm with ⟨d1, d2⟩ | ⟨d1, d2, d3⟩ | ⟨d1, d2, m', d3⟩
  · rw [c2, d2]
  · exact absurd d1 c1
  · exact absurd d1 c1
  · exact absurd c1 d1
  · rw [c3, d3]
  · omega
  · exact absurd c1 d1
  · omega
  · obtain ⟨q, eq⟩ : ∃ q : Nat, h 184 4 = q := Int.eq_ofNat_of_zero_le n8.1
    have hf : ∀ s : Nat, ¬ hsF h 6 s ↔ ¬ hsM h1 s := fun s => by
      rw [em]
      apply not_congr
      constructor
      · rintro ⟨i, a, b⟩
        exact ⟨i, by omega, by rw [← b]; exact (rf.2.1 i 1 (by omega) (by omega)).symm⟩
      · rintro ⟨i, a, b⟩
        exact ⟨i, by omega, by rw [← b]; exact rf.2.1 i 1 a (by omega)⟩
    have hP : ∀ (c : Nat) (v v' : Int), c < 369 → ¬ hsF h 6 ((c / 9 : Nat) : Int) → PC h t gl n c v → PM h t gl n c v' → v = v' ∧ -90 ≤ v := by
      intro c v v' hc9 hfr a b
      have bd := a.bd (by omega) (by omega) (by omega) (by omega)
      obtain ⟨ht, ha, hz, a1, a2, a3, a4, a5, a6⟩ := a
      obtain ⟨k0, k', n', d, ⟨b0, b1, b2, b3, b4, b5⟩, b6, b7⟩ := b
      rw [show (h 184 4).toNat = q by omega] at b0 b1 b2 b3 b4 b5
      have fe0 : FE ht 16 (h 187) q (h 189 0) (h 189 1) := by have r := FE.of rf a1; rw [eq] at r; exact r
      have fe := FA.fe a3 fe0 b0 b1 b2 b3 b4 b5
      have hh := (hf (c / 9)).1 hfr
      rw [em] at hh
      have fk : FK k0 ((q : Int) + 1) := FK.add (m := q) (k := h 187) (by rw [← eq]; exact hk.1) rfl b0 (by rw [b2]; omega) (by rw [b3]; omega) (by rw [b4]; omega) (fun i hi e => hh ⟨i, by omega, by rw [← b2]; exact e⟩)
      rw [eq] at b6
      obtain ⟨r1, -⟩ := bt_rel (s := 13) fe fk (by omega) (fun i p r => by rw [show ha (13 + 1) = ht 14 from a4, a2 i r]; exact rw9 i r) a5 b6
      have w0 : hz 22 0 = h 189 0 + d 0 := r1.2.2.1
      have w1 : hz 22 1 = h 189 1 + d 1 := r1.2.2.2
      have v0 : h 12 0 = h 189 0 := rf.2.2.1
      have v1 : h 12 1 = h 189 1 := rf.2.2.2
      refine ⟨?_, by omega⟩
      rw [a6, b7]
      rcases (show t = 0 ∨ t = 1 by omega) with x | x
      · rw [x]
        show (hz 22 0 - h 12 0) - (hz 22 1 - h 12 1) = d 0 - d 1
        omega
      · rw [x]
        show (hz 22 1 - h 12 1) - (hz 22 0 - h 12 0) = d 1 - d 0
        omega
    rcases TLR.rel (P := PC h t gl n) (P' := PM h t gl n) (fr := fun s => ¬ hsF h 6 s) (fr' := fun s => ¬ hsM h1 s) (m0 := -100) (p0 := 0) (m0' := -99) (p0' := -9) (N := 369) hP hf (by omega) (by omega) (Nat.le_refl _) c3 d3 with r | r
    · exact r.2.1
    · obtain ⟨s, s1, s2⟩ := free_ex (fun i => h 187 (5 * i + 1)) q
      have nf := r.2.2 (9 * s) (by omega)
      rw [show 9 * s / 9 = s by omega] at nf
      exact absurd (fun ⟨i, a, b⟩ => s2 i (by omega) (by rw [← b]; exact (rf.2.1 i 1 (by omega) (by omega)).symm)) nf
theorem mt_iff {h : kH} (rf : RF h) (hk : MOk h) {a b : Nat} (ha : (a : Int) < h 184 4) (hb : (b : Int) < h 184 4) (hne : a ≠ b) : mt h 6 a b ↔ crK (h 187) a b := by
  have a1 : h (6 + 2) a = h 187 (5 * a + 1) := rf.2.1 a 1 ha (by omega)
  have a2 : h (6 + 3) a = h 187 (5 * a + 2) := rf.2.1 a 2 ha (by omega)
  have a3 : h (6 + 4) a = h 187 (5 * a + 3) := rf.2.1 a 3 ha (by omega)
  have b1 : h (6 + 2) b = h 187 (5 * b + 1) := rf.2.1 b 1 hb (by omega)
  have b2 : h (6 + 3) b = h 187 (5 * b + 2) := rf.2.1 b 2 hb (by omega)
  have b3 : h (6 + 4) b = h 187 (5 * b + 3) := rf.2.1 b 3 hb (by omega)
  unfold mt crK
  rw [a1, a2, a3, b1, b2, b3]
  exact cr_iff (hk.1 _ ha).2.2.1.1 (hk.1 _ hb).2.2.1.1 ((hk.1 _ ha).2.2.2 _ hb (Ne.symm hne))
theorem crK_sy {h : kH} (hk : MOk h) {a b : Nat} (ha : (a : Int) < h 184 4) (hb : (b : Int) < h 184 4) (hne : a ≠ b) : crK (h 187) a b ↔ crK (h 187) b a := crM_sym ((hk.1 a ha).2.2.2 b hb (Ne.symm hne))
theorem an_tangle {h h1 : kH} {z z' : Int} (rs : Rs h) (hk : MOk h) (e1 : ∀ c, 184 ≤ c → h1 c = h c) (hn : 0 ≤ h 184 4) (hc : z = sm (fun a => sm (fun b => ind (b ≠ a ∧ mt h 6 a b)) (h 6 6).toNat) (h 6 6).toNat / 2) (hm : z' = sm (fun i => sm (fun j => ind (crK (h1 187) i j)) i) (h1 184 4).toNat) : z = z' := by
  rw [e1 184 (by omega), e1 187 (by omega)] at hm
  obtain ⟨rf, -⟩ := rs
  have f1 : h 6 6 = h 184 4 := rf.1
  rw [f1] at hc
  have e : sm (fun a => sm (fun b => ind (b ≠ a ∧ mt h 6 a b)) (h 184 4).toNat) (h 184 4).toNat = sm (fun a => sm (fun b => ind (b ≠ a ∧ crK (h 187) a b)) (h 184 4).toNat) (h 184 4).toNat :=
    sm_c (fun a ha => sm_c (fun b hb => ind_c ⟨fun q => ⟨q.1, (mt_iff rf hk (by omega) (by omega) (Ne.symm q.1)).1 q.2⟩, fun q => ⟨q.1, (mt_iff rf hk (by omega) (by omega) (Ne.symm q.1)).2 q.2⟩⟩))
  rw [e, sm_pairs (fun a b ha hb hne => crK_sy hk (by omega) (by omega) hne), ← hm] at hc
  omega
theorem an_toTakeIn {h h1 : kH} {z z' : Int} (rs : Rs h) (hk : MOk h) (e1 : ∀ c, 184 ≤ c → h1 c = h c) (hc : ∃ k : Nat, (h 6 6 = k ∧ k < 9) ∧ FWc (fun s => LSt (fun i j => mt h 6 i j) k s) ((2 ^ k : Nat) - 1 : Int) z ((2 ^ k : Nat) : Int)) (hm : ∃ k : Nat, h1 184 4 = k ∧ MWc (fun s => LSt (fun i j => crK (h1 187) i j) (h1 184 4) s) z' ((2 ^ k : Nat) : Int)) : z = z' := by
  rw [e1 184 (by omega), e1 187 (by omega)] at hm
  obtain ⟨rf, -⟩ := rs
  have f1 : h 6 6 = h 184 4 := rf.1
  obtain ⟨k, ⟨c1, c2⟩, c3⟩ := hc
  obtain ⟨l, d1, d2⟩ := hm
  have ek : l = k := by omega
  subst ek
  refine FW_rel c2 (fun s _ _ => ?_) c3 d2
  rw [d1]
  exact LSt.congr (fun i j hi hj hne => mt_iff rf hk (by omega) (by omega) hne)
theorem sg_mul {a b : Int} (h : (a < 0 ∧ b < 0) ∨ (0 < a ∧ 0 < b)) : (if b < 0 then -a else a) = kAbs a := by
  unfold kAbs
  rcases h with h | h
  · rw [if_pos h.2, if_neg (by omega)]; omega
  · rw [if_neg (by omega), if_pos (by omega)]
/-- lines that cross do so above the ground -/
theorem cr_sg {sA xA hA sB xB hB : Int} (h1 : 1 ≤ hA) (h2 : 1 ≤ hB) (hs : sA ≠ sB) (c : crM sA xA hA sB xB hB) : ((sB - sA) * hA * hB < 0 ∧ (xA - sA) * hB - (xB - sB) * hA < 0) ∨ (0 < (sB - sA) * hA * hB ∧ 0 < (xA - sA) * hB - (xB - sB) * hA) := by
  have hl : 1 ≤ (if hA < hB then hA else hB) := by split <;> omega
  have th : thM sA xA hA sB xB hB = (sA - sB) * hA * hB + ((xA - sA) * hB - (xB - sB) * hA) * (if hA < hB then hA else hB) := rfl
  generalize (if hA < hB then hA else hB) = l at hl th
  generalize (xA - sA) * hB - (xB - sB) * hA = d at th
  have e : (sB - sA) * hA * hB = - ((sA - sB) * hA * hB) := by
    rw [show sB - sA = -(sA - sB) by omega, Int.neg_mul, Int.neg_mul]
  have dl : 0 ≤ d → 0 ≤ d * l := fun q => Int.mul_nonneg q (by omega)
  have dn : d ≤ 0 → d * l ≤ 0 := fun q => Int.mul_nonpos_of_nonpos_of_nonneg q (by omega)
  rw [e]
  by_cases p : 0 < sA - sB
  · have q := (cr_pos p).1 c
    have r : 0 < (sA - sB) * hA * hB := Int.mul_pos (Int.mul_pos p (by omega)) (by omega)
    refine Or.inl ⟨by omega, ?_⟩
    apply Classical.byContradiction
    intro z
    have := dl (by omega)
    omega
  · have q := (cr_neg p).1 c
    have r : (sA - sB) * hA * hB < 0 := Int.mul_neg_of_neg_of_pos (Int.mul_neg_of_neg_of_pos (by omega) (by omega)) (by omega)
    refine Or.inr ⟨by omega, ?_⟩
    apply Classical.byContradiction
    intro z
    have := dn (by omega)
    omega
theorem kAbs_mul {a b c : Int} (hb : 0 ≤ b) (hc : 0 ≤ c) : kAbs (a * b * c) = kAbs a * b * c := by
  unfold kAbs
  by_cases h : 0 ≤ a
  · rw [if_pos h, if_pos (Int.mul_nonneg (Int.mul_nonneg h hb) hc)]
  · rw [if_neg h]
    have q : a * b * c ≤ 0 := Int.mul_nonpos_of_nonpos_of_nonneg (Int.mul_nonpos_of_nonpos_of_nonneg (by omega) hb) hc
    by_cases z : 0 ≤ a * b * c
    · have e : a * b * c = 0 := by omega
      rw [if_pos z, show (0 - a) = -a by omega, Int.neg_mul, Int.neg_mul, e]
      rfl
    · rw [if_neg z, show (0 - a) = -a by omega, Int.neg_mul, Int.neg_mul]
      omega
/-- where a line is crossed: both sides' numbers -/
theorem mh_iff {h : kH} (rf : RF h) (hk : MOk h) {a b : Nat} (ha : (a : Int) < h 184 4) (hb : (b : Int) < h 184 4) (hne : a ≠ b) : trC h 6 a b = drK (h 187) a b ∧ (crK (h 187) a b → mhC h 6 a b = haS (h 187) a b) := by
  have a1 : h (6 + 2) a = h 187 (5 * a + 1) := rf.2.1 a 1 ha (by omega)
  have a2 : h (6 + 3) a = h 187 (5 * a + 2) := rf.2.1 a 2 ha (by omega)
  have a3 : h (6 + 4) a = h 187 (5 * a + 3) := rf.2.1 a 3 ha (by omega)
  have b1 : h (6 + 2) b = h 187 (5 * b + 1) := rf.2.1 b 1 hb (by omega)
  have b2 : h (6 + 3) b = h 187 (5 * b + 2) := rf.2.1 b 2 hb (by omega)
  have b3 : h (6 + 4) b = h 187 (5 * b + 3) := rf.2.1 b 3 hb (by omega)
  have k1 := hk.1 a ha
  have k2 := hk.1 b hb
  refine ⟨by unfold trC drK; rw [a1, a2, a3, b1, b2, b3], fun c => ?_⟩
  have s := cr_sg k1.2.2.1.1 k2.2.2.1.1 (k1.2.2.2 b hb (Ne.symm hne)) c
  unfold mhC haS haK
  rw [a1, a3, b1, b3, ← kAbs_mul (by omega) (by omega)]
  exact (sg_mul s).symm
theorem ah_iff {h : kH} (rf : RF h) (hk : MOk h) {k a b : Nat} (h0 : (k : Int) < h 184 4) (ha : (a : Int) < h 184 4) (hb : (b : Int) < h 184 4) (na : k ≠ a) (nb : k ≠ b) (ca : crK (h 187) k a) (cb : crK (h 187) k b) : ahC h 6 k a b ↔ loK (h 187) k a b := by
  have p := mh_iff rf hk h0 ha na
  have q := mh_iff rf hk h0 hb nb
  unfold ahC loK
  rw [p.1, q.1, p.2 ca, q.2 cb]
theorem an_along {h h1 : kH} {x i z z' : Int} (rs : Rs h) (hk : MOk h) (e1 : ∀ c, 184 ≤ c → h1 c = h c)
    (hc : (¬ (0 ≤ x ∧ x < h 6 6) ∧ z = -1) ∨ ((0 ≤ x ∧ x < h 6 6) ∧ FST (fun k => ((k ≠ x.toNat ∧ mt h 6 x.toNat k) ∧ sm (fun o => ind ((o ≠ x.toNat ∧ mt h 6 x.toNat o) ∧ ahC h 6 x.toNat o k)) (h 6 6).toNat = i)) (h 6 6) z))
    (hm : (¬ (0 ≤ x ∧ x < h1 184 4) ∧ z' = -1) ∨ ((0 ≤ x ∧ x < h1 184 4) ∧ FST (fun o => ((o ≠ x.toNat ∧ crK (h1 187) x.toNat o) ∧ sm (fun p => ind (p ≠ x.toNat ∧ p ≠ o ∧ o ≠ x.toNat ∧ crK (h1 187) x.toNat p ∧ crK (h1 187) x.toNat o ∧ loK (h1 187) x.toNat p o)) (h1 184 4).toNat = i)) (h1 184 4) z')) : z = z' := by
  rw [e1 184 (by omega), e1 187 (by omega)] at hm
  obtain ⟨rf, -⟩ := rs
  have f1 : h 6 6 = h 184 4 := rf.1
  rw [f1] at hc
  rcases hc with ⟨c1, c2⟩ | ⟨c1, c2⟩ <;> rcases hm with ⟨d1, d2⟩ | ⟨d1, d2⟩
  · rw [c2, d2]
  · exact absurd d1 c1
  · exact absurd c1 d1
  · refine FST.uniq (fun k hk9 => ?_) c2 d2
    have hx : ((x.toNat : Nat) : Int) < h 184 4 := by omega
    have cr : k ≠ x.toNat → (mt h 6 x.toNat k ↔ crK (h 187) x.toNat k) := fun q => mt_iff rf hk hx hk9 (Ne.symm q)
    constructor
    · rintro ⟨⟨p1, p2⟩, p3⟩
      have p2' := (cr p1).1 p2
      refine ⟨⟨p1, p2'⟩, ?_⟩
      rw [← p3]
      refine sm_c (fun o ho => ind_c ?_)
      constructor
      · rintro ⟨q1, q2, q3, q4, q5, q6⟩
        exact ⟨⟨q1, (mt_iff rf hk hx (by omega) (Ne.symm q1)).2 q4⟩, (ah_iff rf hk hx (by omega) hk9 (Ne.symm q1) (Ne.symm p1) q4 p2').2 q6⟩
      · rintro ⟨⟨q1, q2⟩, q3⟩
        have q2' := (mt_iff rf hk hx (by omega) (Ne.symm q1)).1 q2
        refine ⟨q1, fun e => ?_, p1, q2', p2', (ah_iff rf hk hx (by omega) hk9 (Ne.symm q1) (Ne.symm p1) q2' p2').1 q3⟩
        subst e
        rcases q3 with q3 | q3
        · exact absurd q3 (by omega)
        · exact absurd q3.2 (by omega)
    · rintro ⟨⟨p1, p2⟩, p3⟩
      refine ⟨⟨p1, (cr p1).2 p2⟩, ?_⟩
      rw [← p3]
      refine sm_c (fun o ho => ind_c ?_)
      constructor
      · rintro ⟨⟨q1, q2⟩, q3⟩
        have q2' := (mt_iff rf hk hx (by omega) (Ne.symm q1)).1 q2
        refine ⟨q1, fun e => ?_, p1, q2', p2, (ah_iff rf hk hx (by omega) hk9 (Ne.symm q1) (Ne.symm p1) q2' p2).1 q3⟩
        subst e
        rcases q3 with q3 | q3
        · exact absurd q3 (by omega)
        · exact absurd q3.2 (by omega)
      · rintro ⟨q1, q2, q3, q4, q5, q6⟩
        exact ⟨⟨q1, (mt_iff rf hk hx (by omega) (Ne.symm q1)).2 q4⟩, (ah_iff rf hk hx (by omega) hk9 (Ne.symm q1) (Ne.symm p1) q4 p2).2 q6⟩
theorem an_count {h h1 : kH} {x z z' : Int} (tl : h 1 1 = h 184 8) (rs : Rs h) (e1 : ∀ c, 184 ≤ c → h1 c = h c) (hn : 0 ≤ h 184 4) (hc : z = ctF (h 1 1) (h 6 6) (cnt (h 7) 0 (h 6 6).toNat) (h 12 0) (h 12 1) (h 23 2) (h 169 6) x) (hm : z' = ctF (h1 184 8) (h1 184 4) (cnt (fun i => h1 187 (5 * i)) 0 (h1 184 4).toNat) (h1 189 0) (h1 189 1) (h1 184 11) (h1 184 16) x) : z = z' := by
  rw [e1 184 (by omega), e1 187 (by omega), e1 189 (by omega)] at hm
  obtain ⟨rf, -, ra, -, -, rn⟩ := rs
  have f1 : h 6 6 = h 184 4 := rf.1
  have f2 : h 12 0 = h 189 0 := rf.2.2.1
  have f3 : h 12 1 = h 189 1 := rf.2.2.2
  have f4 : cnt (h 7) 0 (h 184 4).toNat = cnt (fun i => h 187 (5 * i)) 0 (h 184 4).toNat := cnt_congr (fun i hi => rf.2.1 i 0 (by omega) (by omega))
  rw [hc, hm, tl, f1, f2, f3, ra.1, rn.1, f4]
end
