/-! what ties the class's cells to the reference's -/
theorem Fx.two {S S' : Nat → Nat → Prop} {h h1 h2 : kH} (a : Fx S h h1) (b : Fx S' h1 h2) : Fx (fun c i => S c i ∨ S' c i) h h2 := fun c i q => (b c i (fun e => q (Or.inr e))).trans (a c i (fun e => q (Or.inl e)))
theorem Fx.less {S S' : Nat → Nat → Prop} {h h' : kH} (f : Fx S h h') (e : ∀ c i, S c i → ¬ S' c i → h' c i = h c i) : Fx S' h h' := fun c i q => Classical.byCases (fun s : S c i => e c i s q) (fun s => f c i s)
theorem FE.cg {h h' : kH} {f : Nat} {k k' : Nat → Int} {n n' w0 w1 w0' w1' : Int} (a : FE h f k n w0 w1) (hc : ∀ c i, f ≤ c → c ≤ f + 6 → h' c i = h c i) (hk : ∀ j : Nat, (j : Int) < 5 * n → k' j = k j) (en : n' = n) (e0 : w0' = w0) (e1 : w1' = w1) : FE h' f k' n' w0' w1' := by
  subst en; subst e0; subst e1
  obtain ⟨a1, a2, a3, a4⟩ := a
  exact ⟨by rw [hc f 6 (by omega) (by omega)]; exact a1, fun i c hi h5 => by rw [hc _ _ (by omega) (by omega), hk _ (by omega)]; exact a2 i c hi h5, by rw [hc _ _ (by omega) (by omega)]; exact a3, by rw [hc _ _ (by omega) (by omega)]; exact a4⟩
theorem FE.set {h h' : kH} {f : Nat} {k k' : Nat → Int} {n w0 w1 v : Int} {b x : Nat} (a : FE h f k n w0 w1) (hb : b < 5) (hc : ∀ c, f ≤ c → c ≤ f + 6 → c ≠ f + 1 + b → h' c = h c) (hv : ∀ j, h' (f + 1 + b) j = if j = x then v else h (f + 1 + b) j) (hk : ∀ j, k' j = if j = 5 * x + b then v else k j) : FE h' f k' n w0 w1 := by
  obtain ⟨a1, a2, a3, a4⟩ := a
  refine ⟨by rw [hc f (by omega) (by omega) (by omega)]; exact a1, fun i c hi h5 => ?_, by rw [hc _ (by omega) (by omega) (by omega)]; exact a3, by rw [hc _ (by omega) (by omega) (by omega)]; exact a4⟩
  by_cases e : c = b
  · subst e
    rw [hv i, hk]
    by_cases q : i = x
    · rw [if_pos q, if_pos (by omega)]
    · rw [if_neg q, if_neg (by omega)]; exact a2 i c hi h5
  · rw [hc (f + 1 + c) (by omega) (by omega) (by omega), hk, if_neg (by omega)]; exact a2 i c hi h5
def RF (h : kH) : Prop := FE h 6 (h 187) (h 184 4) (h 189 0) (h 189 1)
def RW9 (h : kH) : Prop := ∀ i, i < 10 → h 4 i = h 188 i
def RB (h : kH) : Prop := h 23 1 = h 184 12 ∧ ∀ r, r < 16 → FE h (25 + 7 * r) (fun j => h 191 (43 * r + j)) (h 191 (43 * r + 40)) (h 191 (43 * r + 41)) (h 191 (43 * r + 42))
def RA (h : kH) : Prop := h 23 2 = h 184 11 ∧ RB h
def RG (h : kH) : Prop := ∀ s, s < 2 → h (138 + 11 * s) 1 = h 199 s
def RS2 (h : kH) : Prop := ∀ s, s < 2 → FE h (142 + 11 * s) (fun j => h 200 (53 * s + j)) (h 200 (53 * s + 50)) (h 200 (53 * s + 51)) (h 200 (53 * s + 52)) ∧ ∀ i, i < 10 → h (140 + 11 * s) i = h 200 (53 * s + 40 + i)
def RN (h : kH) : Prop := h 169 6 = h 184 16 ∧ ∀ j : Nat, (j : Int) < h 169 6 → (h 170 j = min (h 193 j) (h 194 j) ∧ h 171 j = max (h 193 j) (h 194 j)) ∧ h 172 j = h 195 j ∧ h 193 j ≠ h 194 j
def Rs (h : kH) : Prop := RF h ∧ RW9 h ∧ RA h ∧ RG h ∧ RS2 h ∧ RN h
def Rl (h : kH) : Prop := h 2 = h 190 ∧ Rs h
theorem FE_zero {f : Nat} {k : Nat → Int} : FE (fun _ _ => 0) f k 0 0 0 := ⟨rfl, fun i a hi => absurd hi (by omega), rfl, rfl⟩
theorem Rl_zero : Rl (fun _ _ => 0) := ⟨rfl, FE_zero, fun _ _ => rfl, ⟨rfl, rfl, fun _ _ => FE_zero⟩, fun _ _ => rfl, fun _ _ => ⟨FE_zero, fun _ _ => rfl⟩, rfl, fun j hj => absurd hj (show ¬ ((j : Int) < 0) by omega)⟩
section Frames
variable {S : Nat → Nat → Prop} {g : kGh} {h h' : kH}
theorem RF.fx (a : RF h) (hI : Gd g h) (f : Fx S h h') (q : ∀ c i, (6 ≤ c ∧ c ≤ 12) ∨ (c = 187 ∧ i < 40) ∨ (c = 184 ∧ i = 4) ∨ c = 189 → ¬ S c i) : RF h' := by
  have n8 := rd_many hI
  exact FE.cg a (fun c i p r => f c i (q c i (by omega))) (fun j hj => f 187 j (q 187 j (by omega))) (f 184 4 (q _ _ (by omega))) (f 189 0 (q _ _ (by omega))) (f 189 1 (q _ _ (by omega)))
theorem RW9.fx (a : RW9 h) (f : Fx S h h') (q : ∀ c i, c = 4 ∨ c = 188 → ¬ S c i) : RW9 h' := fun i hi => by
  rw [f 4 i (q _ _ (by omega)), f 188 i (q _ _ (by omega))]; exact a i hi
theorem RB.fx (a : RB h) (hI : Gd g h) (f : Fx S h h') (q : ∀ c i, (c = 23 ∧ i = 1) ∨ (25 ≤ c ∧ c ≤ 136) ∨ c = 191 ∨ (c = 184 ∧ i = 12) → ¬ S c i) : RB h' := by
  refine ⟨by rw [f 23 1 (q _ _ (by omega)), f 184 12 (q _ _ (by omega))]; exact a.1, fun r hr => ?_⟩
  have e : ∀ j, h' 191 j = h 191 j := fun j => f 191 j (q _ _ (by omega))
  exact FE.cg (a.2 r hr) (fun c i p s => f c i (q c i (by omega))) (fun j _ => e _) (e _) (e _) (e _)
theorem RA.fx (a : RA h) (hI : Gd g h) (f : Fx S h h') (q : ∀ c i, (c = 23 ∧ (i = 1 ∨ i = 2)) ∨ (25 ≤ c ∧ c ≤ 136) ∨ c = 191 ∨ (c = 184 ∧ (i = 11 ∨ i = 12)) → ¬ S c i) : RA h' :=
  ⟨by rw [f 23 2 (q _ _ (by omega)), f 184 11 (q _ _ (by omega))]; exact a.1, a.2.fx hI f (fun c i p => q c i (by omega))⟩
theorem RG.fx (a : RG h) (f : Fx S h h') (q : ∀ c i, ((c = 138 ∨ c = 149) ∧ i = 1) ∨ c = 199 → ¬ S c i) : RG h' := fun s hs => by
  rw [f (138 + 11 * s) 1 (q _ _ (by omega)), f 199 s (q _ _ (by omega))]; exact a s hs
theorem RS2.fx (a : RS2 h) (f : Fx S h h') (q : ∀ c i, (139 ≤ c ∧ c ≤ 148) ∨ (150 ≤ c ∧ c ≤ 159) ∨ c = 200 → ¬ S c i) : RS2 h' := fun s hs => by
  have e : ∀ j, h' 200 j = h 200 j := fun j => f 200 j (q _ _ (by omega))
  refine ⟨FE.cg (a s hs).1 (fun c i p r => f c i (q c i (by omega))) (fun j _ => e _) (e _) (e _) (e _), fun i hi => ?_⟩
  rw [f (140 + 11 * s) i (q _ _ (by omega)), e]; exact (a s hs).2 i hi
theorem RN.fx (a : RN h) (f : Fx S h h') (q : ∀ c i, (c = 169 ∧ i = 6) ∨ (170 ≤ c ∧ c ≤ 172) ∨ (193 ≤ c ∧ c ≤ 195) ∨ (c = 184 ∧ i = 16) → ¬ S c i) : RN h' := by
  have e6 : h' 169 6 = h 169 6 := f 169 6 (q _ _ (by omega))
  refine ⟨by rw [e6, f 184 16 (q _ _ (by omega))]; exact a.1, fun j hj => ?_⟩
  rw [f 170 j (q _ _ (by omega)), f 171 j (q _ _ (by omega)), f 172 j (q _ _ (by omega)), f 193 j (q _ _ (by omega)), f 194 j (q _ _ (by omega)), f 195 j (q _ _ (by omega))]
  exact a.2 j (by omega)
theorem Rs.fx (a : Rs h) (hI : Gd g h) (f : Fx S h h') (q1 : ∀ c i, (6 ≤ c ∧ c ≤ 12) ∨ (c = 187 ∧ i < 40) ∨ (c = 184 ∧ i = 4) ∨ c = 189 → ¬ S c i) (q2 : ∀ c i, c = 4 ∨ c = 188 → ¬ S c i)
    (q3 : ∀ c i, (c = 23 ∧ (i = 1 ∨ i = 2)) ∨ (25 ≤ c ∧ c ≤ 136) ∨ c = 191 ∨ (c = 184 ∧ (i = 11 ∨ i = 12)) → ¬ S c i) (q4 : ∀ c i, ((c = 138 ∨ c = 149) ∧ i = 1) ∨ c = 199 → ¬ S c i) (q5 : ∀ c i, (139 ≤ c ∧ c ≤ 148) ∨ (150 ≤ c ∧ c ≤ 159) ∨ c = 200 → ¬ S c i)
    (q6 : ∀ c i, (c = 169 ∧ i = 6) ∨ (170 ≤ c ∧ c ≤ 172) ∨ (193 ≤ c ∧ c ≤ 195) ∨ (c = 184 ∧ i = 16) → ¬ S c i) : Rs h' :=
  ⟨a.1.fx hI f q1, a.2.1.fx f q2, a.2.2.1.fx hI f q3, a.2.2.2.1.fx f q4, a.2.2.2.2.1.fx f q5, a.2.2.2.2.2.fx f q6⟩
end Frames
theorem MR.base {h h1 h2 : kH} (a : MR h1 h2) (e : ∀ c, 184 ≤ c → h1 c = h c) : MR h h2 := by
  unfold MR at a
  rw [e 184 (by omega), e 187 (by omega), e 189 (by omega), e 191 (by omega)] at a
  exact a
theorem RA.act {g : kGh} {h h2 : kH} (ra : RA h) (rf : RF h) (hI : Gd g h) (ar : AR h h2) (mr : MR h h2) : RA h2 := by
  obtain ⟨a2, a1, a3⟩ := ra
  obtain ⟨⟨p1, p2⟩, p3, p4⟩ := ar
  obtain ⟨⟨q1, q2⟩, q3, ⟨q4, q5, q6⟩, q7⟩ := mr
  have hr := rd_mnext hI
  refine ⟨by rw [p2, q2, a2], by rw [p1, q1, a1], fun r hr2 => ?_⟩
  by_cases e : r = (h 184 12).toNat
  · subst e
    have f1 : FE h2 (25 + 7 * (h 23 1).toNat) (h 187) (h 184 4) (h 189 0) (h 189 1) := rf.of p3
    rw [a1] at f1
    rw [q4, q5, q6]
    exact f1.k (rd_many hI).2 (fun j hj => q3 j hj)
  · have e191 : ∀ j, j < 43 → h2 191 (43 * r + j) = h 191 (43 * r + j) := fun j hj => q7 _ (by omega)
    rw [e191 40 (by omega), e191 41 (by omega), e191 42 (by omega)]
    have n8 := (rd_row hI (43 * r + 40)).2 (by omega)
    exact (FE.of (a3 r hr2) (FC.same (fun c a b => p4 c (by omega) (by omega) (by omega)))).k n8.2 (fun j hj => e191 j (by omega))
/-! gusts of the class and of the reference -/
theorem cut_rel {hx : kH} {s : Nat} {km w : Nat → Int} {n z z' : Int} (ag : ∀ i a : Nat, (i : Int) < n → a < 5 → hx (s + 3 + 1 + a) i = km (5 * i + a)) (wd : ∀ i, 1 ≤ i → i < 10 → hx (s + 1) i = w i) (fk : FK km n) (kr : kR z) (kr' : kR z') (c : CtC hx s n z) (m : CtK km w n z') : z = z' := by
  have eq : ∀ i : Nat, (i : Int) < n → eg hx s i = egK km w i := fun i hi => by
    have h4 : hx (s + 3 + 5) i = km (5 * i + 4) := ag i 4 hi (by omega)
    have h3 : hx (s + 3 + 4) i = km (5 * i + 3) := ag i 3 hi (by omega)
    have hh := (fk i hi).2.2.1
    unfold eg egK
    rw [h4, h3, wd _ (by omega) (by omega)]
  have tq : ∀ i : Nat, (i : Int) < n → hx (s + 3 + 1) i = km (5 * i) := fun i hi => ag i 0 hi (by omega)
  have mq : ∀ p q : Nat, (p : Int) < n → (q : Int) < n → p ≠ q → (mt hx (s + 3) p q ↔ crK km p q) := fun p q hp hq hne => by
    have a1 : hx (s + 3 + 2) p = km (5 * p + 1) := ag p 1 hp (by omega)
    have a2 : hx (s + 3 + 3) p = km (5 * p + 2) := ag p 2 hp (by omega)
    have a3 : hx (s + 3 + 4) p = km (5 * p + 3) := ag p 3 hp (by omega)
    have b1 : hx (s + 3 + 2) q = km (5 * q + 1) := ag q 1 hq (by omega)
    have b2 : hx (s + 3 + 3) q = km (5 * q + 2) := ag q 2 hq (by omega)
    have b3 : hx (s + 3 + 4) q = km (5 * q + 3) := ag q 3 hq (by omega)
    unfold mt crK
    rw [a1, a2, a3, b1, b2, b3]
    exact cr_iff (fk p hp).2.2.1.1 (fk q hq).2.2.1.1 ((fk p hp).2.2.2 q hq (Ne.symm hne))
  have sy : ∀ p q : Nat, (p : Int) < n → (q : Int) < n → p ≠ q → crK km p q → crK km q p := fun p q hp hq hne a => (crM_sym ((fk p hp).2.2.2 q hq (Ne.symm hne))).1 a
  apply tb_ext kr kr'
  intro v h0 h1
  apply Bool.eq_iff_iff.mpr
  rw [c v h0 h1, m v h0 h1]
  constructor
  · rintro ⟨p, q, ⟨hpq, hq⟩, ⟨t1, t2, t3⟩, hj⟩
    have hp : (p : Int) < n := by omega
    rw [tq p hp, tq q hq] at t1
    have t3' := (mq p q hp hq (by omega)).1 t3
    by_cases e : eg hx s p < eg hx s q
    · rw [lo_lt e] at hj
      rw [eq p hp, eq q hq] at e
      exact ⟨q, p, ⟨hq, hp⟩, ⟨Ne.symm t1, e, sy p q hp hq (by omega) t3'⟩, hj⟩
    · rw [lo_ge e] at hj
      rw [eq p hp, eq q hq] at e t2
      exact ⟨p, q, ⟨hp, hq⟩, ⟨t1, by omega, t3'⟩, hj⟩
  · rintro ⟨p, q, ⟨hp, hq⟩, ⟨t1, t2, t3⟩, hj⟩
    have hne : p ≠ q := fun e => t1 (by rw [e])
    rw [← eq p hp, ← eq q hq] at t2
    rw [← tq p hp, ← tq q hq] at t1
    by_cases e : p < q
    · exact ⟨p, q, ⟨e, hq⟩, ⟨t1, by omega, (mq p q hp hq hne).2 t3⟩, by rw [lo_ge (by omega)]; exact hj⟩
    · exact ⟨q, p, ⟨by omega, hp⟩, ⟨Ne.symm t1, by omega, (mq q p hq hp (Ne.symm hne)).2 (sy p q hp hq hne t3)⟩, by rw [lo_lt t2]; exact hj⟩
theorem gust_rel {h h1 : kH} {s : Nat} {k k' w : Nat → Int} {n n' w0 w1 z z' : Int} {d : Nat → Int} (fe : FE h (s + 3) k n w0 w1) (fk : FK k n) (hn : 0 ≤ n) (wd : ∀ i, 1 ≤ i → i < 10 → h (s + 1) i = w i) (kr : kR z) (b : BLW h h1 s z) (gs : GSK w k n k' n' z' d) :
    z = z' ∧ FE h1 (s + 3) k' n' (w0 + d 0) (w1 + d 1) ∧ FK k' n' := by
  obtain ⟨f1, f2, f3, f4⟩ := fe
  obtain ⟨hx, ⟨x1, x2⟩, ct, b1, b2, b3⟩ := b
  obtain ⟨km, ⟨kr', bx, ck, fkm⟩, m1, m2, m3⟩ := gs
  rw [f1] at x2 ct b1 b2 b3
  have ag : ∀ i a : Nat, (i : Int) < n → a < 5 → hx (s + 3 + 1 + a) i = km (5 * i + a) := fun i a hi ha => by
    by_cases e : a = 2
    · subst e
      have g2 : h (s + 3 + 3) i = k (5 * i + 2) := f2 i 2 hi (by omega)
      have g3 : h (s + 3 + 4) i = k (5 * i + 3) := f2 i 3 hi (by omega)
      have hh := (fk i hi).2.2.1
      rw [show s + 3 + 1 + 2 = s + 3 + 3 by omega, x2 i hi, bx.lt hi]
      unfold blX
      rw [g2, g3, wd _ (by omega) (by omega)]
    · rw [x1 _ (by omega) (by omega), f2 i a hi ha, bx.ot (j := 5 * i + a) (by omega)]
  have ez : z = z' := cut_rel ag (fun i p q => by rw [x1 _ (by omega) (by omega)]; exact wd i p q) fkm kr kr' ct ck
  subst ez
  have tw : ∀ t : Int, cw z (h (s + 3 + 1)) t n.toNat = cw z (fun i => k (5 * i)) t n.toNat := fun t => cw_congr (fun i hi => f2 i 0 (by omega) (by omega))
  refine ⟨rfl, ⟨by rw [b1, m1], fun i a hi ha => ?_, ?_, ?_⟩, by rw [m1]; exact FK.thin fkm m2 hn⟩
  · obtain ⟨j, j1, j2, j3⟩ := kc_on (pB z) (show i < kc (pB z) n.toNat by omega)
    rw [← j3, b2 j a (by omega) j2 ha, m2 j a (by omega) j2 ha, ag j a (by omega) ha]
  · rw [b3 0 (by omega), f3, m3 0 (by omega)]
    congr 1
    exact tw 0
  · rw [b3 1 (by omega), f4, m3 1 (by omega)]
    congr 1
    exact tw 1
theorem kc_one {p : Nat → Bool} {x : Nat} : ∀ {k : Nat}, (∀ j, j < k → (p j = true ↔ j ≠ x)) → kc p k = if k ≤ x then k else k - 1 := by
  intro k
  induction k with
  | zero => intro _; simp [kc]
  | succ k ih =>
    intro hp
    rw [kc, ih (fun j hj => hp j (by omega))]
    have := hp k (by omega)
    by_cases e : k = x
    · subst e
      have q : p k = false := by cases q : p k; rfl; exact absurd rfl (this.1 q)
      rw [q]
      simp
    · rw [this.2 e]
      simp only [if_true]
      split <;> split <;> omega
theorem pB_one {x : Int} (hx : 0 ≤ x ∧ x ≤ 31) {j : Nat} (hj : j ≤ 31) : pB (kShl 1 x) j = true ↔ j ≠ x.toNat := by
  have := tbc_shl (t := x) (v := (j : Int)) hx (by omega) (by omega)
  unfold pB
  cases q : tb (kShl 1 x) (j : Int)
  · rw [q] at this
    simp at this
    simp
    omega
  · have e := this.1 q
    simp
    omega
theorem bt_rel {s : Nat} {w : Nat → Int} : ∀ {m : Nat} {h h' : kH} {k k' : Nat → Int} {n n' w0 w1 : Int} {d : Nat → Int}, FE h (s + 3) k n w0 w1 → FK k n → 0 ≤ n → (∀ i, 1 ≤ i → i < 10 → h (s + 1) i = w i) → BTW s m h h' → MTK w m k n k' n' d →
    FE h' (s + 3) k' n' (w0 + d 0) (w1 + d 1) ∧ FK k' n' ∧ 0 ≤ n' ∧ ∀ i, 1 ≤ i → i < 10 → h' (s + 1) i = w i := by
  intro m
  induction m with
  | zero =>
    intro h h' k k' n n' w0 w1 d fe fk hn wd a b
    have e : h' = h := a
    obtain ⟨b1, b2, b3⟩ := b
    rw [e, b1, b2, b3 0 (by omega), b3 1 (by omega), Int.add_zero, Int.add_zero]
    exact ⟨fe, fk, hn, wd⟩
  | succ m ih =>
    intro h h' k k' n n' w0 w1 d fe fk hn wd a b
    obtain ⟨h1, z, a1, a2, a3, a4⟩ := a
    obtain ⟨k1, n1, d1, z', d2, b1, b2, b3⟩ := b
    obtain ⟨i1, i2, i3, i4⟩ := ih fe fk hn wd a1 b1
    obtain ⟨-, j2, j3⟩ := gust_rel i1 i2 i3 i4 a2 a3 b2
    rw [b3 0 (by omega), b3 1 (by omega), ← Int.add_assoc, ← Int.add_assoc]
    refine ⟨j2, j3, ?_, fun i p q => by rw [a4]; exact i4 i p q⟩
    obtain ⟨km, -, c2, -⟩ := b2
    rw [c2]
    omega
theorem au_rel {s : Nat} {sd : Int} : ∀ {m : Nat} {h h' : kH} {k k' : Nat → Int} {n n' w0 w1 : Int} {d : Nat → Int}, FE h (s + 3) k n w0 w1 → FK k n → 0 ≤ n → AUC s sd m h h' → AUK sd m k n k' n' d →
    FE h' (s + 3) k' n' (w0 + d 0) (w1 + d 1) ∧ FK k' n' ∧ 0 ≤ n' := by
  intro m
  induction m with
  | zero =>
    intro h h' k k' n n' w0 w1 d fe fk hn a b
    have e : h' = h := a
    obtain ⟨b1, b2, b3⟩ := b
    rw [e, b1, b2, b3 0 (by omega), b3 1 (by omega), Int.add_zero, Int.add_zero]
    exact ⟨fe, fk, hn⟩
  | succ m ih =>
    intro h h' k k' n n' w0 w1 d fe fk hn a b
    obtain ⟨h1, h2, z, a1, ⟨a2, a3⟩, a4, a5⟩ := a
    obtain ⟨k1, n1, d1, z', d2, w, b1, b2, b3, b4⟩ := b
    obtain ⟨i1, i2, i3⟩ := ih fe fk hn a1 b1
    have i4 := FE.cg (h' := h2) i1 (fun c i p q => by rw [a2 c p (by omega)]) (fun _ _ => rfl) rfl rfl rfl
    obtain ⟨-, j2, j3⟩ := gust_rel i4 i2 i3 (fun i p q => (a3 i p q).trans (b2 i p q).symm) a4 a5 b3
    rw [b4 0 (by omega), b4 1 (by omega), ← Int.add_assoc, ← Int.add_assoc]
    refine ⟨j2, j3, ?_⟩
    obtain ⟨km, -, c2, -⟩ := b3
    rw [c2]
    omega
