/-! sums of what holds -/
noncomputable def ind (P : Prop) : Int := @ite Int P (Classical.propDecidable P) 1 0
theorem ind_t {P : Prop} (h : P) : ind P = 1 := by unfold ind; exact if_pos h
theorem ind_f {P : Prop} (h : ¬ P) : ind P = 0 := by unfold ind; exact if_neg h
theorem ind_c {P Q : Prop} (h : P ↔ Q) : ind P = ind Q := by rw [show P = Q from propext h]
theorem ind_bd (P : Prop) : 0 ≤ ind P ∧ ind P ≤ 1 := by
  by_cases h : P
  · rw [ind_t h]; omega
  · rw [ind_f h]; omega
def sm (f : Nat → Int) : Nat → Int
  | 0 => 0
  | n + 1 => sm f n + f n
theorem sm_c {f g : Nat → Int} : ∀ {n : Nat}, (∀ i, i < n → f i = g i) → sm f n = sm g n := by
  intro n
  induction n with
  | zero => intro _; rfl
  | succ n ih => intro h; rw [sm, sm, ih (fun i hi => h i (by omega)), h n (by omega)]
theorem sm_bd {f : Nat → Int} {c : Int} : ∀ {n : Nat}, (∀ i, i < n → 0 ≤ f i ∧ f i ≤ c) → 0 ≤ sm f n ∧ sm f n ≤ c * n := by
  intro n
  induction n with
  | zero => intro _; rw [sm]; omega
  | succ n ih =>
    intro h
    have h1 := ih (fun i hi => h i (by omega))
    have h2 := h n (by omega)
    rw [sm]
    have e : c * ((n + 1 : Nat) : Int) = c * n + c := by rw [Int.natCast_add, Int.mul_add]; omega
    omega
theorem sm_add {f g : Nat → Int} : ∀ {n : Nat}, sm (fun i => f i + g i) n = sm f n + sm g n := by
  intro n
  induction n with
  | zero => rfl
  | succ n ih => rw [sm, sm, sm, ih]; omega
/-- pairs, counted from both ends -/
theorem sm_pairs {M : Nat → Nat → Prop} : ∀ {n : Nat}, (∀ a b, a < n → b < n → a ≠ b → (M a b ↔ M b a)) → sm (fun a => sm (fun b => ind (b ≠ a ∧ M a b)) n) n = 2 * sm (fun i => sm (fun j => ind (M i j)) i) n := by
  intro n
  induction n with
  | zero => intro _; rfl
  | succ n ih =>
    intro h
    have e1 : sm (fun a => sm (fun b => ind (b ≠ a ∧ M a b)) (n + 1)) n = sm (fun a => sm (fun b => ind (b ≠ a ∧ M a b)) n) n + sm (fun a => ind (n ≠ a ∧ M a n)) n := by
      rw [← sm_add]
      exact sm_c (fun i _ => by rw [sm])
    have e2 : sm (fun a => ind (n ≠ a ∧ M a n)) n = sm (fun j => ind (M n j)) n := sm_c (fun i hi => ind_c ⟨fun q => (h i n (by omega) (by omega) (by omega)).1 q.2, fun q => ⟨by omega, (h i n (by omega) (by omega) (by omega)).2 q⟩⟩)
    have e3 : sm (fun b => ind (b ≠ n ∧ M n b)) (n + 1) = sm (fun j => ind (M n j)) n := by
      rw [sm, ind_f (P := n ≠ n ∧ M n n) (fun q => q.1 rfl), Int.add_zero]
      exact sm_c (fun i hi => ind_c ⟨fun q => q.2, fun q => ⟨by omega, q⟩⟩)
    rw [sm, e1, e2, e3, ih (fun a b ha hb => h a b (by omega) (by omega))]
    show _ = 2 * (sm (fun i => sm (fun j => ind (M i j)) i) n + sm (fun j => ind (M n j)) n)
    omega
theorem pcB_sm (x : Int) : ∀ k : Nat, pcB x k = sm (fun j => ind (tb x j = true)) k := by
  intro k
  induction k with
  | zero => rfl
  | succ k ih =>
    rw [pcB, sm, ih]
    by_cases h : tb x k = true
    · rw [if_pos h, ind_t h]
    · rw [if_neg h, ind_f h]
/-- a sum stops where nothing holds any more -/
theorem sm_cut {f : Nat → Int} {n : Nat} : ∀ {k : Nat}, (∀ j, n ≤ j → j < n + k → f j = 0) → sm f (n + k) = sm f n := by
  intro k
  induction k with
  | zero => intro _; rfl
  | succ k ih =>
    intro h
    show sm f (n + k) + f (n + k) = sm f n
    rw [h (n + k) (by omega) (by omega), ih (fun j a b => h j a (by omega))]
    omega
/-- bits below 8 alone -/
theorem lt256 {m : Int} (hr : kR m) (h : ∀ j : Int, 8 ≤ j → j ≤ 31 → tb m j = false) : 0 ≤ m ∧ m ≤ 255 := by
  have e : m = kAnd m 255 := by
    apply tb_ext hr (kAnd_R _ _)
    intro v h0 h1
    rw [bt_and]
    have q : tb 255 v = true ↔ v ≤ 7 := tb_nat (n := 32) (P := fun v => tb 255 v = true ↔ v ≤ 7) (by decide +kernel) h0 (by omega)
    by_cases e : v ≤ 7
    · rw [q.2 e, Bool.and_true]
    · rw [h v (by omega) h1, Bool.false_and]
  have := kAnd_255 m
  omega
theorem pcI_sm {m : Int} {n : Nat} (hr : kR m) (hn : n ≤ 8) (h : ∀ j : Int, (n : Int) ≤ j → j ≤ 31 → tb m j = false) : (0 ≤ m ∧ m ≤ 255) ∧ pcI m = sm (fun j => ind (tb m j = true)) n := by
  have b := lt256 hr (fun j p q => h j (by omega) q)
  refine ⟨b, ?_⟩
  rw [pcB_ok b.1 (by omega), pcB_sm, show 24 = n + (24 - n) by omega]
  exact sm_cut (fun j p q => ind_f (by rw [h j (by omega) (by omega)]; exact Bool.false_ne_true))
theorem kU_s (h : kH) (c i : Nat) (v : Int) (j : Nat) : kU h c i v c j = if j = i then v else h c j := by
  rw [kU_at]
  by_cases e : j = i
  · rw [if_pos ⟨rfl, e⟩, if_pos e]
  · rw [if_neg (fun q => e q.2), if_neg e]
