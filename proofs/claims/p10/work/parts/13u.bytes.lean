/-! the bytes that a call of write puts -/
def byt (v k : Int) : Int := kAnd (kL2i (kLushr v (8 * k))) 255
/-- b' is b with the bytes of v, as far as the one of the number k + 1, behind len -/
def WrB (b b' : Nat → Int) (len n k v : Int) : Prop := ∀ j : Nat, b' j = if len ≤ (j : Int) ∧ (j : Int) < len + (n - 1 - k) then byt v (len + n - 1 - j) else b j
theorem WrB.rf {b : Nat → Int} {len n v : Int} : WrB b b len n (n - 1) v := fun j => by rw [if_neg (by omega)]
theorem WrB.st {h h1 : kH} {c p : Nat} {len n k v w : Int} (a : WrB (h c) (h1 c) len n k v) (h0 : 0 ≤ len) (hk : -1 ≤ k ∧ k < n) (hp : (p : Int) = len + (n - 1 - k)) (hw : w = byt v k) : WrB (h c) (kU h1 c p w c) len n (k - 1) v := fun j => by
  rw [kU_at]
  by_cases e : j = p
  · rw [if_pos ⟨rfl, e⟩, if_pos (by omega), hw]
    congr 1
    omega
  · rw [if_neg (by omega), a j]
    by_cases q : len ≤ (j : Int) ∧ (j : Int) < len + (n - 1 - k)
    · rw [if_pos q, if_pos (by omega)]
    · rw [if_neg q, if_neg (by omega)]
theorem WrB.cg {b b' : Nat → Int} {len len' n k k' v : Int} (a : WrB b b' len n k v) (hl : len = len') (hk : k = k') : WrB b b' len' n k' v := by subst hl; subst hk; exact a
theorem WrB.uniq {b b1 b2 : Nat → Int} {len n k v : Int} (a : WrB b b1 len n k v) (c : WrB b b2 len n k v) : b1 = b2 := funext fun j => (a j).trans (c j).symm
