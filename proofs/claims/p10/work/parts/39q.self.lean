theorem K_icmp_eq_self {X : kX} {G : kG} {Z : kZ} {pc i : Nat} {lo : List (Nat × Value)} {st : List Value} {h : kH} {a b : Int} {off : Int} (tgt : Nat) (hd : X.2.2.2.2[i]? = some (pc, .if_icmp .eq off, 3)) (ht : (pc : Int) + off = (tgt : Int)) (e : a = b) (k1 : K X G Z tgt lo st h) : K X G Z pc lo (kI b :: kI a :: st) h := by
  subst e
  obtain ⟨z, hz, e⟩ := kI_norm a
  rw [e]
  exact K_icmp_eq tgt hd ht hz hz (fun _ => k1) (fun q => absurd rfl q)
