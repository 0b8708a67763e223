theorem lh.list {ls : Array Slot} {n : Nat} {f : Nat → Option Value} (h : lh ls n f) (l : List (Nat × Value)) (hl : ∀ q ∈ l, f q.1 = some q.2) : lh ls n (fun i => (l.find? (fun q => q.1 == i)).map (fun q => q.2)) := by
  refine ⟨h.1, h.2.1, fun i v hv => ?_⟩
  obtain ⟨q, h1, h2⟩ := Option.map_eq_some_iff.mp hv
  have hm := List.mem_of_find?_eq_some h1
  have hi := List.find?_some h1
  simp at hi
  subst h2
  subst hi
  exact h.2.2 q.1 q.2 (hl q hm)
theorem notm1 {x : Int32} {g : Nat} (h : x = nI g) (hg : g < 2 ^ 31) : ¬ x = -1 := fun q => nI_m1 hg (h.symm.trans q)
theorem ln_goes {z : St} {j : Nat} (h : ln z j < 2 ^ 31) : ln (goes z j) j = ln z j - 1 := by
  show tn (sc (us z 10 j (nI (ln z j - 1))) 10 j) = _
  rw [sc_s]
  exact nI_clamp (by omega)
theorem ln_comes {z : St} {j : Nat} {x : Int32} (h : ln z j + 1 < 2 ^ 31) : ln (comes z j x) j = ln z j + 1 := by
  show tn (sc (us (u2 z 11 j _) 10 j (nI (ln z j + 1))) 10 j) = _
  rw [sc_s]
  exact nI_clamp h
theorem dk_lnd {z : St} {f : Nat} (h : dk z f < 2 ^ 31) : dk (lnd z f) f = dk z f - 1 := by
  show tn (sc (us z 14 f (nI (dk z f - 1))) 14 f) = _
  rw [sc_s]
  exact nI_clamp (by omega)
