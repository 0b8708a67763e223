theorem rng_of {n M : Int32} {m : Nat} (hM : M.toInt = m) (h1 : ¬ n < 1) (h2 : ¬ M < n) : ∃ N, N ≤ m ∧ n = nI N := nI_of2 hM (fun q => h1 (Int32.lt_trans q (by decide))) (Int32.not_lt.mp h2)
theorem ix_in {q n : Nat} (hn : n < 2 ^ 31) (h : q < n) : ix (nI q) n = some q := by
  have h2 : q < 2 ^ 31 := Nat.lt_trans h hn
  exact (if_neg (nI_pos h2)).trans ((if_neg (nI_ge h hn)).trans (congrArg some (nI_clamp h2)))
theorem ix_no {q n : Nat} (hq : q < 2 ^ 31) (h : n ≤ q) : ix (nI q) n = none := (if_neg (nI_pos hq)).trans (if_pos (nI_le h hq))
theorem goes_comes {z : St} {i j : Nat} {x : Int32} (h : i ≠ j) : goes (comes z j x) i = comes (goes z i) j x := by
  have h' : j ≠ i := fun q => h q.symm
  have e1 : sc (comes z j x) 10 i = sc z 10 i := by
    show sc (us (u2 z 11 j _) 10 j _) 10 i = _
    rw [sc_i h]
    rfl
  have e2 : (comes z j x) 11 i = z 11 i := by
    show (u2 z 11 j _) 11 i = _
    rw [u2_i h]
  have e3 : sc (goes z i) 10 j = sc z 10 j := by
    show sc (us z 10 i _) 10 j = _
    rw [sc_i h']
  have e4 : (goes z i) 11 j = z 11 j := by
    show (u2 (us z 10 i _) 11 i _) 11 j = _
    rw [u2_i h']
    rfl
  unfold goes comes ln
  rw [show sc (us (u2 z 11 j (va_up (z 11 j) (tn (sc z 10 j)) x)) 10 j (nI (tn (sc z 10 j) + 1))) 10 i = sc z 10 i from e1,
    show (us (u2 z 11 j (va_up (z 11 j) (tn (sc z 10 j)) x)) 10 j (nI (tn (sc z 10 j) + 1))) 11 i = z 11 i from e2,
    show sc (u2 (us z 10 i (nI (tn (sc z 10 i) - 1))) 11 i (va_cpy (z 11 i) (z 11 i) 1 0 (tn (sc z 10 i) - 1))) 10 j = sc z 10 j from e3,
    show (u2 (us z 10 i (nI (tn (sc z 10 i) - 1))) 11 i (va_cpy (z 11 i) (z 11 i) 1 0 (tn (sc z 10 i) - 1))) 11 j = z 11 j from e4]
  generalize nI (tn (sc z 10 i) - 1) = b
  generalize nI (tn (sc z 10 j) + 1) = a
  generalize va_cpy (z 11 i) (z 11 i) 1 0 (tn (sc z 10 i) - 1) = B
  generalize va_up (z 11 j) (tn (sc z 10 j)) x = A
  funext k y
  by_cases h10 : k = 10
  · subst h10
    by_cases hy : y = i
    · subst hy
      simp [us, u2, va_up, h]
    · by_cases hy2 : y = j
      · subst hy2
        simp [us, u2, va_up, h']
      · simp [us, u2, va_up, hy, hy2]
  · by_cases h11 : k = 11
    · subst h11
      by_cases hy : y = i
      · subst hy
        simp [us, u2, va_up, h]
      · by_cases hy2 : y = j
        · subst hy2
          simp [us, u2, va_up, h']
        · simp [us, u2, va_up, hy, hy2]
    · simp [us, u2, va_up, h10, h11]
theorem swp_fo {z : St} {i j f1 f2 : Nat} (h1 : sc z 9 i = nI f1) (h2 : sc z 9 j = nI f2) (hf1 : f1 < 2 ^ 31) (hf2 : f2 < 2 ^ 31) : tn (sc (us (us z 9 i (nI f2)) 9 j (nI f1)) 9 i) = f2 := by
  by_cases h : i = j
  · subst h
    have e : f1 = f2 := (nI_eq hf1 hf2).mp (h1.symm.trans h2)
    rw [sc_s, e]
    exact nI_clamp hf2
  · rw [sc_i h, sc_s]
    exact nI_clamp hf2
