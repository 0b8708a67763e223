theorem idx_mul {m : Int32} {k : Nat} (hm : m = nI k) (j : Nat) : m * nI j = nI (k * j) := by
  subst hm
  exact pk_mul k j
theorem idx_add {m x : Int32} {k j n : Nat} (hm : m = nI k) (hx : x = nI n) : m * nI j + x = nI (k * j + n) := by
  subst hm hx
  rw [pk_mul, nI_add]
theorem is_bad {x : Int32} {n : Nat} (h : x < 0 ∨ nI n ≤ x) : (if x < 0 then (0 : Int32) else if nI n ≤ x then 0 else 1) = 0 := by
  by_cases h0 : x < 0
  · rw [if_pos h0]
  · rw [if_neg h0, if_pos (h.resolve_left h0)]
theorem is_ok {j n : Nat} (hj : j < n) (hn : n < 2 ^ 31) : (if nI j < 0 then (0 : Int32) else if nI n ≤ nI j then 0 else 1) = 1 := by
  rw [if_neg (nI_pos (Nat.lt_trans hj hn)), if_neg (nI_ge hj hn)]
theorem cpy0 {f : Nat → Int32} : va_cpy f f 1 0 0 = f := by
  funext y
  simp [va_cpy]
theorem cpy_at {f : Nat → Int32} {k y : Nat} (h : k ≤ y) : va_cpy f f 1 0 k y = f y := by
  unfold va_cpy
  rw [if_neg (by omega)]
theorem cpy_step {f : Nat → Int32} {k : Nat} : va_up (va_cpy f f 1 0 k) k (f (k + 1)) = va_cpy f f 1 0 (k + 1) := by
  funext y
  by_cases h : y = k
  · subst h
    rw [va_up_self]
    unfold va_cpy
    rw [if_pos (by omega)]
    congr 1
    omega
  · rw [va_up_ne _ _ h]
    unfold va_cpy
    by_cases h2 : y < k
    · rw [if_pos (by omega), if_pos (by omega)]
    · rw [if_neg (by omega), if_neg (by omega)]
theorem u2_same {α : Type} {f : Nat → Nat → α} {k i : Nat} : u2 f k i (f k i) = f := by
  funext k' i'
  by_cases hk : k' = k
  · subst hk
    by_cases hi : i' = i
    · subst hi
      rw [u2_self]
    · rw [u2_i hi]
  · rw [u2_k hk]
theorem lt_of {y a : Int32} {n : Nat} (ha : a = nI n) (hn : n < 2 ^ 31) (h0 : ¬ y < 0) (h1 : ¬ a ≤ y) : ∃ q, q < n ∧ y = nI q := by
  subst ha
  rcases pk_ix y hn with h | h | h
  · exact absurd h h0
  · exact absurd h h1
  · exact h
theorem fl30 {u : St} {j n : Nat} (h : n < 30) : u 11 ((30 * j + n) / 30) ((30 * j + n) % 30) = u 11 j n := by
  rw [show (30 * j + n) / 30 = j by omega, show (30 * j + n) % 30 = n by omega]
theorem fl40 {u : St} {j n : Nat} (h : n < 40) : u 15 ((40 * j + n) / 40) ((40 * j + n) % 40) = u 15 j n := by
  rw [show (40 * j + n) / 40 = j by omega, show (40 * j + n) % 40 = n by omega]
theorem eq_2 {y : Int32} (h0 : ¬ y < 0) (h2 : y ≤ 2) (n0 : ¬ y = 0) (n1 : ¬ y = 1) : y = 2 := by
  obtain ⟨k, hk, rfl⟩ := nI_of2 (M := 2) (n := 2) (by decide) h0 h2
  rcases (show k = 0 ∨ k = 1 ∨ k = 2 by omega) with rfl | rfl | rfl
  · exact absurd rfl n0
  · exact absurd rfl n1
  · rfl
theorem swp_at {z : St} {i j : Nat} : sc (us (us z 9 i (sc z 9 j)) 9 j (sc z 9 i)) 9 i = sc z 9 j := by
  by_cases h : i = j
  · subst h
    rw [sc_s]
  · rw [sc_i h, sc_s]
theorem fl30z {u : St} {j : Nat} : u 11 (30 * j / 30) (30 * j % 30) = u 11 j 0 := by
  rw [show 30 * j / 30 = j by omega, show 30 * j % 30 = 0 by omega]
