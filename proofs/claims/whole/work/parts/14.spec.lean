/-! WHAT EACH CALL DOES, as functions of the state (one for the class and the reference), and what always holds of a state -/
def ix (x : Int32) (n : Nat) : Option Nat := if x < 0 then none else if nI n ≤ x then none else some x.toNatClampNeg
theorem ix_cases (x : Int32) {n : Nat} (hn : n < 2 ^ 31) : (ix x n = none ∧ (x < 0 ∨ nI n ≤ x)) ∨ ∃ j, j < n ∧ x = nI j ∧ ix x n = some j := by
  rcases pk_ix x hn with h | h | ⟨j, hj, rfl⟩
  · exact Or.inl ⟨if_pos h, Or.inl h⟩
  · by_cases h0 : x < 0
    · exact Or.inl ⟨if_pos h0, Or.inl h0⟩
    · exact Or.inl ⟨(if_neg h0).trans (if_pos h), Or.inr h⟩
  · have h2 : j < 2 ^ 31 := Nat.lt_trans hj hn
    exact Or.inr ⟨j, hj, rfl, (if_neg (nI_pos h2)).trans ((if_neg (nI_ge hj hn)).trans (congrArg some (nI_clamp h2)))⟩
abbrev tn (x : Int32) : Nat := x.toNatClampNeg
abbrev ln (z : St) (j : Nat) : Nat := tn (sc z 10 j)
abbrev fo (z : St) (j : Nat) : Nat := tn (sc z 9 j)
abbrev dk (z : St) (f : Nat) : Nat := tn (sc z 14 f)
abbrev inc (z : St) (k i : Nat) : St := us z k i (sc z k i + 1)
abbrev comes (z : St) (j : Nat) (x : Int32) : St := us (u2 z 11 j (va_up (z 11 j) (ln z j) x)) 10 j (nI (ln z j + 1))
abbrev goes (z : St) (j : Nat) : St := u2 (us z 10 j (nI (ln z j - 1))) 11 j (va_cpy (z 11 j) (z 11 j) 1 0 (ln z j - 1))
def sp_gate (ng : Nat) (z : St) : Int32 × St := if ng = 16 then (-3, z) else (nI ng, us z 0 0 (nI (ng + 1)))
def nx_gate (ng : Nat) : Nat := if ng = 16 then ng else ng + 1
def sp_ramp (nr : Nat) (z : St) (x : Int32) : Int32 × St := if x < 1 then (-2, z) else if 1000 < x then (-2, z) else if nr = 16 then (-3, z) else (nI nr, us (us z 4 nr x) 0 1 (nI (nr + 1)))
def nx_ramp (nr : Nat) (x : Int32) : Nat := if x < 1 then nr else if 1000 < x then nr else if nr = 16 then nr else nr + 1
def sp_berth (nb : Nat) (z : St) (x : Int32) : Int32 × St := if x < 0 then (-2, z) else if 10000 < x then (-2, z) else if nb = 8 then (-3, z) else (nI nb, us (us (us (us (us z 12 nb x) 7 nb (-1)) 8 nb (-1)) 9 nb (nI nb)) 0 2 (nI (nb + 1)))
def nx_berth (nb : Nat) (x : Int32) : Nat := if x < 0 then nb else if 10000 < x then nb else if nb = 8 then nb else nb + 1
def sp_hinge (ng nb : Nat) (z : St) (b g : Int32) : Int32 × St := (ix b nb).elim (-2, z) fun j => if g = -1 then (sc z 7 j, us z 7 j g) else (ix g ng).elim (-2, z) fun _ => (sc z 7 j, us z 7 j g)
def sp_lay (nr nb : Nat) (z : St) (b r : Int32) : Int32 × St := (ix b nb).elim (-2, z) fun j => if r = -1 then (sc z 8 j, us z 8 j r) else (ix r nr).elim (-2, z) fun _ => (sc z 8 j, us z 8 j r)
def sp_shut (ng : Nat) (z : St) (g v : Int32) : Int32 × St := (ix g ng).elim (-2, z) fun j => (sc z 1 j, us z 1 j v)
def sp_arrive (nb : Nat) (z : St) (b x : Int32) : Int32 × St := (ix b nb).elim (-2, z) fun j => if x < 0 then (-2, z) else if 2000 < x then (-2, z) else if ln z j = 30 then (-3, z) else (nI (ln z j + 1), inc (comes z j x) 0 3)
abbrev brd (z : St) (f : Nat) (x : Int32) : St := us (us (u2 z 15 f (va_up (z 15 f) (dk z f) x)) 14 f (nI (dk z f + 1))) 13 f (sc z 13 f + x)
def bl (j g : Nat) (n : Int32) : Nat → Int32 → St → Int32 × St
  | 0, w, z => (w, z)
  | t + 1, w, z => if sc z 8 j = -1 then (-4, z) else
      if z 11 j 0 = 0 then (-6, inc (inc (goes (inc z 6 (tn (sc z 8 j))) j) 0 5) 0 6) else
      if sc z 4 (tn (sc z 8 j)) < z 11 j 0 then bl j g n t w (comes (goes (inc z 6 (tn (sc z 8 j))) j) j (z 11 j 0)) else
      if dk z (fo z j) = 40 then (w, inc z 6 (tn (sc z 8 j))) else
      if sc z 12 (fo z j) < sc z 13 (fo z j) + z 11 j 0 then (w, inc z 6 (tn (sc z 8 j))) else
      if w + 1 = n then (w + 1, us (inc (brd (goes (inc z 6 (tn (sc z 8 j))) j) (fo z j) (z 11 j 0)) 3 g) 5 (tn (sc z 8 j)) (sc z 5 (tn (sc z 8 j)) + z 11 j 0)) else
      bl j g n t (w + 1) (us (inc (brd (goes (inc z 6 (tn (sc z 8 j))) j) (fo z j) (z 11 j 0)) 3 g) 5 (tn (sc z 8 j)) (sc z 5 (tn (sc z 8 j)) + z 11 j 0))
def sp_board (nb : Nat) (z : St) (b n : Int32) : Int32 × St := (ix b nb).elim (-2, z) fun j => if n < 1 then (-2, z) else if 30 < n then (-2, z) else
  if sc z 7 j = -1 then (-4, z) else if sc z 1 (tn (sc z 7 j)) = 0 then bl j (tn (sc z 7 j)) n (ln z j) 0 (inc z 2 (tn (sc z 7 j))) else (-5, inc z 2 (tn (sc z 7 j)))
abbrev lnd (z : St) (f : Nat) : St := us (us z 14 f (nI (dk z f - 1))) 13 f (sc z 13 f - z 15 f (dk z f - 1))
def ll (j r f : Nat) : Nat → Int32 → St → Int32 × St
  | 0, w, z => (w, z)
  | t + 1, w, z => if dk z f = 0 then (w, z) else if sc z 7 j = -1 then (-4, z) else
      if sc z 1 (tn (sc z 7 j)) = 0 then
        if sc z 4 r < z 15 f (dk z f - 1) then (-6, inc (inc z 2 (tn (sc z 7 j))) 0 6) else
        if z 15 f (dk z f - 1) = 0 then ll j r f t (w + 1) (inc (lnd (inc z 2 (tn (sc z 7 j))) f) 0 4) else
        if sc z 4 r / 2 < z 15 f (dk z f - 1) then ll j r f t (w + 1) (inc (lnd (inc z 2 (tn (sc z 7 j))) f) 0 4) else
        ll j r f t (w + 1) (us (inc (inc (lnd (inc z 2 (tn (sc z 7 j))) f) 0 4) 3 (tn (sc z 7 j))) 5 r (sc z 5 r + z 15 f (dk z f - 1)))
      else (w, inc z 2 (tn (sc z 7 j)))
def sp_land (nb : Nat) (z : St) (b n : Int32) : Int32 × St := (ix b nb).elim (-2, z) fun j => if n < 1 then (-2, z) else if 40 < n then (-2, z) else
  if sc z 8 j = -1 then (-4, z) else ll j (tn (sc z 8 j)) (fo z j) (tn n) 0 (inc z 6 (tn (sc z 8 j)))
abbrev swp (z : St) (i j : Nat) : St := us (us z 9 i (sc z 9 j)) 9 j (sc z 9 i)
def sp_swap (nb : Nat) (z : St) (a b : Int32) : Int32 × St := (ix a nb).elim (-2, z) fun i => (ix b nb).elim (-2, z) fun j =>
  if sc z 7 i = -1 then (-4, z) else if sc z 7 j = -1 then (-4, inc z 2 (tn (sc z 7 i))) else
  if sc z 1 (tn (sc z 7 i)) = 0 then if sc z 1 (tn (sc z 7 j)) = 0 then
      (sc z 13 (fo z j), swp (inc (inc z 2 (tn (sc z 7 i))) 2 (tn (sc z 7 j))) i j)
    else (-5, inc (inc z 2 (tn (sc z 7 i))) 2 (tn (sc z 7 j)))
  else (-5, inc (inc z 2 (tn (sc z 7 i))) 2 (tn (sc z 7 j)))
def rl (nb : Nat) : Nat → Nat → Int32 → St → Int32 × St
  | 0, _, w, z => (w, z)
  | t + 1, k, w, z => if nb ≤ k then (w, z) else if sc z 7 k = -1 then (w, z) else
      if sc z 1 (tn (sc z 7 k)) = 0 then rl nb t (k + 1) (w + sc z 13 (fo z k)) (inc z 2 (tn (sc z 7 k))) else (-5, inc (inc z 2 (tn (sc z 7 k))) 0 6)
def sp_round (nb : Nat) (z : St) (b n : Int32) : Int32 × St := (ix b nb).elim (-2, z) fun j => if n < 1 then (-2, z) else if 8 < n then (-2, z) else rl nb (tn n) j 0 z
def sp_tend (nr : Nat) (z : St) (r : Int32) : Int32 × St := (ix r nr).elim (-2, z) fun j => if sc z 5 j = 0 then (-5, inc (inc z 6 j) 0 6) else (sc z 5 j, us (inc z 6 j) 5 j 0)
def sl (i j g : Nat) (n : Int32) : Nat → Int32 → St → Int32 × St
  | 0, _, z => (n, z)
  | t + 1, w, z => if sc z 7 j = -1 then (-4, z) else
      if sc z 1 (tn (sc z 7 j)) = 0 then if ln z j = 30 then (w, inc z 2 (tn (sc z 7 j))) else if ln z i = 0 then (w, inc z 2 (tn (sc z 7 j))) else
        sl i j g n t (w + 1) (inc (inc (comes (goes (inc z 2 (tn (sc z 7 j))) i) j (z 11 i 0)) 3 g) 3 (tn (sc z 7 j)))
      else (w, inc z 2 (tn (sc z 7 j)))
def sp_shift (nb : Nat) (z : St) (b c n : Int32) : Int32 × St := (ix b nb).elim (-2, z) fun i => (ix c nb).elim (-2, z) fun j => if i = j then (-2, z) else if n < 1 then (-2, z) else if 30 < n then (-2, z) else
  if sc z 7 i = -1 then (-4, z) else if sc z 1 (tn (sc z 7 i)) = 0 then sl i j (tn (sc z 7 i)) n (tn n) 0 (inc z 2 (tn (sc z 7 i))) else (-5, inc z 2 (tn (sc z 7 i)))
def sp_state (nb : Nat) (z : St) (b x : Int32) : Int32 := (ix b nb).elim (-2) fun j => if x = 0 then sc z 7 j else if x = 1 then sc z 8 j else if x = 2 then sc z 10 j else if x = 3 then sc z 14 (fo z j) else if x = 4 then sc z 13 (fo z j) else if x = 5 then sc z 12 (fo z j) else -2
def sp_waiting (nb : Nat) (z : St) (b x : Int32) : Int32 := (ix b nb).elim (-2) fun j => if x < 0 then -1 else if sc z 10 j ≤ x then -1 else z 11 j (tn x)
def sp_aboard (nb : Nat) (z : St) (b x : Int32) : Int32 := (ix b nb).elim (-2) fun j => if x < 0 then -1 else if sc z 14 (fo z j) ≤ x then -1 else z 15 (fo z j) (tn x)
def sp_ofGate (ng : Nat) (z : St) (g x : Int32) : Int32 := (ix g ng).elim (-2) fun j => if x = 0 then sc z 2 j else if x = 1 then sc z 3 j else if x = 2 then sc z 1 j else -2
def sp_ofRamp (nr : Nat) (z : St) (r x : Int32) : Int32 := (ix r nr).elim (-2) fun j => if x = 0 then sc z 6 j else if x = 1 then sc z 5 j else if x = 2 then sc z 4 j else -2
def sp_count (z : St) (x : Int32) : Int32 := if x = 0 then sc z 0 0 else if x = 1 then sc z 0 1 else if x = 2 then sc z 0 2 else if x = 3 then sc z 0 3 else if x = 4 then sc z 0 4 else if x = 5 then sc z 0 5 else if x = 6 then sc z 0 6 else -2
/-! what always holds -/
def rOK (f : Nat → Nat → Int32) (m n : Nat) : Prop := ∀ i, i < n → (f i 0 = -1 ∨ ∃ g, g < m ∧ f i 0 = nI g)
def iOK (f : Nat → Nat → Int32) (m n : Nat) : Prop := ∀ i, i < n → ∃ g, g < m ∧ f i 0 = nI g
def bOK (f : Nat → Nat → Int32) : Prop := ∀ i, f i 0 = 0 ∨ f i 0 = 1
def zOK (f : Nat → Nat → Int32) (n : Nat) : Prop := ∀ i, n ≤ i → f i 0 = 0
def wOK (f : Nat → Nat → Int32) (n : Nat) : Prop := ∀ i, n ≤ i → f i = fun _ => 0
def Inv (z : St) (ng nr nb : Nat) : Prop :=
  (ng ≤ 16 ∧ nr ≤ 16 ∧ nb ≤ 8 ∧ sc z 0 0 = nI ng ∧ sc z 0 1 = nI nr ∧ sc z 0 2 = nI nb) ∧ rOK (z 7) ng nb ∧ rOK (z 8) nr nb ∧ iOK (z 9) nb nb ∧ iOK (z 10) 31 nb ∧ iOK (z 14) 41 nb ∧ bOK (z 1) ∧
  zOK (z 1) ng ∧ zOK (z 2) ng ∧ zOK (z 3) ng ∧ zOK (z 5) nr ∧ zOK (z 6) nr ∧ zOK (z 10) nb ∧ zOK (z 13) nb ∧ zOK (z 14) nb ∧ wOK (z 11) nb ∧ wOK (z 15) nb
section INV
variable {z : St} {ng nr nb : Nat}
theorem rOK.up {f : Nat → Nat → Int32} {m n i : Nat} {v : Int32} (h : rOK f m n) (hv : v = -1 ∨ ∃ g, g < m ∧ v = nI g) : rOK (va_up f i (fun _ => v)) m n := by
  intro j hj
  by_cases hji : j = i
  · subst hji
    rw [va_up_self]
    exact hv
  · rw [va_up_ne _ _ hji]
    exact h j hj
theorem iOK.up {f : Nat → Nat → Int32} {m n i : Nat} {v : Int32} (h : iOK f m n) (hv : ∃ g, g < m ∧ v = nI g) : iOK (va_up f i (fun _ => v)) m n := by
  intro j hj
  by_cases hji : j = i
  · subst hji
    rw [va_up_self]
    exact hv
  · rw [va_up_ne _ _ hji]
    exact h j hj
theorem bOK.up {f : Nat → Nat → Int32} {i : Nat} {v : Int32} (h : bOK f) (hv : v = 0 ∨ v = 1) : bOK (va_up f i (fun _ => v)) := by
  intro j
  by_cases hji : j = i
  · subst hji
    rw [va_up_self]
    exact hv
  · rw [va_up_ne _ _ hji]
    exact h j
theorem zOK.up {f : Nat → Nat → Int32} {n i : Nat} {r : Nat → Int32} (h : zOK f n) (hi : i < n) : zOK (va_up f i r) n := by
  intro j hj
  rw [va_up_ne _ _ (by omega)]
  exact h j hj
theorem wOK.up {f : Nat → Nat → Int32} {n i : Nat} {r : Nat → Int32} (h : wOK f n) (hi : i < n) : wOK (va_up f i r) n := by
  intro j hj
  rw [va_up_ne _ _ (by omega)]
  exact h j hj
theorem Inv.mg (h : Inv z ng nr nb) : ng ≤ 16 := h.1.1
theorem Inv.mr (h : Inv z ng nr nb) : nr ≤ 16 := h.1.2.1
theorem Inv.mb (h : Inv z ng nr nb) : nb ≤ 8 := h.1.2.2.1
theorem Inv.ng2 (h : Inv z ng nr nb) : ng < 2 ^ 31 := by have := h.mg; omega
theorem Inv.nr2 (h : Inv z ng nr nb) : nr < 2 ^ 31 := by have := h.mr; omega
theorem Inv.nb2 (h : Inv z ng nr nb) : nb < 2 ^ 31 := by have := h.mb; omega
theorem Inv.s0 (h : Inv z ng nr nb) : sc z 0 0 = nI ng := h.1.2.2.2.1
theorem Inv.s1 (h : Inv z ng nr nb) : sc z 0 1 = nI nr := h.1.2.2.2.2.1
theorem Inv.s2 (h : Inv z ng nr nb) : sc z 0 2 = nI nb := h.1.2.2.2.2.2
theorem Inv.c7 (h : Inv z ng nr nb) : rOK (z 7) ng nb := h.2.1
theorem Inv.c8 (h : Inv z ng nr nb) : rOK (z 8) nr nb := h.2.2.1
theorem Inv.c9 (h : Inv z ng nr nb) : iOK (z 9) nb nb := h.2.2.2.1
theorem Inv.c10 (h : Inv z ng nr nb) : iOK (z 10) 31 nb := h.2.2.2.2.1
theorem Inv.c14 (h : Inv z ng nr nb) : iOK (z 14) 41 nb := h.2.2.2.2.2.1
theorem Inv.b1 (h : Inv z ng nr nb) : bOK (z 1) := h.2.2.2.2.2.2.1
theorem Inv.z1 (h : Inv z ng nr nb) : zOK (z 1) ng := h.2.2.2.2.2.2.2.1
theorem Inv.z2 (h : Inv z ng nr nb) : zOK (z 2) ng := h.2.2.2.2.2.2.2.2.1
theorem Inv.z3 (h : Inv z ng nr nb) : zOK (z 3) ng := h.2.2.2.2.2.2.2.2.2.1
theorem Inv.z5 (h : Inv z ng nr nb) : zOK (z 5) nr := h.2.2.2.2.2.2.2.2.2.2.1
theorem Inv.z6 (h : Inv z ng nr nb) : zOK (z 6) nr := h.2.2.2.2.2.2.2.2.2.2.2.1
theorem Inv.z10 (h : Inv z ng nr nb) : zOK (z 10) nb := h.2.2.2.2.2.2.2.2.2.2.2.2.1
theorem Inv.z13 (h : Inv z ng nr nb) : zOK (z 13) nb := h.2.2.2.2.2.2.2.2.2.2.2.2.2.1
theorem Inv.z14 (h : Inv z ng nr nb) : zOK (z 14) nb := h.2.2.2.2.2.2.2.2.2.2.2.2.2.2.1
theorem Inv.w11 (h : Inv z ng nr nb) : wOK (z 11) nb := h.2.2.2.2.2.2.2.2.2.2.2.2.2.2.2.1
theorem Inv.w15 (h : Inv z ng nr nb) : wOK (z 15) nb := h.2.2.2.2.2.2.2.2.2.2.2.2.2.2.2.2
theorem Inv.p1 (h : Inv z ng nr nb) {i : Nat} {v : Int32} (hi : i < ng) (hv : v = 0 ∨ v = 1) : Inv (us z 1 i v) ng nr nb := ⟨h.1, h.c7, h.c8, h.c9, h.c10, h.c14, (h.b1.up hv), (h.z1.up hi), h.z2, h.z3, h.z5, h.z6, h.z10, h.z13, h.z14, h.w11, h.w15⟩
theorem Inv.p2 (h : Inv z ng nr nb) {i : Nat} {v : Int32} (hi : i < ng) : Inv (us z 2 i v) ng nr nb := ⟨h.1, h.c7, h.c8, h.c9, h.c10, h.c14, h.b1, h.z1, (h.z2.up hi), h.z3, h.z5, h.z6, h.z10, h.z13, h.z14, h.w11, h.w15⟩
theorem Inv.p3 (h : Inv z ng nr nb) {i : Nat} {v : Int32} (hi : i < ng) : Inv (us z 3 i v) ng nr nb := ⟨h.1, h.c7, h.c8, h.c9, h.c10, h.c14, h.b1, h.z1, h.z2, (h.z3.up hi), h.z5, h.z6, h.z10, h.z13, h.z14, h.w11, h.w15⟩
theorem Inv.p5 (h : Inv z ng nr nb) {i : Nat} {v : Int32} (hi : i < nr) : Inv (us z 5 i v) ng nr nb := ⟨h.1, h.c7, h.c8, h.c9, h.c10, h.c14, h.b1, h.z1, h.z2, h.z3, (h.z5.up hi), h.z6, h.z10, h.z13, h.z14, h.w11, h.w15⟩
theorem Inv.p6 (h : Inv z ng nr nb) {i : Nat} {v : Int32} (hi : i < nr) : Inv (us z 6 i v) ng nr nb := ⟨h.1, h.c7, h.c8, h.c9, h.c10, h.c14, h.b1, h.z1, h.z2, h.z3, h.z5, (h.z6.up hi), h.z10, h.z13, h.z14, h.w11, h.w15⟩
theorem Inv.p13 (h : Inv z ng nr nb) {i : Nat} {v : Int32} (hi : i < nb) : Inv (us z 13 i v) ng nr nb := ⟨h.1, h.c7, h.c8, h.c9, h.c10, h.c14, h.b1, h.z1, h.z2, h.z3, h.z5, h.z6, h.z10, (h.z13.up hi), h.z14, h.w11, h.w15⟩
theorem Inv.p4 (h : Inv z ng nr nb) {i : Nat} {v : Int32} : Inv (us z 4 i v) ng nr nb := ⟨h.1, h.c7, h.c8, h.c9, h.c10, h.c14, h.b1, h.z1, h.z2, h.z3, h.z5, h.z6, h.z10, h.z13, h.z14, h.w11, h.w15⟩
theorem Inv.p12 (h : Inv z ng nr nb) {i : Nat} {v : Int32} : Inv (us z 12 i v) ng nr nb := ⟨h.1, h.c7, h.c8, h.c9, h.c10, h.c14, h.b1, h.z1, h.z2, h.z3, h.z5, h.z6, h.z10, h.z13, h.z14, h.w11, h.w15⟩
theorem Inv.p7 (h : Inv z ng nr nb) {i : Nat} {v : Int32} (hv : v = -1 ∨ ∃ g, g < ng ∧ v = nI g) : Inv (us z 7 i v) ng nr nb := ⟨h.1, (h.c7.up hv), h.c8, h.c9, h.c10, h.c14, h.b1, h.z1, h.z2, h.z3, h.z5, h.z6, h.z10, h.z13, h.z14, h.w11, h.w15⟩
theorem Inv.p8 (h : Inv z ng nr nb) {i : Nat} {v : Int32} (hv : v = -1 ∨ ∃ g, g < nr ∧ v = nI g) : Inv (us z 8 i v) ng nr nb := ⟨h.1, h.c7, (h.c8.up hv), h.c9, h.c10, h.c14, h.b1, h.z1, h.z2, h.z3, h.z5, h.z6, h.z10, h.z13, h.z14, h.w11, h.w15⟩
theorem Inv.p9 (h : Inv z ng nr nb) {i : Nat} {v : Int32} (hv : ∃ g, g < nb ∧ v = nI g) : Inv (us z 9 i v) ng nr nb := ⟨h.1, h.c7, h.c8, (h.c9.up hv), h.c10, h.c14, h.b1, h.z1, h.z2, h.z3, h.z5, h.z6, h.z10, h.z13, h.z14, h.w11, h.w15⟩
theorem Inv.p10 (h : Inv z ng nr nb) {i : Nat} {v : Int32} (hi : i < nb) (hv : ∃ g, g < 31 ∧ v = nI g) : Inv (us z 10 i v) ng nr nb := ⟨h.1, h.c7, h.c8, h.c9, (h.c10.up hv), h.c14, h.b1, h.z1, h.z2, h.z3, h.z5, h.z6, (h.z10.up hi), h.z13, h.z14, h.w11, h.w15⟩
theorem Inv.p14 (h : Inv z ng nr nb) {i : Nat} {v : Int32} (hi : i < nb) (hv : ∃ g, g < 41 ∧ v = nI g) : Inv (us z 14 i v) ng nr nb := ⟨h.1, h.c7, h.c8, h.c9, h.c10, (h.c14.up hv), h.b1, h.z1, h.z2, h.z3, h.z5, h.z6, h.z10, h.z13, (h.z14.up hi), h.w11, h.w15⟩
theorem Inv.p11 (h : Inv z ng nr nb) {i : Nat} {r : Nat → Int32} (hi : i < nb) : Inv (u2 z 11 i r) ng nr nb := ⟨h.1, h.c7, h.c8, h.c9, h.c10, h.c14, h.b1, h.z1, h.z2, h.z3, h.z5, h.z6, h.z10, h.z13, h.z14, (h.w11.up hi), h.w15⟩
theorem Inv.p15 (h : Inv z ng nr nb) {i : Nat} {r : Nat → Int32} (hi : i < nb) : Inv (u2 z 15 i r) ng nr nb := ⟨h.1, h.c7, h.c8, h.c9, h.c10, h.c14, h.b1, h.z1, h.z2, h.z3, h.z5, h.z6, h.z10, h.z13, h.z14, h.w11, (h.w15.up hi)⟩
theorem Inv.t3 (h : Inv z ng nr nb) {v : Int32} : Inv (us z 0 3 v) ng nr nb := ⟨h.1, h.c7, h.c8, h.c9, h.c10, h.c14, h.b1, h.z1, h.z2, h.z3, h.z5, h.z6, h.z10, h.z13, h.z14, h.w11, h.w15⟩
theorem Inv.t4 (h : Inv z ng nr nb) {v : Int32} : Inv (us z 0 4 v) ng nr nb := ⟨h.1, h.c7, h.c8, h.c9, h.c10, h.c14, h.b1, h.z1, h.z2, h.z3, h.z5, h.z6, h.z10, h.z13, h.z14, h.w11, h.w15⟩
theorem Inv.t5 (h : Inv z ng nr nb) {v : Int32} : Inv (us z 0 5 v) ng nr nb := ⟨h.1, h.c7, h.c8, h.c9, h.c10, h.c14, h.b1, h.z1, h.z2, h.z3, h.z5, h.z6, h.z10, h.z13, h.z14, h.w11, h.w15⟩
theorem Inv.t6 (h : Inv z ng nr nb) {v : Int32} : Inv (us z 0 6 v) ng nr nb := ⟨h.1, h.c7, h.c8, h.c9, h.c10, h.c14, h.b1, h.z1, h.z2, h.z3, h.z5, h.z6, h.z10, h.z13, h.z14, h.w11, h.w15⟩
theorem Inv.gate (h : Inv z ng nr nb) {j : Nat} (hj : j < nb) : sc z 7 j = -1 ∨ ∃ g, g < ng ∧ sc z 7 j = nI g ∧ tn (sc z 7 j) = g := by
  rcases h.c7 j hj with q | ⟨g, hg, q⟩
  · exact Or.inl q
  · exact Or.inr ⟨g, hg, q, by have := h.ng2; show (z 7 j 0).toNatClampNeg = g; rw [q]; exact nI_clamp (by omega)⟩
theorem Inv.ramp (h : Inv z ng nr nb) {j : Nat} (hj : j < nb) : sc z 8 j = -1 ∨ ∃ g, g < nr ∧ sc z 8 j = nI g ∧ tn (sc z 8 j) = g := by
  rcases h.c8 j hj with q | ⟨g, hg, q⟩
  · exact Or.inl q
  · exact Or.inr ⟨g, hg, q, by have := h.nr2; show (z 8 j 0).toNatClampNeg = g; rw [q]; exact nI_clamp (by omega)⟩
theorem Inv.ferry (h : Inv z ng nr nb) {j : Nat} (hj : j < nb) : ∃ g, g < nb ∧ sc z 9 j = nI g ∧ fo z j = g := by
  obtain ⟨g, hg, q⟩ := h.c9 j hj
  exact ⟨g, hg, q, by have := h.nb2; show (z 9 j 0).toNatClampNeg = g; rw [q]; exact nI_clamp (by omega)⟩
theorem Inv.lane (h : Inv z ng nr nb) {j : Nat} (hj : j < nb) : ln z j ≤ 30 ∧ sc z 10 j = nI (ln z j) := by
  obtain ⟨g, hg, q⟩ := h.c10 j hj
  have e : ln z j = g := by show (z 10 j 0).toNatClampNeg = g; rw [q]; exact nI_clamp (by omega)
  exact ⟨by omega, by rw [e]; exact q⟩
theorem Inv.deck (h : Inv z ng nr nb) {j : Nat} (hj : j < nb) : dk z j ≤ 40 ∧ sc z 14 j = nI (dk z j) := by
  obtain ⟨g, hg, q⟩ := h.c14 j hj
  have e : dk z j = g := by show (z 14 j 0).toNatClampNeg = g; rw [q]; exact nI_clamp (by omega)
  exact ⟨by omega, by rw [e]; exact q⟩
theorem Inv.cm (h : Inv z ng nr nb) {j : Nat} {x : Int32} (hj : j < nb) (hn : ln z j < 30) : Inv (comes z j x) ng nr nb := (h.p11 hj).p10 hj ⟨ln z j + 1, by omega, rfl⟩
theorem Inv.gs (h : Inv z ng nr nb) {j : Nat} (hj : j < nb) : Inv (goes z j) ng nr nb := (h.p10 hj ⟨ln z j - 1, by have := (h.lane hj).1; omega, rfl⟩).p11 hj
theorem Inv.bd (h : Inv z ng nr nb) {f : Nat} {x : Int32} (hf : f < nb) (hn : dk z f < 40) : Inv (brd z f x) ng nr nb := ((h.p15 hf).p14 hf ⟨dk z f + 1, by omega, rfl⟩).p13 hf
theorem Inv.ld (h : Inv z ng nr nb) {f : Nat} (hf : f < nb) : Inv (lnd z f) ng nr nb := (h.p14 hf ⟨dk z f - 1, by have := (h.deck hf).1; omega, rfl⟩).p13 hf
end INV
