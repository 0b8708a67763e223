/-! what always holds goes on holding -/
theorem rOK.mono {f : Nat → Nat → Int32} {m m' n : Nat} (h : rOK f m n) (hm : m ≤ m') : rOK f m' n := fun i hi => by
  rcases h i hi with q | ⟨g, hg, q⟩
  · exact Or.inl q
  · exact Or.inr ⟨g, by omega, q⟩
theorem zOK.mono {f : Nat → Nat → Int32} {n n' : Nat} (h : zOK f n) (hn : n ≤ n') : zOK f n' := fun i hi => h i (by omega)
theorem wOK.mono {f : Nat → Nat → Int32} {n n' : Nat} (h : wOK f n) (hn : n ≤ n') : wOK f n' := fun i hi => h i (by omega)
theorem ix_some {x : Int32} {n j : Nat} (hn : n < 2 ^ 31) (h : ix x n = some j) : j < n ∧ x = nI j := by
  rcases ix_cases x hn with ⟨q, -⟩ | ⟨k, hk, e, q⟩
  · rw [q] at h
    cases h
  · rw [q] at h
    cases h
    exact ⟨hk, e⟩
section IV
variable {z : St} {ng nr nb : Nat}
theorem iv_gate (hI : Inv z ng nr nb) : Inv (sp_gate ng z).2 (nx_gate ng) nr nb := by
  unfold sp_gate nx_gate
  by_cases h : ng = 16
  · rw [if_pos h, if_pos h]
    exact hI
  · rw [if_neg h, if_neg h]
    have hm := hI.mg
    exact ⟨⟨by omega, hI.mr, hI.mb, rfl, hI.s1, hI.s2⟩, hI.c7.mono (by omega), hI.c8, hI.c9, hI.c10, hI.c14, hI.b1, hI.z1.mono (by omega), hI.z2.mono (by omega), hI.z3.mono (by omega), hI.z5, hI.z6, hI.z10, hI.z13, hI.z14, hI.w11, hI.w15⟩
theorem iv_ramp (hI : Inv z ng nr nb) (x : Int32) : Inv (sp_ramp nr z x).2 ng (nx_ramp nr x) nb := by
  unfold sp_ramp nx_ramp
  by_cases h1 : x < 1
  · rw [if_pos h1, if_pos h1]
    exact hI
  by_cases h2 : 1000 < x
  · rw [if_neg h1, if_neg h1, if_pos h2, if_pos h2]
    exact hI
  by_cases h : nr = 16
  · rw [if_neg h1, if_neg h1, if_neg h2, if_neg h2, if_pos h, if_pos h]
    exact hI
  · rw [if_neg h1, if_neg h1, if_neg h2, if_neg h2, if_neg h, if_neg h]
    have hm := hI.mr
    exact ⟨⟨hI.mg, by omega, hI.mb, hI.s0, rfl, hI.s2⟩, hI.c7, hI.c8.mono (by omega), hI.c9, hI.c10, hI.c14, hI.b1, hI.z1, hI.z2, hI.z3, hI.z5.mono (by omega), hI.z6.mono (by omega), hI.z10, hI.z13, hI.z14, hI.w11, hI.w15⟩
theorem iv_berth (hI : Inv z ng nr nb) (x : Int32) : Inv (sp_berth nb z x).2 ng nr (nx_berth nb x) := by
  unfold sp_berth nx_berth
  by_cases h1 : x < 0
  · rw [if_pos h1, if_pos h1]
    exact hI
  by_cases h2 : 10000 < x
  · rw [if_neg h1, if_neg h1, if_pos h2, if_pos h2]
    exact hI
  by_cases h : nb = 8
  · rw [if_neg h1, if_neg h1, if_neg h2, if_neg h2, if_pos h, if_pos h]
    exact hI
  · rw [if_neg h1, if_neg h1, if_neg h2, if_neg h2, if_neg h, if_neg h]
    have hm := hI.mb
    refine ⟨⟨hI.mg, hI.mr, by omega, hI.s0, hI.s1, rfl⟩, ?_, ?_, ?_, ?_, ?_, hI.b1, hI.z1, hI.z2, hI.z3, hI.z5, hI.z6, hI.z10.mono (by omega), hI.z13.mono (by omega), hI.z14.mono (by omega), hI.w11.mono (by omega), hI.w15.mono (by omega)⟩
    · intro i hi
      show va_up (z 7) nb (fun _ => -1) i 0 = -1 ∨ _
      by_cases q : i = nb
      · subst q
        rw [va_up_self]
        exact Or.inl rfl
      · show _ ∨ ∃ g, g < ng ∧ va_up (z 7) nb (fun _ => -1) i 0 = nI g
        rw [va_up_ne _ _ q]
        exact hI.c7 i (by omega)
    · intro i hi
      show va_up (z 8) nb (fun _ => -1) i 0 = -1 ∨ _
      by_cases q : i = nb
      · subst q
        rw [va_up_self]
        exact Or.inl rfl
      · show _ ∨ ∃ g, g < nr ∧ va_up (z 8) nb (fun _ => -1) i 0 = nI g
        rw [va_up_ne _ _ q]
        exact hI.c8 i (by omega)
    · intro i hi
      show ∃ g, g < nb + 1 ∧ va_up (z 9) nb (fun _ => nI nb) i 0 = nI g
      by_cases q : i = nb
      · subst q
        rw [va_up_self]
        exact ⟨i, by omega, rfl⟩
      · rw [va_up_ne _ _ q]
        obtain ⟨g, hg, e⟩ := hI.c9 i (by omega)
        exact ⟨g, by omega, e⟩
    · intro i hi
      show ∃ g, g < 31 ∧ z 10 i 0 = nI g
      by_cases q : i = nb
      · exact ⟨0, by omega, hI.z10 i (by omega)⟩
      · exact hI.c10 i (by omega)
    · intro i hi
      show ∃ g, g < 41 ∧ z 14 i 0 = nI g
      by_cases q : i = nb
      · exact ⟨0, by omega, hI.z14 i (by omega)⟩
      · exact hI.c14 i (by omega)
theorem iv_hinge (hI : Inv z ng nr nb) (x y : Int32) : Inv (sp_hinge ng nb z x y).2 ng nr nb := by
  unfold sp_hinge
  cases h : ix x nb with
  | none => exact hI
  | some j =>
    dsimp only [Option.elim]
    by_cases h1 : y = -1
    · rw [if_pos h1]
      exact hI.p7 (Or.inl h1)
    · rw [if_neg h1]
      cases h2 : ix y ng with
      | none => exact hI
      | some k => exact hI.p7 (Or.inr ⟨k, (ix_some hI.ng2 h2).1, (ix_some hI.ng2 h2).2⟩)
theorem iv_lay (hI : Inv z ng nr nb) (x y : Int32) : Inv (sp_lay nr nb z x y).2 ng nr nb := by
  unfold sp_lay
  cases h : ix x nb with
  | none => exact hI
  | some j =>
    dsimp only [Option.elim]
    by_cases h1 : y = -1
    · rw [if_pos h1]
      exact hI.p8 (Or.inl h1)
    · rw [if_neg h1]
      cases h2 : ix y nr with
      | none => exact hI
      | some k => exact hI.p8 (Or.inr ⟨k, (ix_some hI.nr2 h2).1, (ix_some hI.nr2 h2).2⟩)
theorem iv_shut (hI : Inv z ng nr nb) (x v : Int32) (hv : v = 0 ∨ v = 1) : Inv (sp_shut ng z x v).2 ng nr nb := by
  unfold sp_shut
  cases h : ix x ng with
  | none => exact hI
  | some j => exact hI.p1 (ix_some hI.ng2 h).1 hv
theorem iv_arrive (hI : Inv z ng nr nb) (x y : Int32) : Inv (sp_arrive nb z x y).2 ng nr nb := by
  unfold sp_arrive
  cases h : ix x nb with
  | none => exact hI
  | some j =>
    have hj := (ix_some hI.nb2 h).1
    have hl := (hI.lane hj).1
    dsimp only [Option.elim]
    by_cases h1 : y < 0
    · rw [if_pos h1]
      exact hI
    by_cases h2 : 2000 < y
    · rw [if_neg h1, if_pos h2]
      exact hI
    by_cases h3 : ln z j = 30
    · rw [if_neg h1, if_neg h2, if_pos h3]
      exact hI
    · rw [if_neg h1, if_neg h2, if_neg h3]
      exact (hI.cm hj (by omega)).t3
theorem iv_tend (hI : Inv z ng nr nb) (x : Int32) : Inv (sp_tend nr z x).2 ng nr nb := by
  unfold sp_tend
  cases h : ix x nr with
  | none => exact hI
  | some j =>
    have hj := (ix_some hI.nr2 h).1
    dsimp only [Option.elim]
    by_cases h1 : sc z 5 j = 0
    · rw [if_pos h1]
      exact (hI.p6 hj).t6
    · rw [if_neg h1]
      exact (hI.p6 hj).p5 hj
theorem iv_bl {j g : Nat} {n : Int32} (hj : j < nb) (hg : g < ng) : ∀ (t : Nat) (w : Int32) (z : St), Inv z ng nr nb → t ≤ ln z j → Inv (bl j g n t w z).2 ng nr nb := by
  intro t
  induction t with
  | zero =>
    intro w z hI _
    exact hI
  | succ t ih =>
    intro w z hI hle
    rw [bl]
    by_cases h1 : sc z 8 j = -1
    · rw [if_pos h1]
      exact hI
    rcases hI.ramp hj with h | ⟨r, hr, hR, hRt⟩
    · exact absurd h h1
    obtain ⟨f, hf, hF, hFt⟩ := hI.ferry hj
    have hL := (hI.lane hj).1
    have hD := (hI.deck hf).1
    rw [if_neg h1, hRt, hFt]
    have h6 : Inv (inc z 6 r) ng nr nb := hI.p6 hr
    have hgs := h6.gs hj
    have lg : ln (goes (inc z 6 r) j) j = ln z j - 1 := ln_goes (z := inc z 6 r) (by show ln z j < 2 ^ 31; omega)
    by_cases h2 : z 11 j 0 = 0
    · rw [if_pos h2]
      exact hgs.t5.t6
    rw [if_neg h2]
    by_cases h3 : sc z 4 r < z 11 j 0
    · rw [if_pos h3]
      refine ih _ _ (hgs.cm hj (by rw [lg]; omega)) ?_
      rw [ln_comes (by rw [lg]; omega), lg]
      omega
    rw [if_neg h3]
    by_cases h4 : dk z f = 40
    · rw [if_pos h4]
      exact h6
    rw [if_neg h4]
    by_cases h5 : sc z 12 f < sc z 13 f + z 11 j 0
    · rw [if_pos h5]
      exact h6
    rw [if_neg h5]
    have hq := ((hgs.bd (x := z 11 j 0) hf (by show dk z f < 40; omega)).p3 (v := sc z 3 g + 1) hg).p5 (v := sc z 5 r + z 11 j 0) hr
    by_cases h7 : w + 1 = n
    · rw [if_pos h7]
      exact hq
    · rw [if_neg h7]
      refine ih _ _ hq ?_
      show t ≤ ln (goes (inc z 6 r) j) j
      rw [lg]
      omega
theorem iv_board (hI : Inv z ng nr nb) (x n : Int32) : Inv (sp_board nb z x n).2 ng nr nb := by
  unfold sp_board
  cases h : ix x nb with
  | none => exact hI
  | some j =>
    have hj := (ix_some hI.nb2 h).1
    dsimp only [Option.elim]
    by_cases h1 : n < 1
    · rw [if_pos h1]
      exact hI
    by_cases h2 : 30 < n
    · rw [if_neg h1, if_pos h2]
      exact hI
    by_cases h3 : sc z 7 j = -1
    · rw [if_neg h1, if_neg h2, if_pos h3]
      exact hI
    rcases hI.gate hj with q | ⟨g, hg, hG, hGt⟩
    · exact absurd q h3
    rw [if_neg h1, if_neg h2, if_neg h3, hGt]
    by_cases h4 : sc z 1 g = 0
    · rw [if_pos h4]
      exact iv_bl hj hg _ _ _ (hI.p2 hg) (Nat.le_refl _)
    · rw [if_neg h4]
      exact hI.p2 hg
theorem iv_ll {j r f : Nat} (hj : j < nb) (hr : r < nr) (hf : f < nb) : ∀ (t : Nat) (w : Int32) (z : St), Inv z ng nr nb → Inv (ll j r f t w z).2 ng nr nb := by
  intro t
  induction t with
  | zero =>
    intro w z hI
    exact hI
  | succ t ih =>
    intro w z hI
    rw [ll]
    by_cases h1 : dk z f = 0
    · rw [if_pos h1]
      exact hI
    by_cases h2 : sc z 7 j = -1
    · rw [if_neg h1, if_pos h2]
      exact hI
    rcases hI.gate hj with q | ⟨g, hg, hG, hGt⟩
    · exact absurd q h2
    rw [if_neg h1, if_neg h2, hGt]
    have h6 : Inv (inc z 2 g) ng nr nb := hI.p2 hg
    have hq := (h6.ld hf).t4 (v := sc (lnd (inc z 2 g) f) 0 4 + 1)
    by_cases h3 : sc z 1 g = 0
    · rw [if_pos h3]
      by_cases h4 : sc z 4 r < z 15 f (dk z f - 1)
      · rw [if_pos h4]
        exact h6.t6
      rw [if_neg h4]
      by_cases h5 : z 15 f (dk z f - 1) = 0
      · rw [if_pos h5]
        exact ih _ _ hq
      rw [if_neg h5]
      by_cases h7 : sc z 4 r / 2 < z 15 f (dk z f - 1)
      · rw [if_pos h7]
        exact ih _ _ hq
      · rw [if_neg h7]
        exact ih _ _ ((hq.p3 hg).p5 hr)
    · rw [if_neg h3]
      exact h6
theorem iv_land (hI : Inv z ng nr nb) (x n : Int32) : Inv (sp_land nb z x n).2 ng nr nb := by
  unfold sp_land
  cases h : ix x nb with
  | none => exact hI
  | some j =>
    have hj := (ix_some hI.nb2 h).1
    dsimp only [Option.elim]
    by_cases h1 : n < 1
    · rw [if_pos h1]
      exact hI
    by_cases h2 : 40 < n
    · rw [if_neg h1, if_pos h2]
      exact hI
    by_cases h3 : sc z 8 j = -1
    · rw [if_neg h1, if_neg h2, if_pos h3]
      exact hI
    rcases hI.ramp hj with q | ⟨r, hr, hR, hRt⟩
    · exact absurd q h3
    obtain ⟨f, hf, hF, hFt⟩ := hI.ferry hj
    rw [if_neg h1, if_neg h2, if_neg h3, hRt, hFt]
    exact iv_ll hj hr hf _ _ _ (hI.p6 hr)
theorem iv_swap (hI : Inv z ng nr nb) (x y : Int32) : Inv (sp_swap nb z x y).2 ng nr nb := by
  unfold sp_swap
  cases h : ix x nb with
  | none => exact hI
  | some i =>
    have hi := (ix_some hI.nb2 h).1
    dsimp only [Option.elim]
    cases h' : ix y nb with
    | none => exact hI
    | some j =>
      have hj := (ix_some hI.nb2 h').1
      dsimp only [Option.elim]
      by_cases h1 : sc z 7 i = -1
      · rw [if_pos h1]
        exact hI
      rcases hI.gate hi with q | ⟨g, hg, hG, hGt⟩
      · exact absurd q h1
      by_cases h2 : sc z 7 j = -1
      · rw [if_neg h1, if_pos h2, hGt]
        exact hI.p2 hg
      rcases hI.gate hj with q | ⟨k, hk, hE, hEt⟩
      · exact absurd q h2
      rw [if_neg h1, if_neg h2, hGt, hEt]
      have h6 : Inv (inc (inc z 2 g) 2 k) ng nr nb := (hI.p2 hg).p2 hk
      by_cases h3 : sc z 1 g = 0
      · rw [if_pos h3]
        by_cases h4 : sc z 1 k = 0
        · rw [if_pos h4]
          exact (h6.p9 (h6.c9 j hj)).p9 (h6.c9 i hi)
        · rw [if_neg h4]
          exact h6
      · rw [if_neg h3]
        exact h6
theorem iv_rl : ∀ (t k : Nat) (w : Int32) (z : St), Inv z ng nr nb → Inv (rl nb t k w z).2 ng nr nb := by
  intro t
  induction t with
  | zero =>
    intro k w z hI
    exact hI
  | succ t ih =>
    intro k w z hI
    rw [rl]
    by_cases h1 : nb ≤ k
    · rw [if_pos h1]
      exact hI
    by_cases h2 : sc z 7 k = -1
    · rw [if_neg h1, if_pos h2]
      exact hI
    rcases hI.gate (show k < nb by omega) with q | ⟨g, hg, hG, hGt⟩
    · exact absurd q h2
    rw [if_neg h1, if_neg h2, hGt]
    by_cases h3 : sc z 1 g = 0
    · rw [if_pos h3]
      exact ih _ _ _ (hI.p2 hg)
    · rw [if_neg h3]
      exact (hI.p2 hg).t6
theorem iv_round (hI : Inv z ng nr nb) (x n : Int32) : Inv (sp_round nb z x n).2 ng nr nb := by
  unfold sp_round
  cases h : ix x nb with
  | none => exact hI
  | some j =>
    dsimp only [Option.elim]
    by_cases h1 : n < 1
    · rw [if_pos h1]
      exact hI
    by_cases h2 : 8 < n
    · rw [if_neg h1, if_pos h2]
      exact hI
    rw [if_neg h1, if_neg h2]
    exact iv_rl _ _ _ _ hI
theorem iv_sl {i j g : Nat} {n : Int32} (hi : i < nb) (hj : j < nb) (hij : i ≠ j) (hg : g < ng) : ∀ (t : Nat) (w : Int32) (z : St), Inv z ng nr nb → Inv (sl i j g n t w z).2 ng nr nb := by
  intro t
  induction t with
  | zero =>
    intro w z hI
    exact hI
  | succ t ih =>
    intro w z hI
    rw [sl]
    by_cases h2 : sc z 7 j = -1
    · rw [if_pos h2]
      exact hI
    rcases hI.gate hj with q | ⟨h, hh, hG, hGt⟩
    · exact absurd q h2
    rw [if_neg h2, hGt]
    have hL := (hI.lane hj).1
    have h6 : Inv (inc z 2 h) ng nr nb := hI.p2 hh
    have lj : ln (goes (inc z 2 h) i) j = ln z j := congrArg tn (show sc (us (inc z 2 h) 10 i (nI (ln (inc z 2 h) i - 1))) 10 j = _ from sc_i (fun q => hij q.symm))
    by_cases h3 : sc z 1 h = 0
    · rw [if_pos h3]
      by_cases h4 : ln z j = 30
      · rw [if_pos h4]
        exact h6
      rw [if_neg h4]
      by_cases h5 : ln z i = 0
      · rw [if_pos h5]
        exact h6
      · rw [if_neg h5]
        exact ih _ _ ((((h6.gs hi).cm hj (by rw [lj]; omega)).p3 hg).p3 hh)
    · rw [if_neg h3]
      exact h6
theorem iv_shift (hI : Inv z ng nr nb) (x y n : Int32) : Inv (sp_shift nb z x y n).2 ng nr nb := by
  unfold sp_shift
  cases h : ix x nb with
  | none => exact hI
  | some i =>
    have hi := (ix_some hI.nb2 h).1
    dsimp only [Option.elim]
    cases h' : ix y nb with
    | none => exact hI
    | some j =>
      have hj := (ix_some hI.nb2 h').1
      dsimp only [Option.elim]
      by_cases h0 : i = j
      · rw [if_pos h0]
        exact hI
      by_cases h1 : n < 1
      · rw [if_neg h0, if_pos h1]
        exact hI
      by_cases h2 : 30 < n
      · rw [if_neg h0, if_neg h1, if_pos h2]
        exact hI
      by_cases h3 : sc z 7 i = -1
      · rw [if_neg h0, if_neg h1, if_neg h2, if_pos h3]
        exact hI
      rcases hI.gate hi with q | ⟨g, hg, hG, hGt⟩
      · exact absurd q h3
      rw [if_neg h0, if_neg h1, if_neg h2, if_neg h3, hGt]
      by_cases h4 : sc z 1 g = 0
      · rw [if_pos h4]
        exact iv_sl hi hj h0 hg _ _ _ (hI.p2 hg)
      · rw [if_neg h4]
        exact hI.p2 hg
theorem iv_0 : Inv z0 0 0 0 := ⟨⟨by decide, by decide, by decide, rfl, rfl, rfl⟩, fun i h => by omega, fun i h => by omega, fun i h => by omega, fun i h => by omega, fun i h => by omega, fun i => Or.inl rfl, fun i _ => rfl, fun i _ => rfl, fun i _ => rfl, fun i _ => rfl, fun i _ => rfl, fun i _ => rfl, fun i _ => rfl, fun i _ => rfl, fun i _ => rfl, fun i _ => rfl⟩
end IV
