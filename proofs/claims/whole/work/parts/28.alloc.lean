section EX
variable {Y : YT} {ng nr nb : Nat} {s u : St} {ad : Nat → Nat → Nat}
theorem Ew_gateN {i : Nat} (h : ¬ i < ng) : Ew Y ng nr nb s u ad 1 i = none := if_neg h
theorem Ew_rampN {i : Nat} (h : ¬ i < nr) : Ew Y ng nr nb s u ad 2 i = none := if_neg h
theorem Ew_berth2N {i : Nat} (h : ¬ i < nb) : Ew Y ng nr nb s u ad 3 i = none := if_neg h
theorem Ew_laneN {i : Nat} (h : ¬ i < nb) : Ew Y ng nr nb s u ad 4 i = none := if_neg h
theorem Ew_larrN {i : Nat} (h : ¬ i < nb) : Ew Y ng nr nb s u ad 5 i = none := if_neg h
theorem Ew_ferryN {i : Nat} (h : ¬ i < nb) : Ew Y ng nr nb s u ad 6 i = none := if_neg h
theorem Ew_frowN {i : Nat} (h : ¬ i < nb) : Ew Y ng nr nb s u ad 7 i = none := if_neg h
theorem Ew_farrN {i : Nat} (h : ¬ i < nb) : Ew Y ng nr nb s u ad 8 i = none := if_neg h
theorem Ew_05 {i : Nat} : Ew Y ng nr nb s u ad 0 (i + 5) = none := rfl
theorem Ew_ext {E' : Nat → Nat → Option va_E} (h00 : E' 0 0 = some (cFQ s ad)) (h01 : E' 0 1 = some (refs Y.2.2.1 16 ng (ad 1))) (h02 : E' 0 2 = some (refs Y.2.2.2.1 16 nr (ad 2))) (h03 : E' 0 3 = some (refs Y.2.2.2.2 8 nb (ad 3))) (h04 : E' 0 4 = some (cMO u ad)) (h05 : ∀ i, E' 0 (i + 5) = none) (h1 : ∀ i, i < ng → E' 1 i = some (cGate s i)) (n1 : ∀ i, ¬ i < ng → E' 1 i = none) (h2 : ∀ i, i < nr → E' 2 i = some (cRamp s i)) (n2 : ∀ i, ¬ i < nr → E' 2 i = none) (h3 : ∀ i, i < nb → E' 3 i = some (cBerth s ad i)) (n3 : ∀ i, ¬ i < nb → E' 3 i = none) (h4 : ∀ i, i < nb → E' 4 i = some (cLane s ad i)) (n4 : ∀ i, ¬ i < nb → E' 4 i = none) (h5 : ∀ i, i < nb → E' 5 i = some (.inl (Y.1, 30, .inl (s 11 i)))) (n5 : ∀ i, ¬ i < nb → E' 5 i = none) (h6 : ∀ i, i < nb → E' 6 i = some (cFerry s ad i)) (n6 : ∀ i, ¬ i < nb → E' 6 i = none) (h7 : ∀ i, i < nb → E' 7 i = some (cFrow s ad i)) (n7 : ∀ i, ¬ i < nb → E' 7 i = none) (h8 : ∀ i, i < nb → E' 8 i = some (.inl (Y.1, 40, .inl (s 15 i)))) (n8 : ∀ i, ¬ i < nb → E' 8 i = none) (h9 : ∀ i, E' 9 i = Ew Y ng nr nb s u ad 9 i) (h10 : ∀ k i, E' (k + 10) i = none) : E' = Ew Y ng nr nb s u ad := by
  funext k i
  match k with
  | 0 => match i with
    | 0 => exact h00
    | 1 => exact h01
    | 2 => exact h02
    | 3 => exact h03
    | 4 => exact h04
    | _ + 5 => exact (h05 _).trans Ew_05.symm
  | 1 =>
    by_cases h : i < ng
    · exact (h1 i h).trans (Ew_gate h).symm
    · exact (n1 i h).trans (Ew_gateN h).symm
  | 2 =>
    by_cases h : i < nr
    · exact (h2 i h).trans (Ew_ramp h).symm
    · exact (n2 i h).trans (Ew_rampN h).symm
  | 3 =>
    by_cases h : i < nb
    · exact (h3 i h).trans (Ew_berth h).symm
    · exact (n3 i h).trans (Ew_berth2N h).symm
  | 4 =>
    by_cases h : i < nb
    · exact (h4 i h).trans (Ew_lane h).symm
    · exact (n4 i h).trans (Ew_laneN h).symm
  | 5 =>
    by_cases h : i < nb
    · exact (h5 i h).trans (Ew_larr h).symm
    · exact (n5 i h).trans (Ew_larrN h).symm
  | 6 =>
    by_cases h : i < nb
    · exact (h6 i h).trans (Ew_ferry h).symm
    · exact (n6 i h).trans (Ew_ferryN h).symm
  | 7 =>
    by_cases h : i < nb
    · exact (h7 i h).trans (Ew_frow h).symm
    · exact (n7 i h).trans (Ew_frowN h).symm
  | 8 =>
    by_cases h : i < nb
    · exact (h8 i h).trans (Ew_farr h).symm
    · exact (n8 i h).trans (Ew_farrN h).symm
  | 9 => exact h9 i
  | _ + 10 => exact (h10 _ _).trans Ew_k10.symm
theorem cMO_ad {ad' : Nat → Nat → Nat} (h : ad' 9 = ad 9) : cMO u ad' = cMO u ad := by
  unfold cMO
  rw [h]
theorem cFQ_ad {ad' : Nat → Nat → Nat} (h1 : ad' 0 = ad 0) : cFQ s ad' = cFQ s ad := by
  unfold cFQ
  rw [h1]
theorem cBerth_eq {s' : St} {ad' : Nat → Nat → Nat} {i : Nat} (h4 : ad' 4 i = ad 4 i) (h6 : ad' 6 (sc s 9 i).toNatClampNeg = ad 6 (sc s 9 i).toNatClampNeg) (e9 : sc s' 9 i = sc s 9 i) (e7 : sc s' 7 i = sc s 7 i) (e8 : sc s' 8 i = sc s 8 i) (o1 : oref (sc s 7 i) (ad' 1) = oref (sc s 7 i) (ad 1)) (o2 : oref (sc s 8 i) (ad' 2) = oref (sc s 8 i) (ad 2)) : cBerth s' ad' i = cBerth s ad i := by
  unfold cBerth
  rw [h4, e9, e7, e8, h6, o1, o2]
theorem oref_up {x : Int32} {m : Nat} {f : Nat → Nat} {q : Nat} (hm : m < 2 ^ 31) (h : x = -1 ∨ ∃ g, g < m ∧ x = nI g) : oref x (va_up f m q) = oref x f := by
  rcases h with rfl | ⟨g, hg, rfl⟩
  · rfl
  · rw [oref_s (by omega), oref_s (by omega), va_up_ne _ _ (by omega)]
theorem refs_up {f : Nat → Nat} {m q : Nat} : va_up (fun j => if j < m then some (f j) else none) m (some q) = fun j => if j < m + 1 then some (va_up f m q j) else none := by
  funext j
  by_cases h : j = m
  · subst h
    rw [va_up_self, if_pos (by omega), va_up_self]
  · rw [va_up_ne _ _ h, va_up_ne _ _ h]
    by_cases h2 : j < m
    · rw [if_pos h2, if_pos (by omega)]
    · rw [if_neg h2, if_neg (by omega)]
theorem Ew_mall {s' : St} {ng' nr' nb' : Nat} {ad' : Nat → Nat → Nat} {i : Nat} : Ew Y ng nr nb s u ad 9 i = Ew Y ng' nr' nb' s' u ad' 9 i := by
  match i with
  | 0 => exact (Ew_m0 (s := s)).trans (Ew_m0 (s := s')).symm
  | 1 => exact (Ew_m1 (s := s)).trans (Ew_m1 (s := s')).symm
  | 2 => exact (Ew_m2 (s := s)).trans (Ew_m2 (s := s')).symm
  | 3 => exact (Ew_m3 (s := s)).trans (Ew_m3 (s := s')).symm
  | 4 => exact (Ew_m4 (s := s)).trans (Ew_m4 (s := s')).symm
  | 5 => exact (Ew_m5 (s := s)).trans (Ew_m5 (s := s')).symm
  | 6 => exact (Ew_m6 (s := s)).trans (Ew_m6 (s := s')).symm
  | 7 => exact (Ew_m7 (s := s)).trans (Ew_m7 (s := s')).symm
  | 8 => exact (Ew_m8 (s := s)).trans (Ew_m8 (s := s')).symm
  | 9 => exact (Ew_m9 (s := s)).trans (Ew_m9 (s := s')).symm
  | 10 => exact (Ew_m10 (s := s)).trans (Ew_m10 (s := s')).symm
  | 11 => exact (Ew_m11 (s := s)).trans (Ew_m11 (s := s')).symm
  | 12 => exact (Ew_m12 (s := s)).trans (Ew_m12 (s := s')).symm
  | 13 => exact (Ew_m13 (s := s)).trans (Ew_m13 (s := s')).symm
  | 14 => exact (Ew_m14 (s := s)).trans (Ew_m14 (s := s')).symm
  | 15 => exact (Ew_m15 (s := s)).trans (Ew_m15 (s := s')).symm
  | _ + 16 => exact (Ew_m16 (s := s)).trans (Ew_m16 (s := s')).symm
theorem Ea_gate {a : Nat → Nat → Nat} {q : Nat}  (hI : Inv s ng nr nb) (ha : a = u2 ad 1 ng q) : u2 (u2 (u2 (u2 (Ew Y ng nr nb s u ad) 1 ng (some (.inr (2, [.int 0, .int 0, .int 0, .int 0])))) 1 ng (some (.inr (2, [.int (nI ng), .int 0, .int 0, .int 0])))) 0 1 (some (.inl (Y.2.2.1, 16, .inr (.inr (.inr (.inr (va_up (fun j => if j < ng then some (ad 1 j) else none) ng (some (a 1 ng)))))))))) 0 0 (some (.inr (5, [.ref (ad 0 1), .ref (ad 0 2), .ref (ad 0 3), .int (nI (ng + 1)), .int (sc s 0 1), .int (sc s 0 2), .int (sc s 0 3), .int (sc s 0 4), .int (sc s 0 5), .int (sc s 0 6)]))) = Ew Y (ng + 1) nr nb (us s 0 0 (nI (ng + 1))) u a := by
  have ak : ∀ k, k ≠ 1 → a k = ad k := fun k hk => by rw [ha]; exact u2_k hk
  have a1 : a 1 = va_up (ad 1) ng q := by rw [ha]; simp [u2, va_up]
  have aq : a 1 ng = q := by rw [ha]; exact u2_self
  have hmg := hI.mg
  generalize hE : u2 (u2 (u2 (u2 (Ew Y ng nr nb s u ad) 1 ng (some (.inr (2, [.int 0, .int 0, .int 0, .int 0])))) 1 ng (some (.inr (2, [.int (nI ng), .int 0, .int 0, .int 0])))) 0 1 (some (.inl (Y.2.2.1, 16, .inr (.inr (.inr (.inr (va_up (fun j => if j < ng then some (ad 1 j) else none) ng (some (a 1 ng)))))))))) 0 0 (some (.inr (5, [.ref (ad 0 1), .ref (ad 0 2), .ref (ad 0 3), .int (nI (ng + 1)), .int (sc s 0 1), .int (sc s 0 2), .int (sc s 0 3), .int (sc s 0 4), .int (sc s 0 5), .int (sc s 0 6)]))) = E'
  have hk : ∀ k, k ≠ 0 → k ≠ 1 → ∀ i, E' k i = Ew Y ng nr nb s u ad k i := fun k h0 h1 i => by rw [← hE, u2_at h0, u2_at h0, u2_at h1, u2_at h1]
  have hk0 : ∀ i, i ≠ 0 → i ≠ 1 → E' 0 i = Ew Y ng nr nb s u ad 0 i := fun i h0 h1 => by rw [← hE, u2_i h0, u2_i h1, u2_at (by decide), u2_at (by decide)]
  have hkn : ∀ i, i ≠ ng → E' 1 i = Ew Y ng nr nb s u ad 1 i := fun i h1 => by rw [← hE, u2_at (by decide), u2_at (by decide), u2_i h1, u2_i h1]
  have hks : E' 1 ng = some (.inr (2, [.int (nI ng), .int 0, .int 0, .int 0])) := by rw [← hE, u2_at (by decide), u2_at (by decide), u2_self]
  refine Ew_ext (s := us s 0 0 (nI (ng + 1))) (ad := a) ?_ ?_ ?_ ?_ ?_ ?_ ?_ ?_ ?_ ?_ ?_ ?_ ?_ ?_ ?_ ?_ ?_ ?_ ?_ ?_ ?_ ?_ ?_ ?_
  · rw [← hE, u2_self, cFQ_ad (ak 0 (by decide))]
    rfl
  · rw [← hE, u2_i (by decide), u2_self, aq, refs_up, a1]
  · rw [hk0 2 (by decide) (by decide), ak 2 (by decide)]
    rfl
  · rw [hk0 3 (by decide) (by decide), ak 3 (by decide)]
    rfl
  · rw [hk0 4 (by decide) (by decide), cMO_ad (ak 9 (by decide))]
    rfl
  · intro i
    rw [hk0 (i + 5) (by omega) (by omega)]
    rfl
  · intro i hi
    by_cases h : i = ng
    · subst h
      rw [hks]
      have e1 : sc s 1 i = 0 := hI.z1 i (Nat.le_refl _)
      have e2 : sc s 2 i = 0 := hI.z2 i (Nat.le_refl _)
      have e3 : sc s 3 i = 0 := hI.z3 i (Nat.le_refl _)
      show _ = (some (.inr (2, [.int (nI i), .int (sc s 1 i), .int (sc s 2 i), .int (sc s 3 i)])) : Option va_E)
      rw [e1, e2, e3]
    · rw [hkn i h, Ew_gate (by omega)]
      rfl
  · intro i hi
    rw [hkn i (by omega)]
    exact Ew_gateN (by omega)
  · intro i hi
    rw [hk 2 (by decide) (by decide), Ew_ramp hi]
    rfl
  · intro i hi
    rw [hk 2 (by decide) (by decide)]
    exact Ew_rampN hi
  · intro i hi
    rw [hk 3 (by decide) (by decide), Ew_berth hi]
    exact congrArg some (cBerth_eq (by rw [ak 4 (by decide)]) (by rw [ak 6 (by decide)]) rfl rfl rfl (by rw [a1]; exact oref_up hI.ng2 (hI.c7 i hi)) (by rw [ak 2 (by decide)])).symm
  · intro i hi
    rw [hk 3 (by decide) (by decide)]
    exact Ew_berth2N hi
  · intro i hi
    rw [hk 4 (by decide) (by decide), Ew_lane hi]
    unfold cLane
    rw [ak 5 (by decide)]
    rfl
  · intro i hi
    rw [hk 4 (by decide) (by decide)]
    exact Ew_laneN hi
  · intro i hi
    rw [hk 5 (by decide) (by decide), Ew_larr hi]
    rfl
  · intro i hi
    rw [hk 5 (by decide) (by decide)]
    exact Ew_larrN hi
  · intro i hi
    rw [hk 6 (by decide) (by decide), Ew_ferry hi]
    unfold cFerry
    rw [ak 7 (by decide)]
    rfl
  · intro i hi
    rw [hk 6 (by decide) (by decide)]
    exact Ew_ferryN hi
  · intro i hi
    rw [hk 7 (by decide) (by decide), Ew_frow hi]
    unfold cFrow
    rw [ak 8 (by decide)]
    rfl
  · intro i hi
    rw [hk 7 (by decide) (by decide)]
    exact Ew_frowN hi
  · intro i hi
    rw [hk 8 (by decide) (by decide), Ew_farr hi]
    rfl
  · intro i hi
    rw [hk 8 (by decide) (by decide)]
    exact Ew_farrN hi
  · intro i
    rw [hk 9 (by decide) (by decide)]
    exact Ew_mall
  · intro k i
    rw [hk (k + 10) (by omega) (by omega)]
    exact Ew_k10
theorem Ea_ramp {a : Nat → Nat → Nat} {q : Nat} {x : Int32} (hI : Inv s ng nr nb) (ha : a = u2 ad 2 nr q) : u2 (u2 (u2 (u2 (Ew Y ng nr nb s u ad) 2 nr (some (.inr (3, [.int 0, .int 0, .int 0, .int 0])))) 2 nr (some (.inr (3, [.int (nI nr), .int x, .int 0, .int 0])))) 0 2 (some (.inl (Y.2.2.2.1, 16, .inr (.inr (.inr (.inr (va_up (fun j => if j < nr then some (ad 2 j) else none) nr (some (a 2 nr)))))))))) 0 0 (some (.inr (5, [.ref (ad 0 1), .ref (ad 0 2), .ref (ad 0 3), .int (sc s 0 0), .int (nI (nr + 1)), .int (sc s 0 2), .int (sc s 0 3), .int (sc s 0 4), .int (sc s 0 5), .int (sc s 0 6)]))) = Ew Y ng (nr + 1) nb (us (us s 4 nr x) 0 1 (nI (nr + 1))) u a := by
  have ak : ∀ k, k ≠ 2 → a k = ad k := fun k hk => by rw [ha]; exact u2_k hk
  have a1 : a 2 = va_up (ad 2) nr q := by rw [ha]; simp [u2, va_up]
  have aq : a 2 nr = q := by rw [ha]; exact u2_self
  have hmr := hI.mr
  generalize hE : u2 (u2 (u2 (u2 (Ew Y ng nr nb s u ad) 2 nr (some (.inr (3, [.int 0, .int 0, .int 0, .int 0])))) 2 nr (some (.inr (3, [.int (nI nr), .int x, .int 0, .int 0])))) 0 2 (some (.inl (Y.2.2.2.1, 16, .inr (.inr (.inr (.inr (va_up (fun j => if j < nr then some (ad 2 j) else none) nr (some (a 2 nr)))))))))) 0 0 (some (.inr (5, [.ref (ad 0 1), .ref (ad 0 2), .ref (ad 0 3), .int (sc s 0 0), .int (nI (nr + 1)), .int (sc s 0 2), .int (sc s 0 3), .int (sc s 0 4), .int (sc s 0 5), .int (sc s 0 6)]))) = E'
  have hk : ∀ k, k ≠ 0 → k ≠ 2 → ∀ i, E' k i = Ew Y ng nr nb s u ad k i := fun k h0 h1 i => by rw [← hE, u2_at h0, u2_at h0, u2_at h1, u2_at h1]
  have hk0 : ∀ i, i ≠ 0 → i ≠ 2 → E' 0 i = Ew Y ng nr nb s u ad 0 i := fun i h0 h1 => by rw [← hE, u2_i h0, u2_i h1, u2_at (by decide), u2_at (by decide)]
  have hkn : ∀ i, i ≠ nr → E' 2 i = Ew Y ng nr nb s u ad 2 i := fun i h1 => by rw [← hE, u2_at (by decide), u2_at (by decide), u2_i h1, u2_i h1]
  have hks : E' 2 nr = some (.inr (3, [.int (nI nr), .int x, .int 0, .int 0])) := by rw [← hE, u2_at (by decide), u2_at (by decide), u2_self]
  refine Ew_ext (s := us (us s 4 nr x) 0 1 (nI (nr + 1))) (ad := a) ?_ ?_ ?_ ?_ ?_ ?_ ?_ ?_ ?_ ?_ ?_ ?_ ?_ ?_ ?_ ?_ ?_ ?_ ?_ ?_ ?_ ?_ ?_ ?_
  · rw [← hE, u2_self, cFQ_ad (ak 0 (by decide))]
    rfl
  · rw [hk0 1 (by decide) (by decide), ak 1 (by decide)]
    rfl
  · rw [← hE, u2_i (by decide), u2_self, aq, refs_up, a1]
  · rw [hk0 3 (by decide) (by decide), ak 3 (by decide)]
    rfl
  · rw [hk0 4 (by decide) (by decide), cMO_ad (ak 9 (by decide))]
    rfl
  · intro i
    rw [hk0 (i + 5) (by omega) (by omega)]
    rfl
  · intro i hi
    rw [hk 1 (by decide) (by decide), Ew_gate hi]
    rfl
  · intro i hi
    rw [hk 1 (by decide) (by decide)]
    exact Ew_gateN hi
  · intro i hi
    by_cases h : i = nr
    · subst h
      rw [hks]
      have e1 : sc (us (us s 4 i x) 0 1 (nI (i + 1))) 4 i = x := (sc_k (by decide)).trans sc_s
      have e2 : sc s 6 i = 0 := hI.z6 i (Nat.le_refl _)
      have e3 : sc s 5 i = 0 := hI.z5 i (Nat.le_refl _)
      show _ = (some (.inr (3, [.int (nI i), .int (sc (us (us s 4 i x) 0 1 (nI (i + 1))) 4 i), .int (sc s 6 i), .int (sc s 5 i)])) : Option va_E)
      rw [e1, e2, e3]
    · rw [hkn i h, Ew_ramp (by omega)]
      have e1 : sc (us (us s 4 nr x) 0 1 (nI (nr + 1))) 4 i = sc s 4 i := (sc_k (by decide)).trans (sc_i h)
      show _ = (some (.inr (3, [.int (nI i), .int (sc (us (us s 4 nr x) 0 1 (nI (nr + 1))) 4 i), .int (sc s 6 i), .int (sc s 5 i)])) : Option va_E)
      rw [e1]
  · intro i hi
    rw [hkn i (by omega)]
    exact Ew_rampN (by omega)
  · intro i hi
    rw [hk 3 (by decide) (by decide), Ew_berth hi]
    exact congrArg some (cBerth_eq (by rw [ak 4 (by decide)]) (by rw [ak 6 (by decide)]) rfl rfl rfl (by rw [ak 1 (by decide)]) (by rw [a1]; exact oref_up hI.nr2 (hI.c8 i hi))).symm
  · intro i hi
    rw [hk 3 (by decide) (by decide)]
    exact Ew_berth2N hi
  · intro i hi
    rw [hk 4 (by decide) (by decide), Ew_lane hi]
    unfold cLane
    rw [ak 5 (by decide)]
    rfl
  · intro i hi
    rw [hk 4 (by decide) (by decide)]
    exact Ew_laneN hi
  · intro i hi
    rw [hk 5 (by decide) (by decide), Ew_larr hi]
    rfl
  · intro i hi
    rw [hk 5 (by decide) (by decide)]
    exact Ew_larrN hi
  · intro i hi
    rw [hk 6 (by decide) (by decide), Ew_ferry hi]
    unfold cFerry
    rw [ak 7 (by decide)]
    rfl
  · intro i hi
    rw [hk 6 (by decide) (by decide)]
    exact Ew_ferryN hi
  · intro i hi
    rw [hk 7 (by decide) (by decide), Ew_frow hi]
    unfold cFrow
    rw [ak 8 (by decide)]
    rfl
  · intro i hi
    rw [hk 7 (by decide) (by decide)]
    exact Ew_frowN hi
  · intro i hi
    rw [hk 8 (by decide) (by decide), Ew_farr hi]
    rfl
  · intro i hi
    rw [hk 8 (by decide) (by decide)]
    exact Ew_farrN hi
  · intro i
    rw [hk 9 (by decide) (by decide)]
    exact Ew_mall
  · intro k i
    rw [hk (k + 10) (by omega) (by omega)]
    exact Ew_k10
theorem Ea_berth {a : Nat → Nat → Nat} {x : Int32} {q3 q4 q5 q6 q7 q8 : Nat} (hI : Inv s ng nr nb) (ha : a = u2 (u2 (u2 (u2 (u2 (u2 ad 3 nb q3) 4 nb q4) 5 nb q5) 6 nb q6) 7 nb q7) 8 nb q8) : u2 (u2 (berE Y (u2 (Ew Y ng nr nb s u ad) 3 nb (some (.inr (0, [.null, .null, .null, .null])))) nb x a) 0 3 (some (.inl (Y.2.2.2.2, 8, .inr (.inr (.inr (.inr (va_up (fun j => if j < nb then some (ad 3 j) else none) nb (some (a 3 nb)))))))))) 0 0 (some (.inr (5, [.ref (ad 0 1), .ref (ad 0 2), .ref (ad 0 3), .int (sc s 0 0), .int (sc s 0 1), .int (nI (nb + 1)), .int (sc s 0 3), .int (sc s 0 4), .int (sc s 0 5), .int (sc s 0 6)]))) = Ew Y ng nr (nb + 1) (us (us (us (us (us s 12 nb x) 7 nb (-1)) 8 nb (-1)) 9 nb (nI nb)) 0 2 (nI (nb + 1))) u a := by
  have ak : ∀ k, k ≠ 3 → k ≠ 4 → k ≠ 5 → k ≠ 6 → k ≠ 7 → k ≠ 8 → a k = ad k := fun k h3 h4 h5 h6 h7 h8 => by rw [ha, u2_k h8, u2_k h7, u2_k h6, u2_k h5, u2_k h4, u2_k h3]
  have ai : ∀ k i, i ≠ nb → a k i = ad k i := fun k i hi => by
    have hne : ∀ k', ¬ (k = k' ∧ i = nb) := fun k' h => hi h.2
    rw [ha, u2_ne (hne 8), u2_ne (hne 7), u2_ne (hne 6), u2_ne (hne 5), u2_ne (hne 4), u2_ne (hne 3)]
  have a3 : a 3 = va_up (ad 3) nb (a 3 nb) := by
    funext i
    by_cases h : i = nb
    · subst h
      rw [va_up_self]
    · rw [va_up_ne _ _ h, ai 3 i h]
  have hmb := hI.mb
  generalize hE : u2 (u2 (berE Y (u2 (Ew Y ng nr nb s u ad) 3 nb (some (.inr (0, [.null, .null, .null, .null])))) nb x a) 0 3 (some (.inl (Y.2.2.2.2, 8, .inr (.inr (.inr (.inr (va_up (fun j => if j < nb then some (ad 3 j) else none) nb (some (a 3 nb)))))))))) 0 0 (some (.inr (5, [.ref (ad 0 1), .ref (ad 0 2), .ref (ad 0 3), .int (sc s 0 0), .int (sc s 0 1), .int (nI (nb + 1)), .int (sc s 0 3), .int (sc s 0 4), .int (sc s 0 5), .int (sc s 0 6)]))) = E'
  dsimp only [berE, ferE, rowE] at hE
  have hk : ∀ k, k ≠ 0 → k ≠ 3 → k ≠ 4 → k ≠ 5 → k ≠ 6 → k ≠ 7 → k ≠ 8 → ∀ i, E' k i = Ew Y ng nr nb s u ad k i := fun k h0 h3 h4 h5 h6 h7 h8 i => by rw [← hE, u2_at h0, u2_at h0, u2_at h3, u2_at h6, u2_at h7, u2_at h8, u2_at h7, u2_at h6, u2_at h6, u2_at h3, u2_at h4, u2_at h5, u2_at h4, u2_at h3]
  have hk0 : ∀ i, i ≠ 0 → i ≠ 3 → E' 0 i = Ew Y ng nr nb s u ad 0 i := fun i h0 h1 => by rw [← hE, u2_i h0, u2_i h1, u2_at (by decide), u2_at (by decide), u2_at (by decide), u2_at (by decide), u2_at (by decide), u2_at (by decide), u2_at (by decide), u2_at (by decide), u2_at (by decide), u2_at (by decide), u2_at (by decide), u2_at (by decide)]
  have hkn : ∀ k, k ≠ 0 → ∀ i, i ≠ nb → E' k i = Ew Y ng nr nb s u ad k i := fun k h0 i hi => by
    have hne : ∀ k', ¬ (k = k' ∧ i = nb) := fun k' h => hi h.2
    rw [← hE, u2_at h0, u2_at h0, u2_ne (hne 3), u2_ne (hne 6), u2_ne (hne 7), u2_ne (hne 8), u2_ne (hne 7), u2_ne (hne 6), u2_ne (hne 6), u2_ne (hne 3), u2_ne (hne 4), u2_ne (hne 5), u2_ne (hne 4), u2_ne (hne 3)]
  have s3 : E' 3 nb = some (.inr (0, [.ref (a 4 nb), .ref (a 6 nb), .null, .null])) := by rw [← hE, u2_at (by decide), u2_at (by decide), u2_self]
  have s4 : E' 4 nb = some (.inr (4, [.ref (a 5 nb), .int 0])) := by rw [← hE, u2_at (by decide), u2_at (by decide), u2_at (by decide), u2_at (by decide), u2_at (by decide), u2_at (by decide), u2_at (by decide), u2_at (by decide), u2_at (by decide), u2_at (by decide), u2_self]
  have s5 : E' 5 nb = some (.inl (Y.1, 30, .inl (fun _ => 0))) := by rw [← hE, u2_at (by decide), u2_at (by decide), u2_at (by decide), u2_at (by decide), u2_at (by decide), u2_at (by decide), u2_at (by decide), u2_at (by decide), u2_at (by decide), u2_at (by decide), u2_at (by decide), u2_self]
  have s6 : E' 6 nb = some (.inr (1, [.int x, .ref (a 7 nb), .int 0])) := by rw [← hE, u2_at (by decide), u2_at (by decide), u2_at (by decide), u2_self]
  have s7 : E' 7 nb = some (.inr (4, [.ref (a 8 nb), .int 0])) := by rw [← hE, u2_at (by decide), u2_at (by decide), u2_at (by decide), u2_at (by decide), u2_self]
  have s8 : E' 8 nb = some (.inl (Y.1, 40, .inl (fun _ => 0))) := by rw [← hE, u2_at (by decide), u2_at (by decide), u2_at (by decide), u2_at (by decide), u2_at (by decide), u2_self]
  refine Ew_ext (s := us (us (us (us (us s 12 nb x) 7 nb (-1)) 8 nb (-1)) 9 nb (nI nb)) 0 2 (nI (nb + 1))) (ad := a) ?_ ?_ ?_ ?_ ?_ ?_ ?_ ?_ ?_ ?_ ?_ ?_ ?_ ?_ ?_ ?_ ?_ ?_ ?_ ?_ ?_ ?_ ?_ ?_
  · rw [← hE, u2_self, cFQ_ad (ak 0 (by decide) (by decide) (by decide) (by decide) (by decide) (by decide))]
    rfl
  · rw [hk0 1 (by decide) (by decide), ak 1 (by decide) (by decide) (by decide) (by decide) (by decide) (by decide)]
    rfl
  · rw [hk0 2 (by decide) (by decide), ak 2 (by decide) (by decide) (by decide) (by decide) (by decide) (by decide)]
    rfl
  · rw [← hE, u2_i (by decide), u2_self, refs_up, ← a3]
  · rw [hk0 4 (by decide) (by decide), cMO_ad (ak 9 (by decide) (by decide) (by decide) (by decide) (by decide) (by decide))]
    rfl
  · intro i
    rw [hk0 (i + 5) (by omega) (by omega)]
    rfl
  · intro i hi
    rw [hk 1 (by decide) (by decide) (by decide) (by decide) (by decide) (by decide) (by decide), Ew_gate hi]
    rfl
  · intro i hi
    rw [hk 1 (by decide) (by decide) (by decide) (by decide) (by decide) (by decide) (by decide)]
    exact Ew_gateN hi
  · intro i hi
    rw [hk 2 (by decide) (by decide) (by decide) (by decide) (by decide) (by decide) (by decide), Ew_ramp hi]
    rfl
  · intro i hi
    rw [hk 2 (by decide) (by decide) (by decide) (by decide) (by decide) (by decide) (by decide)]
    exact Ew_rampN hi
  · intro i hi
    by_cases h : i = nb
    · subst h
      have e9 : sc (us (us (us (us (us s 12 i x) 7 i (-1)) 8 i (-1)) 9 i (nI i)) 0 2 (nI (i + 1))) 9 i = nI i := (sc_k (by decide)).trans sc_s
      have e7 : sc (us (us (us (us (us s 12 i x) 7 i (-1)) 8 i (-1)) 9 i (nI i)) 0 2 (nI (i + 1))) 7 i = -1 := (sc_k (by decide)).trans ((sc_k (by decide)).trans ((sc_k (by decide)).trans sc_s))
      have e8 : sc (us (us (us (us (us s 12 i x) 7 i (-1)) 8 i (-1)) 9 i (nI i)) 0 2 (nI (i + 1))) 8 i = -1 := (sc_k (by decide)).trans ((sc_k (by decide)).trans sc_s)
      rw [s3, cBerth_of e9 e7 e8, orefN rfl, orefN rfl, nI_clamp (by omega)]
    · rw [hkn 3 (by decide) i h, Ew_berth (by omega)]
      obtain ⟨f, hf, hF, hFt⟩ := hI.ferry (show i < nb by omega)
      have e9 : sc (us (us (us (us (us s 12 nb x) 7 nb (-1)) 8 nb (-1)) 9 nb (nI nb)) 0 2 (nI (nb + 1))) 9 i = sc s 9 i := (sc_k (by decide)).trans ((sc_i h).trans ((sc_k (by decide)).trans ((sc_k (by decide)).trans (sc_k (by decide)))))
      have e7 : sc (us (us (us (us (us s 12 nb x) 7 nb (-1)) 8 nb (-1)) 9 nb (nI nb)) 0 2 (nI (nb + 1))) 7 i = sc s 7 i := (sc_k (by decide)).trans ((sc_k (by decide)).trans ((sc_k (by decide)).trans ((sc_i h).trans (sc_k (by decide)))))
      have e8 : sc (us (us (us (us (us s 12 nb x) 7 nb (-1)) 8 nb (-1)) 9 nb (nI nb)) 0 2 (nI (nb + 1))) 8 i = sc s 8 i := (sc_k (by decide)).trans ((sc_k (by decide)).trans ((sc_i h).trans ((sc_k (by decide)).trans (sc_k (by decide)))))
      exact congrArg some (cBerth_eq (ai 4 i h) (ai 6 _ (by rw [show (sc s 9 i).toNatClampNeg = f from hFt]; omega)) e9 e7 e8 (by rw [ak 1 (by decide) (by decide) (by decide) (by decide) (by decide) (by decide)]) (by rw [ak 2 (by decide) (by decide) (by decide) (by decide) (by decide) (by decide)])).symm
  · intro i hi
    rw [hkn 3 (by decide) i (by omega)]
    exact Ew_berth2N (by omega)
  · intro i hi
    by_cases h : i = nb
    · subst h
      have e : sc s 10 i = 0 := hI.z10 i (Nat.le_refl _)
      rw [s4]
      show _ = (some (.inr (4, [.ref (a 5 i), .int (sc s 10 i)])) : Option va_E)
      rw [e]
    · rw [hkn 4 (by decide) i h, Ew_lane (by omega)]
      unfold cLane
      rw [ai 5 i h]
      rfl
  · intro i hi
    rw [hkn 4 (by decide) i (by omega)]
    exact Ew_laneN (by omega)
  · intro i hi
    by_cases h : i = nb
    · subst h
      have e : s 11 i = fun _ => 0 := hI.w11 i (Nat.le_refl _)
      rw [s5]
      show _ = (some (.inl (Y.1, 30, .inl (s 11 i))) : Option va_E)
      rw [e]
    · rw [hkn 5 (by decide) i h, Ew_larr (by omega)]
      rfl
  · intro i hi
    rw [hkn 5 (by decide) i (by omega)]
    exact Ew_larrN (by omega)
  · intro i hi
    by_cases h : i = nb
    · subst h
      have e : sc s 13 i = 0 := hI.z13 i (Nat.le_refl _)
      have e2 : sc (us (us (us (us (us s 12 i x) 7 i (-1)) 8 i (-1)) 9 i (nI i)) 0 2 (nI (i + 1))) 12 i = x := (sc_k (by decide)).trans ((sc_k (by decide)).trans ((sc_k (by decide)).trans ((sc_k (by decide)).trans sc_s)))
      rw [s6]
      show _ = (some (.inr (1, [.int (sc (us (us (us (us (us s 12 i x) 7 i (-1)) 8 i (-1)) 9 i (nI i)) 0 2 (nI (i + 1))) 12 i), .ref (a 7 i), .int (sc s 13 i)])) : Option va_E)
      rw [e, e2]
    · rw [hkn 6 (by decide) i h, Ew_ferry (by omega)]
      have e2 : sc (us (us (us (us (us s 12 nb x) 7 nb (-1)) 8 nb (-1)) 9 nb (nI nb)) 0 2 (nI (nb + 1))) 12 i = sc s 12 i := (sc_k (by decide)).trans ((sc_k (by decide)).trans ((sc_k (by decide)).trans ((sc_k (by decide)).trans (sc_i h))))
      unfold cFerry
      rw [ai 7 i h, e2]
      rfl
  · intro i hi
    rw [hkn 6 (by decide) i (by omega)]
    exact Ew_ferryN (by omega)
  · intro i hi
    by_cases h : i = nb
    · subst h
      have e : sc s 14 i = 0 := hI.z14 i (Nat.le_refl _)
      rw [s7]
      show _ = (some (.inr (4, [.ref (a 8 i), .int (sc s 14 i)])) : Option va_E)
      rw [e]
    · rw [hkn 7 (by decide) i h, Ew_frow (by omega)]
      unfold cFrow
      rw [ai 8 i h]
      rfl
  · intro i hi
    rw [hkn 7 (by decide) i (by omega)]
    exact Ew_frowN (by omega)
  · intro i hi
    by_cases h : i = nb
    · subst h
      have e : s 15 i = fun _ => 0 := hI.w15 i (Nat.le_refl _)
      rw [s8]
      show _ = (some (.inl (Y.1, 40, .inl (s 15 i))) : Option va_E)
      rw [e]
    · rw [hkn 8 (by decide) i h, Ew_farr (by omega)]
      rfl
  · intro i hi
    rw [hkn 8 (by decide) i (by omega)]
    exact Ew_farrN (by omega)
  · intro i
    rw [hk 9 (by decide) (by decide) (by decide) (by decide) (by decide) (by decide) (by decide)]
    exact Ew_mall
  · intro k i
    rw [hk (k + 10) (by omega) (by omega) (by omega) (by omega) (by omega) (by omega) (by omega)]
    exact Ew_k10
end EX
