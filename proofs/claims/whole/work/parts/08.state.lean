/-! THE STATE. sc s k i: the number at place i of component k: 0 counters (gates, ramps, berths, arrived, gone, towed, alarms), 1 shut, 2 taken (gates), 3 passed, 4 limit, 5 wear, 6 taken (ramps), 7 gate of, 8 ramp of, 9 ferry of, 10 in the lane, 12 room, 13 load, 14 aboard; rows: s 11 b the lane of berth b, s 15 f the deck of ferry f. -/
abbrev St : Type := Nat → Nat → Nat → Int32
abbrev sc (s : St) (k i : Nat) : Int32 := s k i 0
abbrev us (s : St) (k i : Nat) (v : Int32) : St := u2 s k i (fun _ => v)
abbrev YT : Type := ClassId × ClassId × ClassId × ClassId × ClassId
abbrev tysY (Y : YT) : List (ClassId × FieldType) := [(Y.1, .int), (Y.2.1, .boolean), (Y.2.2.1, .object RX2), (Y.2.2.2.1, .object RX3), (Y.2.2.2.2, .object RX0)]
def oref (x : Int32) (f : Nat → Nat) : Option Nat := if x = -1 then none else some (f x.toNatClampNeg)
abbrev refs (c : ClassId) (n k : Nat) (f : Nat → Nat) : va_E := .inl (c, n, .inr (.inr (.inr (.inr (fun j => if j < k then some (f j) else none)))))
abbrev cFQ (s : St) (ad : Nat → Nat → Nat) : va_E := .inr (5, [.ref (ad 0 1), .ref (ad 0 2), .ref (ad 0 3), .int (sc s 0 0), .int (sc s 0 1), .int (sc s 0 2), .int (sc s 0 3), .int (sc s 0 4), .int (sc s 0 5), .int (sc s 0 6)])
abbrev cMO (s : St) (ad : Nat → Nat → Nat) : va_E := .inr (6, [.int (sc s 0 0), .int (sc s 0 1), .int (sc s 0 2), .int (sc s 0 3), .int (sc s 0 4), .int (sc s 0 5), .int (sc s 0 6), .ref (ad 9 1), .ref (ad 9 2), .ref (ad 9 3), .ref (ad 9 4), .ref (ad 9 5), .ref (ad 9 6), .ref (ad 9 7), .ref (ad 9 8), .ref (ad 9 9), .ref (ad 9 10), .ref (ad 9 11), .ref (ad 9 12), .ref (ad 9 13), .ref (ad 9 14), .ref (ad 9 15)])
abbrev cGate (s : St) (i : Nat) : va_E := .inr (2, [.int (nI i), .int (sc s 1 i), .int (sc s 2 i), .int (sc s 3 i)])
abbrev cRamp (s : St) (i : Nat) : va_E := .inr (3, [.int (nI i), .int (sc s 4 i), .int (sc s 6 i), .int (sc s 5 i)])
abbrev cBerth (s : St) (ad : Nat → Nat → Nat) (i : Nat) : va_E := .inr (0, [.ref (ad 4 i), .ref (ad 6 (sc s 9 i).toNatClampNeg), va_rf (oref (sc s 7 i) (ad 1)), va_rf (oref (sc s 8 i) (ad 2))])
abbrev cLane (s : St) (ad : Nat → Nat → Nat) (i : Nat) : va_E := .inr (4, [.ref (ad 5 i), .int (sc s 10 i)])
abbrev cFerry (s : St) (ad : Nat → Nat → Nat) (i : Nat) : va_E := .inr (1, [.int (sc s 12 i), .ref (ad 7 i), .int (sc s 13 i)])
abbrev cFrow (s : St) (ad : Nat → Nat → Nat) (i : Nat) : va_E := .inr (4, [.ref (ad 8 i), .int (sc s 14 i)])
def Ew (Y : YT) (ng nr nb : Nat) (s u : St) (ad : Nat → Nat → Nat) : Nat → Nat → Option va_E := fun k i => match k with
  | 0 => match i with
    | 0 => some (cFQ s ad)
    | 1 => some (refs Y.2.2.1 16 ng (ad 1))
    | 2 => some (refs Y.2.2.2.1 16 nr (ad 2))
    | 3 => some (refs Y.2.2.2.2 8 nb (ad 3))
    | 4 => some (cMO u ad)
    | _ => none
  | 1 => if i < ng then some (cGate s i) else none
  | 2 => if i < nr then some (cRamp s i) else none
  | 3 => if i < nb then some (cBerth s ad i) else none
  | 4 => if i < nb then some (cLane s ad i) else none
  | 5 => if i < nb then some (.inl (Y.1, 30, .inl (s 11 i))) else none
  | 6 => if i < nb then some (cFerry s ad i) else none
  | 7 => if i < nb then some (cFrow s ad i) else none
  | 8 => if i < nb then some (.inl (Y.1, 40, .inl (s 15 i))) else none
  | 9 => match i with
    | 1 => some (.inl (Y.2.1, 16, .inl (fun x => sc u 1 x)))
    | 2 => some (.inl (Y.1, 16, .inl (fun x => sc u 2 x)))
    | 3 => some (.inl (Y.1, 16, .inl (fun x => sc u 3 x)))
    | 4 => some (.inl (Y.1, 16, .inl (fun x => sc u 4 x)))
    | 5 => some (.inl (Y.1, 16, .inl (fun x => sc u 5 x)))
    | 6 => some (.inl (Y.1, 16, .inl (fun x => sc u 6 x)))
    | 7 => some (.inl (Y.1, 8, .inl (fun x => sc u 7 x)))
    | 8 => some (.inl (Y.1, 8, .inl (fun x => sc u 8 x)))
    | 9 => some (.inl (Y.1, 8, .inl (fun x => sc u 9 x)))
    | 10 => some (.inl (Y.1, 8, .inl (fun x => sc u 10 x)))
    | 11 => some (.inl (Y.1, 240, .inl (fun x => u 11 (x / 30) (x % 30))))
    | 12 => some (.inl (Y.1, 8, .inl (fun x => sc u 12 x)))
    | 13 => some (.inl (Y.1, 8, .inl (fun x => sc u 13 x)))
    | 14 => some (.inl (Y.1, 8, .inl (fun x => sc u 14 x)))
    | 15 => some (.inl (Y.1, 320, .inl (fun x => u 15 (x / 40) (x % 40))))
    | _ => none
  | _ => none
section EW
variable {Y : YT} {ng nr nb : Nat} {s u : St} {ad : Nat → Nat → Nat}
theorem Ew_fq : Ew Y ng nr nb s u ad 0 0 = some (cFQ s ad) := rfl
theorem Ew_ga : Ew Y ng nr nb s u ad 0 1 = some (refs Y.2.2.1 16 ng (ad 1)) := rfl
theorem Ew_ra : Ew Y ng nr nb s u ad 0 2 = some (refs Y.2.2.2.1 16 nr (ad 2)) := rfl
theorem Ew_ba : Ew Y ng nr nb s u ad 0 3 = some (refs Y.2.2.2.2 8 nb (ad 3)) := rfl
theorem Ew_mo : Ew Y ng nr nb s u ad 0 4 = some (cMO u ad) := rfl
theorem Ew_gate {i : Nat} (h : i < ng) : Ew Y ng nr nb s u ad 1 i = some (cGate s i) := if_pos h
theorem Ew_ramp {i : Nat} (h : i < nr) : Ew Y ng nr nb s u ad 2 i = some (cRamp s i) := if_pos h
theorem Ew_berth {i : Nat} (h : i < nb) : Ew Y ng nr nb s u ad 3 i = some (cBerth s ad i) := if_pos h
theorem Ew_lane {i : Nat} (h : i < nb) : Ew Y ng nr nb s u ad 4 i = some (cLane s ad i) := if_pos h
theorem Ew_larr {i : Nat} (h : i < nb) : Ew Y ng nr nb s u ad 5 i = some (.inl (Y.1, 30, .inl (s 11 i))) := if_pos h
theorem Ew_ferry {i : Nat} (h : i < nb) : Ew Y ng nr nb s u ad 6 i = some (cFerry s ad i) := if_pos h
theorem Ew_frow {i : Nat} (h : i < nb) : Ew Y ng nr nb s u ad 7 i = some (cFrow s ad i) := if_pos h
theorem Ew_farr {i : Nat} (h : i < nb) : Ew Y ng nr nb s u ad 8 i = some (.inl (Y.1, 40, .inl (s 15 i))) := if_pos h
theorem Ew_m1 : Ew Y ng nr nb s u ad 9 1 = some (.inl (Y.2.1, 16, .inl (fun x => sc u 1 x))) := rfl
theorem Ew_m2 : Ew Y ng nr nb s u ad 9 2 = some (.inl (Y.1, 16, .inl (fun x => sc u 2 x))) := rfl
theorem Ew_m3 : Ew Y ng nr nb s u ad 9 3 = some (.inl (Y.1, 16, .inl (fun x => sc u 3 x))) := rfl
theorem Ew_m4 : Ew Y ng nr nb s u ad 9 4 = some (.inl (Y.1, 16, .inl (fun x => sc u 4 x))) := rfl
theorem Ew_m5 : Ew Y ng nr nb s u ad 9 5 = some (.inl (Y.1, 16, .inl (fun x => sc u 5 x))) := rfl
theorem Ew_m6 : Ew Y ng nr nb s u ad 9 6 = some (.inl (Y.1, 16, .inl (fun x => sc u 6 x))) := rfl
theorem Ew_m7 : Ew Y ng nr nb s u ad 9 7 = some (.inl (Y.1, 8, .inl (fun x => sc u 7 x))) := rfl
theorem Ew_m8 : Ew Y ng nr nb s u ad 9 8 = some (.inl (Y.1, 8, .inl (fun x => sc u 8 x))) := rfl
theorem Ew_m9 : Ew Y ng nr nb s u ad 9 9 = some (.inl (Y.1, 8, .inl (fun x => sc u 9 x))) := rfl
theorem Ew_m10 : Ew Y ng nr nb s u ad 9 10 = some (.inl (Y.1, 8, .inl (fun x => sc u 10 x))) := rfl
theorem Ew_m11 : Ew Y ng nr nb s u ad 9 11 = some (.inl (Y.1, 240, .inl (fun x => u 11 (x / 30) (x % 30)))) := rfl
theorem Ew_m12 : Ew Y ng nr nb s u ad 9 12 = some (.inl (Y.1, 8, .inl (fun x => sc u 12 x))) := rfl
theorem Ew_m13 : Ew Y ng nr nb s u ad 9 13 = some (.inl (Y.1, 8, .inl (fun x => sc u 13 x))) := rfl
theorem Ew_m14 : Ew Y ng nr nb s u ad 9 14 = some (.inl (Y.1, 8, .inl (fun x => sc u 14 x))) := rfl
theorem Ew_m15 : Ew Y ng nr nb s u ad 9 15 = some (.inl (Y.1, 320, .inl (fun x => u 15 (x / 40) (x % 40)))) := rfl
theorem Ewk0 : Ew Y ng nr nb s u ad 0 = fun i => match i with | 0 => some (cFQ s ad) | 1 => some (refs Y.2.2.1 16 ng (ad 1)) | 2 => some (refs Y.2.2.2.1 16 nr (ad 2)) | 3 => some (refs Y.2.2.2.2 8 nb (ad 3)) | 4 => some (cMO u ad) | _ => none := rfl
theorem Ewk1 : Ew Y ng nr nb s u ad 1 = fun i => if i < ng then some (cGate s i) else none := rfl
theorem Ewk2 : Ew Y ng nr nb s u ad 2 = fun i => if i < nr then some (cRamp s i) else none := rfl
theorem Ewk3 : Ew Y ng nr nb s u ad 3 = fun i => if i < nb then some (cBerth s ad i) else none := rfl
theorem Ewk4 : Ew Y ng nr nb s u ad 4 = fun i => if i < nb then some (cLane s ad i) else none := rfl
theorem Ewk5 : Ew Y ng nr nb s u ad 5 = fun i => if i < nb then some (.inl (Y.1, 30, .inl (s 11 i))) else none := rfl
theorem Ewk6 : Ew Y ng nr nb s u ad 6 = fun i => if i < nb then some (cFerry s ad i) else none := rfl
theorem Ewk7 : Ew Y ng nr nb s u ad 7 = fun i => if i < nb then some (cFrow s ad i) else none := rfl
theorem Ewk8 : Ew Y ng nr nb s u ad 8 = fun i => if i < nb then some (.inl (Y.1, 40, .inl (s 15 i))) else none := rfl
theorem Ew_m0 : Ew Y ng nr nb s u ad 9 0 = none := rfl
theorem Ew_m16 {n : Nat} : Ew Y ng nr nb s u ad 9 (n + 16) = none := rfl
theorem Ew_k10 {n i : Nat} : Ew Y ng nr nb s u ad (n + 10) i = none := rfl
theorem Ewk9 {s2 : St} : Ew Y ng nr nb s u ad 9 = Ew Y ng nr nb s2 u ad 9 := by
  funext i
  match i with
  | 0 => exact (Ew_m0 (s := s)).trans (Ew_m0 (s := s2)).symm
  | 1 => exact (Ew_m1 (s := s)).trans (Ew_m1 (s := s2)).symm
  | 2 => exact (Ew_m2 (s := s)).trans (Ew_m2 (s := s2)).symm
  | 3 => exact (Ew_m3 (s := s)).trans (Ew_m3 (s := s2)).symm
  | 4 => exact (Ew_m4 (s := s)).trans (Ew_m4 (s := s2)).symm
  | 5 => exact (Ew_m5 (s := s)).trans (Ew_m5 (s := s2)).symm
  | 6 => exact (Ew_m6 (s := s)).trans (Ew_m6 (s := s2)).symm
  | 7 => exact (Ew_m7 (s := s)).trans (Ew_m7 (s := s2)).symm
  | 8 => exact (Ew_m8 (s := s)).trans (Ew_m8 (s := s2)).symm
  | 9 => exact (Ew_m9 (s := s)).trans (Ew_m9 (s := s2)).symm
  | 10 => exact (Ew_m10 (s := s)).trans (Ew_m10 (s := s2)).symm
  | 11 => exact (Ew_m11 (s := s)).trans (Ew_m11 (s := s2)).symm
  | 12 => exact (Ew_m12 (s := s)).trans (Ew_m12 (s := s2)).symm
  | 13 => exact (Ew_m13 (s := s)).trans (Ew_m13 (s := s2)).symm
  | 14 => exact (Ew_m14 (s := s)).trans (Ew_m14 (s := s2)).symm
  | 15 => exact (Ew_m15 (s := s)).trans (Ew_m15 (s := s2)).symm
  | _ + 16 => exact (Ew_m16 (s := s)).trans (Ew_m16 (s := s2)).symm
theorem Ewk10 {s2 v2 : St} {n : Nat} : Ew Y ng nr nb s u ad (n + 10) = Ew Y ng nr nb s2 v2 ad (n + 10) := by
  funext i
  exact (Ew_k10 (s := s) (u := u)).trans (Ew_k10 (s := s2) (u := v2)).symm
theorem u2_eq {α : Type} {f F : Nat → Nat → α} {k i : Nat} {v : α} (h1 : F k i = v) (h2 : ∀ i', i' ≠ i → F k i' = f k i') (h3 : ∀ k', k' ≠ k → F k' = f k') : u2 f k i v = F := by
  funext k' i'
  by_cases hk : k' = k
  · subst hk
    by_cases hi : i' = i
    · subst hi
      rw [u2_self, h1]
    · rw [u2_i hi, h2 i' hi]
  · rw [u2_k hk, h3 k' hk]
theorem Ep_fq0 {v : Int32} : u2 (Ew Y ng nr nb s u ad) 0 0 (some (.inr (5, [.ref (ad 0 1), .ref (ad 0 2), .ref (ad 0 3), .int v, .int (sc s 0 1), .int (sc s 0 2), .int (sc s 0 3), .int (sc s 0 4), .int (sc s 0 5), .int (sc s 0 6)]))) = Ew Y ng nr nb (us s 0 0 v) u ad := by
  refine u2_eq ?_ (fun i' hi => ?_) (fun k' hk => ?_)
  · rfl
  · match i', hi with
    | 0, h => first | exact absurd rfl h | rfl
    | 1, _ => rfl
    | 2, _ => rfl
    | 3, _ => rfl
    | 4, h => first | exact absurd rfl h | rfl
    | _ + 5, _ => rfl
  · match k', hk with
    | 0, h => exact absurd rfl h
    | 1, _ => rfl
    | 2, _ => rfl
    | 3, _ => rfl
    | 4, _ => rfl
    | 5, _ => rfl
    | 6, _ => rfl
    | 7, _ => rfl
    | 8, _ => rfl
    | 9, _ => rfl
    | _ + 10, _ => rfl
theorem Ep_mo0 {v : Int32} : u2 (Ew Y ng nr nb s u ad) 0 4 (some (.inr (6, [.int v, .int (sc u 0 1), .int (sc u 0 2), .int (sc u 0 3), .int (sc u 0 4), .int (sc u 0 5), .int (sc u 0 6), .ref (ad 9 1), .ref (ad 9 2), .ref (ad 9 3), .ref (ad 9 4), .ref (ad 9 5), .ref (ad 9 6), .ref (ad 9 7), .ref (ad 9 8), .ref (ad 9 9), .ref (ad 9 10), .ref (ad 9 11), .ref (ad 9 12), .ref (ad 9 13), .ref (ad 9 14), .ref (ad 9 15)]))) = Ew Y ng nr nb s (us u 0 0 v) ad := by
  refine u2_eq ?_ (fun i' hi => ?_) (fun k' hk => ?_)
  · rfl
  · match i', hi with
    | 0, h => first | exact absurd rfl h | rfl
    | 1, _ => rfl
    | 2, _ => rfl
    | 3, _ => rfl
    | 4, h => first | exact absurd rfl h | rfl
    | _ + 5, _ => rfl
  · match k', hk with
    | 0, h => exact absurd rfl h
    | 1, _ => rfl
    | 2, _ => rfl
    | 3, _ => rfl
    | 4, _ => rfl
    | 5, _ => rfl
    | 6, _ => rfl
    | 7, _ => rfl
    | 8, _ => rfl
    | 9, _ => rfl
    | _ + 10, _ => rfl
theorem Ep_fq1 {v : Int32} : u2 (Ew Y ng nr nb s u ad) 0 0 (some (.inr (5, [.ref (ad 0 1), .ref (ad 0 2), .ref (ad 0 3), .int (sc s 0 0), .int v, .int (sc s 0 2), .int (sc s 0 3), .int (sc s 0 4), .int (sc s 0 5), .int (sc s 0 6)]))) = Ew Y ng nr nb (us s 0 1 v) u ad := by
  refine u2_eq ?_ (fun i' hi => ?_) (fun k' hk => ?_)
  · rfl
  · match i', hi with
    | 0, h => first | exact absurd rfl h | rfl
    | 1, _ => rfl
    | 2, _ => rfl
    | 3, _ => rfl
    | 4, h => first | exact absurd rfl h | rfl
    | _ + 5, _ => rfl
  · match k', hk with
    | 0, h => exact absurd rfl h
    | 1, _ => rfl
    | 2, _ => rfl
    | 3, _ => rfl
    | 4, _ => rfl
    | 5, _ => rfl
    | 6, _ => rfl
    | 7, _ => rfl
    | 8, _ => rfl
    | 9, _ => rfl
    | _ + 10, _ => rfl
theorem Ep_mo1 {v : Int32} : u2 (Ew Y ng nr nb s u ad) 0 4 (some (.inr (6, [.int (sc u 0 0), .int v, .int (sc u 0 2), .int (sc u 0 3), .int (sc u 0 4), .int (sc u 0 5), .int (sc u 0 6), .ref (ad 9 1), .ref (ad 9 2), .ref (ad 9 3), .ref (ad 9 4), .ref (ad 9 5), .ref (ad 9 6), .ref (ad 9 7), .ref (ad 9 8), .ref (ad 9 9), .ref (ad 9 10), .ref (ad 9 11), .ref (ad 9 12), .ref (ad 9 13), .ref (ad 9 14), .ref (ad 9 15)]))) = Ew Y ng nr nb s (us u 0 1 v) ad := by
  refine u2_eq ?_ (fun i' hi => ?_) (fun k' hk => ?_)
  · rfl
  · match i', hi with
    | 0, h => first | exact absurd rfl h | rfl
    | 1, _ => rfl
    | 2, _ => rfl
    | 3, _ => rfl
    | 4, h => first | exact absurd rfl h | rfl
    | _ + 5, _ => rfl
  · match k', hk with
    | 0, h => exact absurd rfl h
    | 1, _ => rfl
    | 2, _ => rfl
    | 3, _ => rfl
    | 4, _ => rfl
    | 5, _ => rfl
    | 6, _ => rfl
    | 7, _ => rfl
    | 8, _ => rfl
    | 9, _ => rfl
    | _ + 10, _ => rfl
theorem Ep_fq2 {v : Int32} : u2 (Ew Y ng nr nb s u ad) 0 0 (some (.inr (5, [.ref (ad 0 1), .ref (ad 0 2), .ref (ad 0 3), .int (sc s 0 0), .int (sc s 0 1), .int v, .int (sc s 0 3), .int (sc s 0 4), .int (sc s 0 5), .int (sc s 0 6)]))) = Ew Y ng nr nb (us s 0 2 v) u ad := by
  refine u2_eq ?_ (fun i' hi => ?_) (fun k' hk => ?_)
  · rfl
  · match i', hi with
    | 0, h => first | exact absurd rfl h | rfl
    | 1, _ => rfl
    | 2, _ => rfl
    | 3, _ => rfl
    | 4, h => first | exact absurd rfl h | rfl
    | _ + 5, _ => rfl
  · match k', hk with
    | 0, h => exact absurd rfl h
    | 1, _ => rfl
    | 2, _ => rfl
    | 3, _ => rfl
    | 4, _ => rfl
    | 5, _ => rfl
    | 6, _ => rfl
    | 7, _ => rfl
    | 8, _ => rfl
    | 9, _ => rfl
    | _ + 10, _ => rfl
theorem Ep_mo2 {v : Int32} : u2 (Ew Y ng nr nb s u ad) 0 4 (some (.inr (6, [.int (sc u 0 0), .int (sc u 0 1), .int v, .int (sc u 0 3), .int (sc u 0 4), .int (sc u 0 5), .int (sc u 0 6), .ref (ad 9 1), .ref (ad 9 2), .ref (ad 9 3), .ref (ad 9 4), .ref (ad 9 5), .ref (ad 9 6), .ref (ad 9 7), .ref (ad 9 8), .ref (ad 9 9), .ref (ad 9 10), .ref (ad 9 11), .ref (ad 9 12), .ref (ad 9 13), .ref (ad 9 14), .ref (ad 9 15)]))) = Ew Y ng nr nb s (us u 0 2 v) ad := by
  refine u2_eq ?_ (fun i' hi => ?_) (fun k' hk => ?_)
  · rfl
  · match i', hi with
    | 0, h => first | exact absurd rfl h | rfl
    | 1, _ => rfl
    | 2, _ => rfl
    | 3, _ => rfl
    | 4, h => first | exact absurd rfl h | rfl
    | _ + 5, _ => rfl
  · match k', hk with
    | 0, h => exact absurd rfl h
    | 1, _ => rfl
    | 2, _ => rfl
    | 3, _ => rfl
    | 4, _ => rfl
    | 5, _ => rfl
    | 6, _ => rfl
    | 7, _ => rfl
    | 8, _ => rfl
    | 9, _ => rfl
    | _ + 10, _ => rfl
theorem Ep_fq3 {v : Int32} : u2 (Ew Y ng nr nb s u ad) 0 0 (some (.inr (5, [.ref (ad 0 1), .ref (ad 0 2), .ref (ad 0 3), .int (sc s 0 0), .int (sc s 0 1), .int (sc s 0 2), .int v, .int (sc s 0 4), .int (sc s 0 5), .int (sc s 0 6)]))) = Ew Y ng nr nb (us s 0 3 v) u ad := by
  refine u2_eq ?_ (fun i' hi => ?_) (fun k' hk => ?_)
  · rfl
  · match i', hi with
    | 0, h => first | exact absurd rfl h | rfl
    | 1, _ => rfl
    | 2, _ => rfl
    | 3, _ => rfl
    | 4, h => first | exact absurd rfl h | rfl
    | _ + 5, _ => rfl
  · match k', hk with
    | 0, h => exact absurd rfl h
    | 1, _ => rfl
    | 2, _ => rfl
    | 3, _ => rfl
    | 4, _ => rfl
    | 5, _ => rfl
    | 6, _ => rfl
    | 7, _ => rfl
    | 8, _ => rfl
    | 9, _ => rfl
    | _ + 10, _ => rfl
theorem Ep_mo3 {v : Int32} : u2 (Ew Y ng nr nb s u ad) 0 4 (some (.inr (6, [.int (sc u 0 0), .int (sc u 0 1), .int (sc u 0 2), .int v, .int (sc u 0 4), .int (sc u 0 5), .int (sc u 0 6), .ref (ad 9 1), .ref (ad 9 2), .ref (ad 9 3), .ref (ad 9 4), .ref (ad 9 5), .ref (ad 9 6), .ref (ad 9 7), .ref (ad 9 8), .ref (ad 9 9), .ref (ad 9 10), .ref (ad 9 11), .ref (ad 9 12), .ref (ad 9 13), .ref (ad 9 14), .ref (ad 9 15)]))) = Ew Y ng nr nb s (us u 0 3 v) ad := by
  refine u2_eq ?_ (fun i' hi => ?_) (fun k' hk => ?_)
  · rfl
  · match i', hi with
    | 0, h => first | exact absurd rfl h | rfl
    | 1, _ => rfl
    | 2, _ => rfl
    | 3, _ => rfl
    | 4, h => first | exact absurd rfl h | rfl
    | _ + 5, _ => rfl
  · match k', hk with
    | 0, h => exact absurd rfl h
    | 1, _ => rfl
    | 2, _ => rfl
    | 3, _ => rfl
    | 4, _ => rfl
    | 5, _ => rfl
    | 6, _ => rfl
    | 7, _ => rfl
    | 8, _ => rfl
    | 9, _ => rfl
    | _ + 10, _ => rfl
theorem Ep_fq4 {v : Int32} : u2 (Ew Y ng nr nb s u ad) 0 0 (some (.inr (5, [.ref (ad 0 1), .ref (ad 0 2), .ref (ad 0 3), .int (sc s 0 0), .int (sc s 0 1), .int (sc s 0 2), .int (sc s 0 3), .int v, .int (sc s 0 5), .int (sc s 0 6)]))) = Ew Y ng nr nb (us s 0 4 v) u ad := by
  refine u2_eq ?_ (fun i' hi => ?_) (fun k' hk => ?_)
  · rfl
  · match i', hi with
    | 0, h => first | exact absurd rfl h | rfl
    | 1, _ => rfl
    | 2, _ => rfl
    | 3, _ => rfl
    | 4, h => first | exact absurd rfl h | rfl
    | _ + 5, _ => rfl
  · match k', hk with
    | 0, h => exact absurd rfl h
    | 1, _ => rfl
    | 2, _ => rfl
    | 3, _ => rfl
    | 4, _ => rfl
    | 5, _ => rfl
    | 6, _ => rfl
    | 7, _ => rfl
    | 8, _ => rfl
    | 9, _ => rfl
    | _ + 10, _ => rfl
theorem Ep_mo4 {v : Int32} : u2 (Ew Y ng nr nb s u ad) 0 4 (some (.inr (6, [.int (sc u 0 0), .int (sc u 0 1), .int (sc u 0 2), .int (sc u 0 3), .int v, .int (sc u 0 5), .int (sc u 0 6), .ref (ad 9 1), .ref (ad 9 2), .ref (ad 9 3), .ref (ad 9 4), .ref (ad 9 5), .ref (ad 9 6), .ref (ad 9 7), .ref (ad 9 8), .ref (ad 9 9), .ref (ad 9 10), .ref (ad 9 11), .ref (ad 9 12), .ref (ad 9 13), .ref (ad 9 14), .ref (ad 9 15)]))) = Ew Y ng nr nb s (us u 0 4 v) ad := by
  refine u2_eq ?_ (fun i' hi => ?_) (fun k' hk => ?_)
  · rfl
  · match i', hi with
    | 0, h => first | exact absurd rfl h | rfl
    | 1, _ => rfl
    | 2, _ => rfl
    | 3, _ => rfl
    | 4, h => first | exact absurd rfl h | rfl
    | _ + 5, _ => rfl
  · match k', hk with
    | 0, h => exact absurd rfl h
    | 1, _ => rfl
    | 2, _ => rfl
    | 3, _ => rfl
    | 4, _ => rfl
    | 5, _ => rfl
    | 6, _ => rfl
    | 7, _ => rfl
    | 8, _ => rfl
    | 9, _ => rfl
    | _ + 10, _ => rfl
theorem Ep_fq5 {v : Int32} : u2 (Ew Y ng nr nb s u ad) 0 0 (some (.inr (5, [.ref (ad 0 1), .ref (ad 0 2), .ref (ad 0 3), .int (sc s 0 0), .int (sc s 0 1), .int (sc s 0 2), .int (sc s 0 3), .int (sc s 0 4), .int v, .int (sc s 0 6)]))) = Ew Y ng nr nb (us s 0 5 v) u ad := by
  refine u2_eq ?_ (fun i' hi => ?_) (fun k' hk => ?_)
  · rfl
  · match i', hi with
    | 0, h => first | exact absurd rfl h | rfl
    | 1, _ => rfl
    | 2, _ => rfl
    | 3, _ => rfl
    | 4, h => first | exact absurd rfl h | rfl
    | _ + 5, _ => rfl
  · match k', hk with
    | 0, h => exact absurd rfl h
    | 1, _ => rfl
    | 2, _ => rfl
    | 3, _ => rfl
    | 4, _ => rfl
    | 5, _ => rfl
    | 6, _ => rfl
    | 7, _ => rfl
    | 8, _ => rfl
    | 9, _ => rfl
    | _ + 10, _ => rfl
theorem Ep_mo5 {v : Int32} : u2 (Ew Y ng nr nb s u ad) 0 4 (some (.inr (6, [.int (sc u 0 0), .int (sc u 0 1), .int (sc u 0 2), .int (sc u 0 3), .int (sc u 0 4), .int v, .int (sc u 0 6), .ref (ad 9 1), .ref (ad 9 2), .ref (ad 9 3), .ref (ad 9 4), .ref (ad 9 5), .ref (ad 9 6), .ref (ad 9 7), .ref (ad 9 8), .ref (ad 9 9), .ref (ad 9 10), .ref (ad 9 11), .ref (ad 9 12), .ref (ad 9 13), .ref (ad 9 14), .ref (ad 9 15)]))) = Ew Y ng nr nb s (us u 0 5 v) ad := by
  refine u2_eq ?_ (fun i' hi => ?_) (fun k' hk => ?_)
  · rfl
  · match i', hi with
    | 0, h => first | exact absurd rfl h | rfl
    | 1, _ => rfl
    | 2, _ => rfl
    | 3, _ => rfl
    | 4, h => first | exact absurd rfl h | rfl
    | _ + 5, _ => rfl
  · match k', hk with
    | 0, h => exact absurd rfl h
    | 1, _ => rfl
    | 2, _ => rfl
    | 3, _ => rfl
    | 4, _ => rfl
    | 5, _ => rfl
    | 6, _ => rfl
    | 7, _ => rfl
    | 8, _ => rfl
    | 9, _ => rfl
    | _ + 10, _ => rfl
theorem Ep_fq6 {v : Int32} : u2 (Ew Y ng nr nb s u ad) 0 0 (some (.inr (5, [.ref (ad 0 1), .ref (ad 0 2), .ref (ad 0 3), .int (sc s 0 0), .int (sc s 0 1), .int (sc s 0 2), .int (sc s 0 3), .int (sc s 0 4), .int (sc s 0 5), .int v]))) = Ew Y ng nr nb (us s 0 6 v) u ad := by
  refine u2_eq ?_ (fun i' hi => ?_) (fun k' hk => ?_)
  · rfl
  · match i', hi with
    | 0, h => first | exact absurd rfl h | rfl
    | 1, _ => rfl
    | 2, _ => rfl
    | 3, _ => rfl
    | 4, h => first | exact absurd rfl h | rfl
    | _ + 5, _ => rfl
  · match k', hk with
    | 0, h => exact absurd rfl h
    | 1, _ => rfl
    | 2, _ => rfl
    | 3, _ => rfl
    | 4, _ => rfl
    | 5, _ => rfl
    | 6, _ => rfl
    | 7, _ => rfl
    | 8, _ => rfl
    | 9, _ => rfl
    | _ + 10, _ => rfl
theorem Ep_mo6 {v : Int32} : u2 (Ew Y ng nr nb s u ad) 0 4 (some (.inr (6, [.int (sc u 0 0), .int (sc u 0 1), .int (sc u 0 2), .int (sc u 0 3), .int (sc u 0 4), .int (sc u 0 5), .int v, .ref (ad 9 1), .ref (ad 9 2), .ref (ad 9 3), .ref (ad 9 4), .ref (ad 9 5), .ref (ad 9 6), .ref (ad 9 7), .ref (ad 9 8), .ref (ad 9 9), .ref (ad 9 10), .ref (ad 9 11), .ref (ad 9 12), .ref (ad 9 13), .ref (ad 9 14), .ref (ad 9 15)]))) = Ew Y ng nr nb s (us u 0 6 v) ad := by
  refine u2_eq ?_ (fun i' hi => ?_) (fun k' hk => ?_)
  · rfl
  · match i', hi with
    | 0, h => first | exact absurd rfl h | rfl
    | 1, _ => rfl
    | 2, _ => rfl
    | 3, _ => rfl
    | 4, h => first | exact absurd rfl h | rfl
    | _ + 5, _ => rfl
  · match k', hk with
    | 0, h => exact absurd rfl h
    | 1, _ => rfl
    | 2, _ => rfl
    | 3, _ => rfl
    | 4, _ => rfl
    | 5, _ => rfl
    | 6, _ => rfl
    | 7, _ => rfl
    | 8, _ => rfl
    | 9, _ => rfl
    | _ + 10, _ => rfl
theorem Ep_gate1 {i : Nat} {v : Int32} (h : i < ng) : u2 (Ew Y ng nr nb s u ad) 1 i (some (.inr (2, [.int (nI i), .int v, .int (sc s 2 i), .int (sc s 3 i)]))) = Ew Y ng nr nb (us s 1 i v) u ad := by
  refine u2_eq ?_ (fun i' hi => ?_) (fun k' hk => ?_)
  · simp [Ew, sc, us, cGate, cRamp, cBerth, cLane, cFerry, cFrow, u2, va_up, h]
  · simp [Ew, sc, us, cGate, cRamp, cBerth, cLane, cFerry, cFrow, u2, va_up, hi]
  · match k', hk with
    | 0, _ => rfl
    | 1, h => exact absurd rfl h
    | 2, _ => rfl
    | 3, _ => rfl
    | 4, _ => rfl
    | 5, _ => rfl
    | 6, _ => rfl
    | 7, _ => rfl
    | 8, _ => rfl
    | 9, _ => rfl
    | _ + 10, _ => rfl
theorem Ep_gate2 {i : Nat} {v : Int32} (h : i < ng) : u2 (Ew Y ng nr nb s u ad) 1 i (some (.inr (2, [.int (nI i), .int (sc s 1 i), .int v, .int (sc s 3 i)]))) = Ew Y ng nr nb (us s 2 i v) u ad := by
  refine u2_eq ?_ (fun i' hi => ?_) (fun k' hk => ?_)
  · simp [Ew, sc, us, cGate, cRamp, cBerth, cLane, cFerry, cFrow, u2, va_up, h]
  · simp [Ew, sc, us, cGate, cRamp, cBerth, cLane, cFerry, cFrow, u2, va_up, hi]
  · match k', hk with
    | 0, _ => rfl
    | 1, h => exact absurd rfl h
    | 2, _ => rfl
    | 3, _ => rfl
    | 4, _ => rfl
    | 5, _ => rfl
    | 6, _ => rfl
    | 7, _ => rfl
    | 8, _ => rfl
    | 9, _ => rfl
    | _ + 10, _ => rfl
theorem Ep_gate3 {i : Nat} {v : Int32} (h : i < ng) : u2 (Ew Y ng nr nb s u ad) 1 i (some (.inr (2, [.int (nI i), .int (sc s 1 i), .int (sc s 2 i), .int v]))) = Ew Y ng nr nb (us s 3 i v) u ad := by
  refine u2_eq ?_ (fun i' hi => ?_) (fun k' hk => ?_)
  · simp [Ew, sc, us, cGate, cRamp, cBerth, cLane, cFerry, cFrow, u2, va_up, h]
  · simp [Ew, sc, us, cGate, cRamp, cBerth, cLane, cFerry, cFrow, u2, va_up, hi]
  · match k', hk with
    | 0, _ => rfl
    | 1, h => exact absurd rfl h
    | 2, _ => rfl
    | 3, _ => rfl
    | 4, _ => rfl
    | 5, _ => rfl
    | 6, _ => rfl
    | 7, _ => rfl
    | 8, _ => rfl
    | 9, _ => rfl
    | _ + 10, _ => rfl
theorem Ep_ramp2 {i : Nat} {v : Int32} (h : i < nr) : u2 (Ew Y ng nr nb s u ad) 2 i (some (.inr (3, [.int (nI i), .int (sc s 4 i), .int v, .int (sc s 5 i)]))) = Ew Y ng nr nb (us s 6 i v) u ad := by
  refine u2_eq ?_ (fun i' hi => ?_) (fun k' hk => ?_)
  · simp [Ew, sc, us, cGate, cRamp, cBerth, cLane, cFerry, cFrow, u2, va_up, h]
  · simp [Ew, sc, us, cGate, cRamp, cBerth, cLane, cFerry, cFrow, u2, va_up, hi]
  · match k', hk with
    | 0, _ => rfl
    | 1, _ => rfl
    | 2, h => exact absurd rfl h
    | 3, _ => rfl
    | 4, _ => rfl
    | 5, _ => rfl
    | 6, _ => rfl
    | 7, _ => rfl
    | 8, _ => rfl
    | 9, _ => rfl
    | _ + 10, _ => rfl
theorem Ep_ramp3 {i : Nat} {v : Int32} (h : i < nr) : u2 (Ew Y ng nr nb s u ad) 2 i (some (.inr (3, [.int (nI i), .int (sc s 4 i), .int (sc s 6 i), .int v]))) = Ew Y ng nr nb (us s 5 i v) u ad := by
  refine u2_eq ?_ (fun i' hi => ?_) (fun k' hk => ?_)
  · simp [Ew, sc, us, cGate, cRamp, cBerth, cLane, cFerry, cFrow, u2, va_up, h]
  · simp [Ew, sc, us, cGate, cRamp, cBerth, cLane, cFerry, cFrow, u2, va_up, hi]
  · match k', hk with
    | 0, _ => rfl
    | 1, _ => rfl
    | 2, h => exact absurd rfl h
    | 3, _ => rfl
    | 4, _ => rfl
    | 5, _ => rfl
    | 6, _ => rfl
    | 7, _ => rfl
    | 8, _ => rfl
    | 9, _ => rfl
    | _ + 10, _ => rfl
theorem oref_n {f : Nat → Nat} : oref (-1) f = none := rfl
theorem nI_m1 {g : Nat} (h : g < 2 ^ 31) : ¬ nI g = -1 := fun q => by
  have h1 := congrArg Int32.toInt q
  rw [nI_toInt h] at h1
  have h2 : (-1 : Int32).toInt = -1 := by decide
  omega
theorem oref_s {f : Nat → Nat} {g : Nat} (h : g < 2 ^ 31) : oref (nI g) f = some (f g) := by
  unfold oref
  rw [if_neg (nI_m1 h), nI_clamp h]
theorem cBerth_of {a9 a7 a8 : Int32} {i : Nat} (h9 : sc s 9 i = a9) (h7 : sc s 7 i = a7) (h8 : sc s 8 i = a8) : cBerth s ad i = .inr (0, [.ref (ad 4 i), .ref (ad 6 a9.toNatClampNeg), va_rf (oref a7 (ad 1)), va_rf (oref a8 (ad 2))]) := by
  subst h9 h7 h8
  rfl
theorem Ew_berthN {i : Nat} (h : ¬ i < nb) : Ew Y ng nr nb s u ad 3 i = none := if_neg h
theorem sc_s {k i : Nat} {v : Int32} : sc (us s k i v) k i = v := by simp [sc, us, u2, va_up]
theorem sc_i {k i i' : Nat} {v : Int32} (h : i' ≠ i) : sc (us s k i v) k i' = sc s k i' := by simp [sc, us, u2, va_up, h]
theorem sc_k {k i k' i' : Nat} {v : Int32} (h : k' ≠ k) : sc (us s k i v) k' i' = sc s k' i' := by simp [sc, us, u2, va_up, h]
theorem Ep_bf {i : Nat} {v : Int32} (h : i < nb) : u2 (Ew Y ng nr nb s u ad) 3 i (some (.inr (0, [.ref (ad 4 i), .ref (ad 6 (v).toNatClampNeg), va_rf (oref (sc s 7 i) (ad 1)), va_rf (oref (sc s 8 i) (ad 2))]))) = Ew Y ng nr nb (us s 9 i v) u ad := by
  refine u2_eq ?_ (fun i' hi => ?_) (fun k' hk => ?_)
  · exact (Ew_berth h).trans (congrArg some (cBerth_of (a9 := v) (h9 := sc_s) (a7 := sc s 7 i) (h7 := sc_k (by decide)) (a8 := sc s 8 i) (h8 := sc_k (by decide))))
  · by_cases hb : i' < nb
    · exact (Ew_berth hb).trans ((congrArg some ((cBerth_of (a9 := sc s 9 i') (h9 := sc_i hi) (a7 := sc s 7 i') (h7 := sc_k (by decide)) (a8 := sc s 8 i') (h8 := sc_k (by decide))).trans (cBerth_of (s := s) (ad := ad) (i := i') rfl rfl rfl).symm)).trans (Ew_berth hb).symm)
    · exact (Ew_berthN hb).trans (Ew_berthN hb).symm
  · match k', hk with
    | 0, _ => exact (Ewk0 (s := us s 9 i v)).trans (Ewk0 (s := s)).symm
    | 1, _ => exact (Ewk1 (s := us s 9 i v)).trans (Ewk1 (s := s)).symm
    | 2, _ => exact (Ewk2 (s := us s 9 i v)).trans (Ewk2 (s := s)).symm
    | 3, h => exact absurd rfl h
    | 4, _ => exact (Ewk4 (s := us s 9 i v)).trans (Ewk4 (s := s)).symm
    | 5, _ => exact (Ewk5 (s := us s 9 i v)).trans (Ewk5 (s := s)).symm
    | 6, _ => exact (Ewk6 (s := us s 9 i v)).trans (Ewk6 (s := s)).symm
    | 7, _ => exact (Ewk7 (s := us s 9 i v)).trans (Ewk7 (s := s)).symm
    | 8, _ => exact (Ewk8 (s := us s 9 i v)).trans (Ewk8 (s := s)).symm
    | 9, _ => exact Ewk9
    | _ + 10, _ => exact Ewk10
theorem Ep_b2 {i : Nat} {v : Int32} (h : i < nb) : u2 (Ew Y ng nr nb s u ad) 3 i (some (.inr (0, [.ref (ad 4 i), .ref (ad 6 (sc s 9 i).toNatClampNeg), va_rf (oref v (ad 1)), va_rf (oref (sc s 8 i) (ad 2))]))) = Ew Y ng nr nb (us s 7 i v) u ad := by
  refine u2_eq ?_ (fun i' hi => ?_) (fun k' hk => ?_)
  · exact (Ew_berth h).trans (congrArg some (cBerth_of (a9 := sc s 9 i) (h9 := sc_k (by decide)) (a7 := v) (h7 := sc_s) (a8 := sc s 8 i) (h8 := sc_k (by decide))))
  · by_cases hb : i' < nb
    · exact (Ew_berth hb).trans ((congrArg some ((cBerth_of (a9 := sc s 9 i') (h9 := sc_k (by decide)) (a7 := sc s 7 i') (h7 := sc_i hi) (a8 := sc s 8 i') (h8 := sc_k (by decide))).trans (cBerth_of (s := s) (ad := ad) (i := i') rfl rfl rfl).symm)).trans (Ew_berth hb).symm)
    · exact (Ew_berthN hb).trans (Ew_berthN hb).symm
  · match k', hk with
    | 0, _ => exact (Ewk0 (s := us s 7 i v)).trans (Ewk0 (s := s)).symm
    | 1, _ => exact (Ewk1 (s := us s 7 i v)).trans (Ewk1 (s := s)).symm
    | 2, _ => exact (Ewk2 (s := us s 7 i v)).trans (Ewk2 (s := s)).symm
    | 3, h => exact absurd rfl h
    | 4, _ => exact (Ewk4 (s := us s 7 i v)).trans (Ewk4 (s := s)).symm
    | 5, _ => exact (Ewk5 (s := us s 7 i v)).trans (Ewk5 (s := s)).symm
    | 6, _ => exact (Ewk6 (s := us s 7 i v)).trans (Ewk6 (s := s)).symm
    | 7, _ => exact (Ewk7 (s := us s 7 i v)).trans (Ewk7 (s := s)).symm
    | 8, _ => exact (Ewk8 (s := us s 7 i v)).trans (Ewk8 (s := s)).symm
    | 9, _ => exact Ewk9
    | _ + 10, _ => exact Ewk10
theorem Ep_b3 {i : Nat} {v : Int32} (h : i < nb) : u2 (Ew Y ng nr nb s u ad) 3 i (some (.inr (0, [.ref (ad 4 i), .ref (ad 6 (sc s 9 i).toNatClampNeg), va_rf (oref (sc s 7 i) (ad 1)), va_rf (oref v (ad 2))]))) = Ew Y ng nr nb (us s 8 i v) u ad := by
  refine u2_eq ?_ (fun i' hi => ?_) (fun k' hk => ?_)
  · exact (Ew_berth h).trans (congrArg some (cBerth_of (a9 := sc s 9 i) (h9 := sc_k (by decide)) (a7 := sc s 7 i) (h7 := sc_k (by decide)) (a8 := v) (h8 := sc_s)))
  · by_cases hb : i' < nb
    · exact (Ew_berth hb).trans ((congrArg some ((cBerth_of (a9 := sc s 9 i') (h9 := sc_k (by decide)) (a7 := sc s 7 i') (h7 := sc_k (by decide)) (a8 := sc s 8 i') (h8 := sc_i hi)).trans (cBerth_of (s := s) (ad := ad) (i := i') rfl rfl rfl).symm)).trans (Ew_berth hb).symm)
    · exact (Ew_berthN hb).trans (Ew_berthN hb).symm
  · match k', hk with
    | 0, _ => exact (Ewk0 (s := us s 8 i v)).trans (Ewk0 (s := s)).symm
    | 1, _ => exact (Ewk1 (s := us s 8 i v)).trans (Ewk1 (s := s)).symm
    | 2, _ => exact (Ewk2 (s := us s 8 i v)).trans (Ewk2 (s := s)).symm
    | 3, h => exact absurd rfl h
    | 4, _ => exact (Ewk4 (s := us s 8 i v)).trans (Ewk4 (s := s)).symm
    | 5, _ => exact (Ewk5 (s := us s 8 i v)).trans (Ewk5 (s := s)).symm
    | 6, _ => exact (Ewk6 (s := us s 8 i v)).trans (Ewk6 (s := s)).symm
    | 7, _ => exact (Ewk7 (s := us s 8 i v)).trans (Ewk7 (s := s)).symm
    | 8, _ => exact (Ewk8 (s := us s 8 i v)).trans (Ewk8 (s := s)).symm
    | 9, _ => exact Ewk9
    | _ + 10, _ => exact Ewk10
theorem Ep_lane {i : Nat} {v : Int32} (h : i < nb) : u2 (Ew Y ng nr nb s u ad) 4 i (some (.inr (4, [.ref (ad 5 i), .int v]))) = Ew Y ng nr nb (us s 10 i v) u ad := by
  refine u2_eq ?_ (fun i' hi => ?_) (fun k' hk => ?_)
  · simp [Ew, sc, us, cGate, cRamp, cBerth, cLane, cFerry, cFrow, u2, va_up, h]
  · simp [Ew, sc, us, cGate, cRamp, cBerth, cLane, cFerry, cFrow, u2, va_up, hi]
  · match k', hk with
    | 0, _ => rfl
    | 1, _ => rfl
    | 2, _ => rfl
    | 3, _ => rfl
    | 4, h => exact absurd rfl h
    | 5, _ => rfl
    | 6, _ => rfl
    | 7, _ => rfl
    | 8, _ => rfl
    | 9, _ => rfl
    | _ + 10, _ => rfl
theorem Ep_larr {i : Nat} {f : Nat → Int32} (h : i < nb) : u2 (Ew Y ng nr nb s u ad) 5 i (some (.inl (Y.1, 30, .inl f))) = Ew Y ng nr nb (u2 s 11 i f) u ad := by
  refine u2_eq ?_ (fun i' hi => ?_) (fun k' hk => ?_)
  · simp [Ew, sc, us, cGate, cRamp, cBerth, cLane, cFerry, cFrow, u2, va_up, h]
  · simp [Ew, sc, us, cGate, cRamp, cBerth, cLane, cFerry, cFrow, u2, va_up, hi]
  · match k', hk with
    | 0, _ => rfl
    | 1, _ => rfl
    | 2, _ => rfl
    | 3, _ => rfl
    | 4, _ => rfl
    | 5, h => exact absurd rfl h
    | 6, _ => rfl
    | 7, _ => rfl
    | 8, _ => rfl
    | 9, _ => rfl
    | _ + 10, _ => rfl
theorem Ep_ferry {i : Nat} {v : Int32} (h : i < nb) : u2 (Ew Y ng nr nb s u ad) 6 i (some (.inr (1, [.int (sc s 12 i), .ref (ad 7 i), .int v]))) = Ew Y ng nr nb (us s 13 i v) u ad := by
  refine u2_eq ?_ (fun i' hi => ?_) (fun k' hk => ?_)
  · simp [Ew, sc, us, cGate, cRamp, cBerth, cLane, cFerry, cFrow, u2, va_up, h]
  · simp [Ew, sc, us, cGate, cRamp, cBerth, cLane, cFerry, cFrow, u2, va_up, hi]
  · match k', hk with
    | 0, _ => rfl
    | 1, _ => rfl
    | 2, _ => rfl
    | 3, _ => rfl
    | 4, _ => rfl
    | 5, _ => rfl
    | 6, h => exact absurd rfl h
    | 7, _ => rfl
    | 8, _ => rfl
    | 9, _ => rfl
    | _ + 10, _ => rfl
theorem Ep_frow {i : Nat} {v : Int32} (h : i < nb) : u2 (Ew Y ng nr nb s u ad) 7 i (some (.inr (4, [.ref (ad 8 i), .int v]))) = Ew Y ng nr nb (us s 14 i v) u ad := by
  refine u2_eq ?_ (fun i' hi => ?_) (fun k' hk => ?_)
  · simp [Ew, sc, us, cGate, cRamp, cBerth, cLane, cFerry, cFrow, u2, va_up, h]
  · simp [Ew, sc, us, cGate, cRamp, cBerth, cLane, cFerry, cFrow, u2, va_up, hi]
  · match k', hk with
    | 0, _ => rfl
    | 1, _ => rfl
    | 2, _ => rfl
    | 3, _ => rfl
    | 4, _ => rfl
    | 5, _ => rfl
    | 6, _ => rfl
    | 7, h => exact absurd rfl h
    | 8, _ => rfl
    | 9, _ => rfl
    | _ + 10, _ => rfl
theorem Ep_farr {i : Nat} {f : Nat → Int32} (h : i < nb) : u2 (Ew Y ng nr nb s u ad) 8 i (some (.inl (Y.1, 40, .inl f))) = Ew Y ng nr nb (u2 s 15 i f) u ad := by
  refine u2_eq ?_ (fun i' hi => ?_) (fun k' hk => ?_)
  · simp [Ew, sc, us, cGate, cRamp, cBerth, cLane, cFerry, cFrow, u2, va_up, h]
  · simp [Ew, sc, us, cGate, cRamp, cBerth, cLane, cFerry, cFrow, u2, va_up, hi]
  · match k', hk with
    | 0, _ => rfl
    | 1, _ => rfl
    | 2, _ => rfl
    | 3, _ => rfl
    | 4, _ => rfl
    | 5, _ => rfl
    | 6, _ => rfl
    | 7, _ => rfl
    | 8, h => exact absurd rfl h
    | 9, _ => rfl
    | _ + 10, _ => rfl
theorem Ep_m1 {x : Nat} {v : Int32} : u2 (Ew Y ng nr nb s u ad) 9 1 (some (.inl (Y.2.1, 16, .inl (va_up (fun x => sc u 1 x) x v)))) = Ew Y ng nr nb s (us u 1 x v) ad := by
  refine u2_eq ?_ (fun i' hi => ?_) (fun k' hk => ?_)
  · show some (Sum.inl (_, _, Sum.inl (fun y => sc (us u 1 x v) 1 y))) = _
    congr 6
    funext y
    by_cases hy : y = x <;> simp [sc, us, u2, va_up, hy]
  · match i', hi with
    | 0, h => first | exact absurd rfl h | rfl
    | 1, h => first | exact absurd rfl h | rfl
    | 2, h => first | exact absurd rfl h | rfl
    | 3, h => first | exact absurd rfl h | rfl
    | 4, h => first | exact absurd rfl h | rfl
    | 5, h => first | exact absurd rfl h | rfl
    | 6, h => first | exact absurd rfl h | rfl
    | 7, h => first | exact absurd rfl h | rfl
    | 8, h => first | exact absurd rfl h | rfl
    | 9, h => first | exact absurd rfl h | rfl
    | 10, h => first | exact absurd rfl h | rfl
    | 11, h => first | exact absurd rfl h | rfl
    | 12, h => first | exact absurd rfl h | rfl
    | 13, h => first | exact absurd rfl h | rfl
    | 14, h => first | exact absurd rfl h | rfl
    | 15, h => first | exact absurd rfl h | rfl
    | _ + 16, _ => rfl
  · match k', hk with
    | 0, _ => rfl
    | 1, _ => rfl
    | 2, _ => rfl
    | 3, _ => rfl
    | 4, _ => rfl
    | 5, _ => rfl
    | 6, _ => rfl
    | 7, _ => rfl
    | 8, _ => rfl
    | 9, h => exact absurd rfl h
    | _ + 10, _ => rfl
theorem Ep_m2 {x : Nat} {v : Int32} : u2 (Ew Y ng nr nb s u ad) 9 2 (some (.inl (Y.1, 16, .inl (va_up (fun x => sc u 2 x) x v)))) = Ew Y ng nr nb s (us u 2 x v) ad := by
  refine u2_eq ?_ (fun i' hi => ?_) (fun k' hk => ?_)
  · show some (Sum.inl (_, _, Sum.inl (fun y => sc (us u 2 x v) 2 y))) = _
    congr 6
    funext y
    by_cases hy : y = x <;> simp [sc, us, u2, va_up, hy]
  · match i', hi with
    | 0, h => first | exact absurd rfl h | rfl
    | 1, h => first | exact absurd rfl h | rfl
    | 2, h => first | exact absurd rfl h | rfl
    | 3, h => first | exact absurd rfl h | rfl
    | 4, h => first | exact absurd rfl h | rfl
    | 5, h => first | exact absurd rfl h | rfl
    | 6, h => first | exact absurd rfl h | rfl
    | 7, h => first | exact absurd rfl h | rfl
    | 8, h => first | exact absurd rfl h | rfl
    | 9, h => first | exact absurd rfl h | rfl
    | 10, h => first | exact absurd rfl h | rfl
    | 11, h => first | exact absurd rfl h | rfl
    | 12, h => first | exact absurd rfl h | rfl
    | 13, h => first | exact absurd rfl h | rfl
    | 14, h => first | exact absurd rfl h | rfl
    | 15, h => first | exact absurd rfl h | rfl
    | _ + 16, _ => rfl
  · match k', hk with
    | 0, _ => rfl
    | 1, _ => rfl
    | 2, _ => rfl
    | 3, _ => rfl
    | 4, _ => rfl
    | 5, _ => rfl
    | 6, _ => rfl
    | 7, _ => rfl
    | 8, _ => rfl
    | 9, h => exact absurd rfl h
    | _ + 10, _ => rfl
theorem Ep_m3 {x : Nat} {v : Int32} : u2 (Ew Y ng nr nb s u ad) 9 3 (some (.inl (Y.1, 16, .inl (va_up (fun x => sc u 3 x) x v)))) = Ew Y ng nr nb s (us u 3 x v) ad := by
  refine u2_eq ?_ (fun i' hi => ?_) (fun k' hk => ?_)
  · show some (Sum.inl (_, _, Sum.inl (fun y => sc (us u 3 x v) 3 y))) = _
    congr 6
    funext y
    by_cases hy : y = x <;> simp [sc, us, u2, va_up, hy]
  · match i', hi with
    | 0, h => first | exact absurd rfl h | rfl
    | 1, h => first | exact absurd rfl h | rfl
    | 2, h => first | exact absurd rfl h | rfl
    | 3, h => first | exact absurd rfl h | rfl
    | 4, h => first | exact absurd rfl h | rfl
    | 5, h => first | exact absurd rfl h | rfl
    | 6, h => first | exact absurd rfl h | rfl
    | 7, h => first | exact absurd rfl h | rfl
    | 8, h => first | exact absurd rfl h | rfl
    | 9, h => first | exact absurd rfl h | rfl
    | 10, h => first | exact absurd rfl h | rfl
    | 11, h => first | exact absurd rfl h | rfl
    | 12, h => first | exact absurd rfl h | rfl
    | 13, h => first | exact absurd rfl h | rfl
    | 14, h => first | exact absurd rfl h | rfl
    | 15, h => first | exact absurd rfl h | rfl
    | _ + 16, _ => rfl
  · match k', hk with
    | 0, _ => rfl
    | 1, _ => rfl
    | 2, _ => rfl
    | 3, _ => rfl
    | 4, _ => rfl
    | 5, _ => rfl
    | 6, _ => rfl
    | 7, _ => rfl
    | 8, _ => rfl
    | 9, h => exact absurd rfl h
    | _ + 10, _ => rfl
theorem Ep_m4 {x : Nat} {v : Int32} : u2 (Ew Y ng nr nb s u ad) 9 4 (some (.inl (Y.1, 16, .inl (va_up (fun x => sc u 4 x) x v)))) = Ew Y ng nr nb s (us u 4 x v) ad := by
  refine u2_eq ?_ (fun i' hi => ?_) (fun k' hk => ?_)
  · show some (Sum.inl (_, _, Sum.inl (fun y => sc (us u 4 x v) 4 y))) = _
    congr 6
    funext y
    by_cases hy : y = x <;> simp [sc, us, u2, va_up, hy]
  · match i', hi with
    | 0, h => first | exact absurd rfl h | rfl
    | 1, h => first | exact absurd rfl h | rfl
    | 2, h => first | exact absurd rfl h | rfl
    | 3, h => first | exact absurd rfl h | rfl
    | 4, h => first | exact absurd rfl h | rfl
    | 5, h => first | exact absurd rfl h | rfl
    | 6, h => first | exact absurd rfl h | rfl
    | 7, h => first | exact absurd rfl h | rfl
    | 8, h => first | exact absurd rfl h | rfl
    | 9, h => first | exact absurd rfl h | rfl
    | 10, h => first | exact absurd rfl h | rfl
    | 11, h => first | exact absurd rfl h | rfl
    | 12, h => first | exact absurd rfl h | rfl
    | 13, h => first | exact absurd rfl h | rfl
    | 14, h => first | exact absurd rfl h | rfl
    | 15, h => first | exact absurd rfl h | rfl
    | _ + 16, _ => rfl
  · match k', hk with
    | 0, _ => rfl
    | 1, _ => rfl
    | 2, _ => rfl
    | 3, _ => rfl
    | 4, _ => rfl
    | 5, _ => rfl
    | 6, _ => rfl
    | 7, _ => rfl
    | 8, _ => rfl
    | 9, h => exact absurd rfl h
    | _ + 10, _ => rfl
theorem Ep_m5 {x : Nat} {v : Int32} : u2 (Ew Y ng nr nb s u ad) 9 5 (some (.inl (Y.1, 16, .inl (va_up (fun x => sc u 5 x) x v)))) = Ew Y ng nr nb s (us u 5 x v) ad := by
  refine u2_eq ?_ (fun i' hi => ?_) (fun k' hk => ?_)
  · show some (Sum.inl (_, _, Sum.inl (fun y => sc (us u 5 x v) 5 y))) = _
    congr 6
    funext y
    by_cases hy : y = x <;> simp [sc, us, u2, va_up, hy]
  · match i', hi with
    | 0, h => first | exact absurd rfl h | rfl
    | 1, h => first | exact absurd rfl h | rfl
    | 2, h => first | exact absurd rfl h | rfl
    | 3, h => first | exact absurd rfl h | rfl
    | 4, h => first | exact absurd rfl h | rfl
    | 5, h => first | exact absurd rfl h | rfl
    | 6, h => first | exact absurd rfl h | rfl
    | 7, h => first | exact absurd rfl h | rfl
    | 8, h => first | exact absurd rfl h | rfl
    | 9, h => first | exact absurd rfl h | rfl
    | 10, h => first | exact absurd rfl h | rfl
    | 11, h => first | exact absurd rfl h | rfl
    | 12, h => first | exact absurd rfl h | rfl
    | 13, h => first | exact absurd rfl h | rfl
    | 14, h => first | exact absurd rfl h | rfl
    | 15, h => first | exact absurd rfl h | rfl
    | _ + 16, _ => rfl
  · match k', hk with
    | 0, _ => rfl
    | 1, _ => rfl
    | 2, _ => rfl
    | 3, _ => rfl
    | 4, _ => rfl
    | 5, _ => rfl
    | 6, _ => rfl
    | 7, _ => rfl
    | 8, _ => rfl
    | 9, h => exact absurd rfl h
    | _ + 10, _ => rfl
theorem Ep_m6 {x : Nat} {v : Int32} : u2 (Ew Y ng nr nb s u ad) 9 6 (some (.inl (Y.1, 16, .inl (va_up (fun x => sc u 6 x) x v)))) = Ew Y ng nr nb s (us u 6 x v) ad := by
  refine u2_eq ?_ (fun i' hi => ?_) (fun k' hk => ?_)
  · show some (Sum.inl (_, _, Sum.inl (fun y => sc (us u 6 x v) 6 y))) = _
    congr 6
    funext y
    by_cases hy : y = x <;> simp [sc, us, u2, va_up, hy]
  · match i', hi with
    | 0, h => first | exact absurd rfl h | rfl
    | 1, h => first | exact absurd rfl h | rfl
    | 2, h => first | exact absurd rfl h | rfl
    | 3, h => first | exact absurd rfl h | rfl
    | 4, h => first | exact absurd rfl h | rfl
    | 5, h => first | exact absurd rfl h | rfl
    | 6, h => first | exact absurd rfl h | rfl
    | 7, h => first | exact absurd rfl h | rfl
    | 8, h => first | exact absurd rfl h | rfl
    | 9, h => first | exact absurd rfl h | rfl
    | 10, h => first | exact absurd rfl h | rfl
    | 11, h => first | exact absurd rfl h | rfl
    | 12, h => first | exact absurd rfl h | rfl
    | 13, h => first | exact absurd rfl h | rfl
    | 14, h => first | exact absurd rfl h | rfl
    | 15, h => first | exact absurd rfl h | rfl
    | _ + 16, _ => rfl
  · match k', hk with
    | 0, _ => rfl
    | 1, _ => rfl
    | 2, _ => rfl
    | 3, _ => rfl
    | 4, _ => rfl
    | 5, _ => rfl
    | 6, _ => rfl
    | 7, _ => rfl
    | 8, _ => rfl
    | 9, h => exact absurd rfl h
    | _ + 10, _ => rfl
theorem Ep_m7 {x : Nat} {v : Int32} : u2 (Ew Y ng nr nb s u ad) 9 7 (some (.inl (Y.1, 8, .inl (va_up (fun x => sc u 7 x) x v)))) = Ew Y ng nr nb s (us u 7 x v) ad := by
  refine u2_eq ?_ (fun i' hi => ?_) (fun k' hk => ?_)
  · show some (Sum.inl (_, _, Sum.inl (fun y => sc (us u 7 x v) 7 y))) = _
    congr 6
    funext y
    by_cases hy : y = x <;> simp [sc, us, u2, va_up, hy]
  · match i', hi with
    | 0, h => first | exact absurd rfl h | rfl
    | 1, h => first | exact absurd rfl h | rfl
    | 2, h => first | exact absurd rfl h | rfl
    | 3, h => first | exact absurd rfl h | rfl
    | 4, h => first | exact absurd rfl h | rfl
    | 5, h => first | exact absurd rfl h | rfl
    | 6, h => first | exact absurd rfl h | rfl
    | 7, h => first | exact absurd rfl h | rfl
    | 8, h => first | exact absurd rfl h | rfl
    | 9, h => first | exact absurd rfl h | rfl
    | 10, h => first | exact absurd rfl h | rfl
    | 11, h => first | exact absurd rfl h | rfl
    | 12, h => first | exact absurd rfl h | rfl
    | 13, h => first | exact absurd rfl h | rfl
    | 14, h => first | exact absurd rfl h | rfl
    | 15, h => first | exact absurd rfl h | rfl
    | _ + 16, _ => rfl
  · match k', hk with
    | 0, _ => rfl
    | 1, _ => rfl
    | 2, _ => rfl
    | 3, _ => rfl
    | 4, _ => rfl
    | 5, _ => rfl
    | 6, _ => rfl
    | 7, _ => rfl
    | 8, _ => rfl
    | 9, h => exact absurd rfl h
    | _ + 10, _ => rfl
theorem Ep_m8 {x : Nat} {v : Int32} : u2 (Ew Y ng nr nb s u ad) 9 8 (some (.inl (Y.1, 8, .inl (va_up (fun x => sc u 8 x) x v)))) = Ew Y ng nr nb s (us u 8 x v) ad := by
  refine u2_eq ?_ (fun i' hi => ?_) (fun k' hk => ?_)
  · show some (Sum.inl (_, _, Sum.inl (fun y => sc (us u 8 x v) 8 y))) = _
    congr 6
    funext y
    by_cases hy : y = x <;> simp [sc, us, u2, va_up, hy]
  · match i', hi with
    | 0, h => first | exact absurd rfl h | rfl
    | 1, h => first | exact absurd rfl h | rfl
    | 2, h => first | exact absurd rfl h | rfl
    | 3, h => first | exact absurd rfl h | rfl
    | 4, h => first | exact absurd rfl h | rfl
    | 5, h => first | exact absurd rfl h | rfl
    | 6, h => first | exact absurd rfl h | rfl
    | 7, h => first | exact absurd rfl h | rfl
    | 8, h => first | exact absurd rfl h | rfl
    | 9, h => first | exact absurd rfl h | rfl
    | 10, h => first | exact absurd rfl h | rfl
    | 11, h => first | exact absurd rfl h | rfl
    | 12, h => first | exact absurd rfl h | rfl
    | 13, h => first | exact absurd rfl h | rfl
    | 14, h => first | exact absurd rfl h | rfl
    | 15, h => first | exact absurd rfl h | rfl
    | _ + 16, _ => rfl
  · match k', hk with
    | 0, _ => rfl
    | 1, _ => rfl
    | 2, _ => rfl
    | 3, _ => rfl
    | 4, _ => rfl
    | 5, _ => rfl
    | 6, _ => rfl
    | 7, _ => rfl
    | 8, _ => rfl
    | 9, h => exact absurd rfl h
    | _ + 10, _ => rfl
theorem Ep_m9 {x : Nat} {v : Int32} : u2 (Ew Y ng nr nb s u ad) 9 9 (some (.inl (Y.1, 8, .inl (va_up (fun x => sc u 9 x) x v)))) = Ew Y ng nr nb s (us u 9 x v) ad := by
  refine u2_eq ?_ (fun i' hi => ?_) (fun k' hk => ?_)
  · show some (Sum.inl (_, _, Sum.inl (fun y => sc (us u 9 x v) 9 y))) = _
    congr 6
    funext y
    by_cases hy : y = x <;> simp [sc, us, u2, va_up, hy]
  · match i', hi with
    | 0, h => first | exact absurd rfl h | rfl
    | 1, h => first | exact absurd rfl h | rfl
    | 2, h => first | exact absurd rfl h | rfl
    | 3, h => first | exact absurd rfl h | rfl
    | 4, h => first | exact absurd rfl h | rfl
    | 5, h => first | exact absurd rfl h | rfl
    | 6, h => first | exact absurd rfl h | rfl
    | 7, h => first | exact absurd rfl h | rfl
    | 8, h => first | exact absurd rfl h | rfl
    | 9, h => first | exact absurd rfl h | rfl
    | 10, h => first | exact absurd rfl h | rfl
    | 11, h => first | exact absurd rfl h | rfl
    | 12, h => first | exact absurd rfl h | rfl
    | 13, h => first | exact absurd rfl h | rfl
    | 14, h => first | exact absurd rfl h | rfl
    | 15, h => first | exact absurd rfl h | rfl
    | _ + 16, _ => rfl
  · match k', hk with
    | 0, _ => rfl
    | 1, _ => rfl
    | 2, _ => rfl
    | 3, _ => rfl
    | 4, _ => rfl
    | 5, _ => rfl
    | 6, _ => rfl
    | 7, _ => rfl
    | 8, _ => rfl
    | 9, h => exact absurd rfl h
    | _ + 10, _ => rfl
theorem Ep_m10 {x : Nat} {v : Int32} : u2 (Ew Y ng nr nb s u ad) 9 10 (some (.inl (Y.1, 8, .inl (va_up (fun x => sc u 10 x) x v)))) = Ew Y ng nr nb s (us u 10 x v) ad := by
  refine u2_eq ?_ (fun i' hi => ?_) (fun k' hk => ?_)
  · show some (Sum.inl (_, _, Sum.inl (fun y => sc (us u 10 x v) 10 y))) = _
    congr 6
    funext y
    by_cases hy : y = x <;> simp [sc, us, u2, va_up, hy]
  · match i', hi with
    | 0, h => first | exact absurd rfl h | rfl
    | 1, h => first | exact absurd rfl h | rfl
    | 2, h => first | exact absurd rfl h | rfl
    | 3, h => first | exact absurd rfl h | rfl
    | 4, h => first | exact absurd rfl h | rfl
    | 5, h => first | exact absurd rfl h | rfl
    | 6, h => first | exact absurd rfl h | rfl
    | 7, h => first | exact absurd rfl h | rfl
    | 8, h => first | exact absurd rfl h | rfl
    | 9, h => first | exact absurd rfl h | rfl
    | 10, h => first | exact absurd rfl h | rfl
    | 11, h => first | exact absurd rfl h | rfl
    | 12, h => first | exact absurd rfl h | rfl
    | 13, h => first | exact absurd rfl h | rfl
    | 14, h => first | exact absurd rfl h | rfl
    | 15, h => first | exact absurd rfl h | rfl
    | _ + 16, _ => rfl
  · match k', hk with
    | 0, _ => rfl
    | 1, _ => rfl
    | 2, _ => rfl
    | 3, _ => rfl
    | 4, _ => rfl
    | 5, _ => rfl
    | 6, _ => rfl
    | 7, _ => rfl
    | 8, _ => rfl
    | 9, h => exact absurd rfl h
    | _ + 10, _ => rfl
theorem Ep_m12 {x : Nat} {v : Int32} : u2 (Ew Y ng nr nb s u ad) 9 12 (some (.inl (Y.1, 8, .inl (va_up (fun x => sc u 12 x) x v)))) = Ew Y ng nr nb s (us u 12 x v) ad := by
  refine u2_eq ?_ (fun i' hi => ?_) (fun k' hk => ?_)
  · show some (Sum.inl (_, _, Sum.inl (fun y => sc (us u 12 x v) 12 y))) = _
    congr 6
    funext y
    by_cases hy : y = x <;> simp [sc, us, u2, va_up, hy]
  · match i', hi with
    | 0, h => first | exact absurd rfl h | rfl
    | 1, h => first | exact absurd rfl h | rfl
    | 2, h => first | exact absurd rfl h | rfl
    | 3, h => first | exact absurd rfl h | rfl
    | 4, h => first | exact absurd rfl h | rfl
    | 5, h => first | exact absurd rfl h | rfl
    | 6, h => first | exact absurd rfl h | rfl
    | 7, h => first | exact absurd rfl h | rfl
    | 8, h => first | exact absurd rfl h | rfl
    | 9, h => first | exact absurd rfl h | rfl
    | 10, h => first | exact absurd rfl h | rfl
    | 11, h => first | exact absurd rfl h | rfl
    | 12, h => first | exact absurd rfl h | rfl
    | 13, h => first | exact absurd rfl h | rfl
    | 14, h => first | exact absurd rfl h | rfl
    | 15, h => first | exact absurd rfl h | rfl
    | _ + 16, _ => rfl
  · match k', hk with
    | 0, _ => rfl
    | 1, _ => rfl
    | 2, _ => rfl
    | 3, _ => rfl
    | 4, _ => rfl
    | 5, _ => rfl
    | 6, _ => rfl
    | 7, _ => rfl
    | 8, _ => rfl
    | 9, h => exact absurd rfl h
    | _ + 10, _ => rfl
theorem Ep_m13 {x : Nat} {v : Int32} : u2 (Ew Y ng nr nb s u ad) 9 13 (some (.inl (Y.1, 8, .inl (va_up (fun x => sc u 13 x) x v)))) = Ew Y ng nr nb s (us u 13 x v) ad := by
  refine u2_eq ?_ (fun i' hi => ?_) (fun k' hk => ?_)
  · show some (Sum.inl (_, _, Sum.inl (fun y => sc (us u 13 x v) 13 y))) = _
    congr 6
    funext y
    by_cases hy : y = x <;> simp [sc, us, u2, va_up, hy]
  · match i', hi with
    | 0, h => first | exact absurd rfl h | rfl
    | 1, h => first | exact absurd rfl h | rfl
    | 2, h => first | exact absurd rfl h | rfl
    | 3, h => first | exact absurd rfl h | rfl
    | 4, h => first | exact absurd rfl h | rfl
    | 5, h => first | exact absurd rfl h | rfl
    | 6, h => first | exact absurd rfl h | rfl
    | 7, h => first | exact absurd rfl h | rfl
    | 8, h => first | exact absurd rfl h | rfl
    | 9, h => first | exact absurd rfl h | rfl
    | 10, h => first | exact absurd rfl h | rfl
    | 11, h => first | exact absurd rfl h | rfl
    | 12, h => first | exact absurd rfl h | rfl
    | 13, h => first | exact absurd rfl h | rfl
    | 14, h => first | exact absurd rfl h | rfl
    | 15, h => first | exact absurd rfl h | rfl
    | _ + 16, _ => rfl
  · match k', hk with
    | 0, _ => rfl
    | 1, _ => rfl
    | 2, _ => rfl
    | 3, _ => rfl
    | 4, _ => rfl
    | 5, _ => rfl
    | 6, _ => rfl
    | 7, _ => rfl
    | 8, _ => rfl
    | 9, h => exact absurd rfl h
    | _ + 10, _ => rfl
theorem Ep_m14 {x : Nat} {v : Int32} : u2 (Ew Y ng nr nb s u ad) 9 14 (some (.inl (Y.1, 8, .inl (va_up (fun x => sc u 14 x) x v)))) = Ew Y ng nr nb s (us u 14 x v) ad := by
  refine u2_eq ?_ (fun i' hi => ?_) (fun k' hk => ?_)
  · show some (Sum.inl (_, _, Sum.inl (fun y => sc (us u 14 x v) 14 y))) = _
    congr 6
    funext y
    by_cases hy : y = x <;> simp [sc, us, u2, va_up, hy]
  · match i', hi with
    | 0, h => first | exact absurd rfl h | rfl
    | 1, h => first | exact absurd rfl h | rfl
    | 2, h => first | exact absurd rfl h | rfl
    | 3, h => first | exact absurd rfl h | rfl
    | 4, h => first | exact absurd rfl h | rfl
    | 5, h => first | exact absurd rfl h | rfl
    | 6, h => first | exact absurd rfl h | rfl
    | 7, h => first | exact absurd rfl h | rfl
    | 8, h => first | exact absurd rfl h | rfl
    | 9, h => first | exact absurd rfl h | rfl
    | 10, h => first | exact absurd rfl h | rfl
    | 11, h => first | exact absurd rfl h | rfl
    | 12, h => first | exact absurd rfl h | rfl
    | 13, h => first | exact absurd rfl h | rfl
    | 14, h => first | exact absurd rfl h | rfl
    | 15, h => first | exact absurd rfl h | rfl
    | _ + 16, _ => rfl
  · match k', hk with
    | 0, _ => rfl
    | 1, _ => rfl
    | 2, _ => rfl
    | 3, _ => rfl
    | 4, _ => rfl
    | 5, _ => rfl
    | 6, _ => rfl
    | 7, _ => rfl
    | 8, _ => rfl
    | 9, h => exact absurd rfl h
    | _ + 10, _ => rfl
theorem Ep_m11 {b j : Nat} {v : Int32} (h : j < 30) : u2 (Ew Y ng nr nb s u ad) 9 11 (some (.inl (Y.1, 240, .inl (va_up (fun x => u 11 (x / 30) (x % 30)) (30 * b + j) v)))) = Ew Y ng nr nb s (u2 u 11 b (va_up (u 11 b) j v)) ad := by
  refine u2_eq ?_ (fun i' hi => ?_) (fun k' hk => ?_)
  · show some (Sum.inl (_, _, Sum.inl (fun x => (u2 u 11 b (va_up (u 11 b) j v)) 11 (x / 30) (x % 30)))) = _
    congr 6
    funext y
    by_cases hy : y = 30 * b + j
    · have h1 : y / 30 = b := by omega
      have h2 : y % 30 = j := by omega
      simp [u2, va_up, h1, h2, ← hy]
    · by_cases h1 : y / 30 = b
      · have h2 : y % 30 ≠ j := by omega
        simp [u2, va_up, h1, h2, hy]
      · simp [u2, va_up, h1, hy]
  · match i', hi with
    | 0, h => first | exact absurd rfl h | rfl
    | 1, h => first | exact absurd rfl h | rfl
    | 2, h => first | exact absurd rfl h | rfl
    | 3, h => first | exact absurd rfl h | rfl
    | 4, h => first | exact absurd rfl h | rfl
    | 5, h => first | exact absurd rfl h | rfl
    | 6, h => first | exact absurd rfl h | rfl
    | 7, h => first | exact absurd rfl h | rfl
    | 8, h => first | exact absurd rfl h | rfl
    | 9, h => first | exact absurd rfl h | rfl
    | 10, h => first | exact absurd rfl h | rfl
    | 11, h => first | exact absurd rfl h | rfl
    | 12, h => first | exact absurd rfl h | rfl
    | 13, h => first | exact absurd rfl h | rfl
    | 14, h => first | exact absurd rfl h | rfl
    | 15, h => first | exact absurd rfl h | rfl
    | _ + 16, _ => rfl
  · match k', hk with
    | 0, _ => rfl
    | 1, _ => rfl
    | 2, _ => rfl
    | 3, _ => rfl
    | 4, _ => rfl
    | 5, _ => rfl
    | 6, _ => rfl
    | 7, _ => rfl
    | 8, _ => rfl
    | 9, h => exact absurd rfl h
    | _ + 10, _ => rfl
theorem Ep_m15 {b j : Nat} {v : Int32} (h : j < 40) : u2 (Ew Y ng nr nb s u ad) 9 15 (some (.inl (Y.1, 320, .inl (va_up (fun x => u 15 (x / 40) (x % 40)) (40 * b + j) v)))) = Ew Y ng nr nb s (u2 u 15 b (va_up (u 15 b) j v)) ad := by
  refine u2_eq ?_ (fun i' hi => ?_) (fun k' hk => ?_)
  · show some (Sum.inl (_, _, Sum.inl (fun x => (u2 u 15 b (va_up (u 15 b) j v)) 15 (x / 40) (x % 40)))) = _
    congr 6
    funext y
    by_cases hy : y = 40 * b + j
    · have h1 : y / 40 = b := by omega
      have h2 : y % 40 = j := by omega
      simp [u2, va_up, h1, h2, ← hy]
    · by_cases h1 : y / 40 = b
      · have h2 : y % 40 ≠ j := by omega
        simp [u2, va_up, h1, h2, hy]
      · simp [u2, va_up, h1, hy]
  · match i', hi with
    | 0, h => first | exact absurd rfl h | rfl
    | 1, h => first | exact absurd rfl h | rfl
    | 2, h => first | exact absurd rfl h | rfl
    | 3, h => first | exact absurd rfl h | rfl
    | 4, h => first | exact absurd rfl h | rfl
    | 5, h => first | exact absurd rfl h | rfl
    | 6, h => first | exact absurd rfl h | rfl
    | 7, h => first | exact absurd rfl h | rfl
    | 8, h => first | exact absurd rfl h | rfl
    | 9, h => first | exact absurd rfl h | rfl
    | 10, h => first | exact absurd rfl h | rfl
    | 11, h => first | exact absurd rfl h | rfl
    | 12, h => first | exact absurd rfl h | rfl
    | 13, h => first | exact absurd rfl h | rfl
    | 14, h => first | exact absurd rfl h | rfl
    | 15, h => first | exact absurd rfl h | rfl
    | _ + 16, _ => rfl
  · match k', hk with
    | 0, _ => rfl
    | 1, _ => rfl
    | 2, _ => rfl
    | 3, _ => rfl
    | 4, _ => rfl
    | 5, _ => rfl
    | 6, _ => rfl
    | 7, _ => rfl
    | 8, _ => rfl
    | 9, h => exact absurd rfl h
    | _ + 10, _ => rfl
end EW
