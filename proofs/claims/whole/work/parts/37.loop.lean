theorem le_of_gt {i L : Nat} (hL : L ≤ 2048) (h : ¬ (nI L - 4) < nI i) (hi : i ≤ 2052) : i + 4 ≤ L := by
  have h1 := Int32.le_iff_toInt_le.mp (Int32.not_lt.mp h)
  rw [nI_toInt (by omega), show (nI L - 4).toInt = (L : Int) - 4 from pk_sub_toInt (b := 4) (by omega) (by decide)] at h1
  omega
set_option maxHeartbeats 4000000 in
set_option maxRecDepth 100000 in
theorem law_loop {p : Program} {l : Launch} {e : Env} {s : State} {m : MethodId} {below : List Frame} {meth : Method} {c : Code} {b L : Nat} {xs : Nat → Int32} (hL : L ≤ 2048) (C0 : lw_At p s m meth c b L xs) {G : va_G} {Y : YT} (hK : va_K G vwCl (tysY Y) s) : ∀ (n k ng nr nb : Nat) (z : St) (ad : Nat → Nat → Nat) (H : Heap) (locs : List Loc) (ls : Array Slot), 4 * k ≤ L → L + 4 ≤ 4 * (k + n) → Inv z ng nr nb → wo G s.heap.size (Ew Y ng nr nb z z ad) ad H → va_S (fun q => s.heap.size ≤ q) s.heap H locs → lh ls 4 (fun i9 => (([(0, .ref b), (1, .ref (ad 0 0)), (2, .ref (ad 0 4)), (3, .int (nI (4 * k)))] : List (Nat × Value)).find? (fun q => q.1 == i9)).map (fun q => q.2)) → W p l e room_1 s m #[Value.ref b] below meth c H locs (20 + 6 * k) (784 + 81 * k) (lw_Z below #[Value.ref b] s) (F0 m 18 ls []) := by
  obtain ⟨hx, hb, hr, hml, hown, hts0, hX, hbl, hlocks, hgv⟩ := id C0
  have hbA : ¬ (fun q : Nat => s.heap.size ≤ q) b := Nat.not_le.mpr hbl
  intro n
  induction n with
  | zero =>
    intro k ng nr nb z ad H locs ls h1 h2
    omega
  | succ n ih =>
    intro k ng nr nb z ad H locs ls hk hn hI hw hS hl
    refine f_iload_n hx hb dL_law_18 hl 3 rfl rfl ?_
    refine f_aload_n hx hb dL_law_19 hl 0 rfl rfl ?_
    refine va_slen hx hb hX hbl hbA hS dL_law_20 ?_
    refine lv_iconst (v := 4) hx hb dL_law_21 (by decide) ?_
    refine lv_isub hx hb dL_law_22 ?_
    refine lv_icmp_gt (tgt := 723) hx hb dL_law_23 (by decide) (fun c23 => ?_) (fun c23 => ?_)
    · refine lv_iconst (v := 1) hx hb dL_law_723 (by decide) ?_
      refine va_forget (fun q hq => hS.2.2 q hq) ?_
      refine W.widen (k := 600000) (n := 7302250) (by omega) (by omega) ?_
      exact lw_ret hx hb hr hlocks dL_law_724
    · have hi : 4 * k + 4 ≤ L := le_of_gt hL c23 (by omega)
      refine f_aload_n hx hb dL_law_26 hl 0 rfl rfl ?_
      refine f_iload_n hx hb dL_law_27 hl 3 rfl rfl ?_
      refine va_sld hx hb hX hbl hbA hS (vp_in_nI (by omega) (by omega)) dL_law_28 ?_
      refine lv_bipush (v := 31) hx hb dL_law_29 (by decide) ?_
      refine lv_iand hx hb dL_law_31 ?_
      obtain ⟨q, hq, eq⟩ := pk_andE (xs (nI (4 * k)).toNatClampNeg) (m := 31) 5 (by decide)
      refine f_top eq ?_
      have on : ∀ (ng nr nb : Nat) (z : St) (a : Nat → Nat → Nat) (H : Heap) (locs : List Loc), Inv z ng nr nb → a 0 = ad 0 → wo G s.heap.size (Ew Y ng nr nb z z a) a H → va_S (fun q => s.heap.size ≤ q) s.heap H locs → W p l e room_1 s m #[Value.ref b] below meth c H locs (20 + 6 * k + 6) (784 + 81 * k + 81) (lw_Z below #[Value.ref b] s) (F0 m 717 ls []) := by
        intro ng nr nb z a H locs hI ha hw hS
        refine f_iinc (d := 4) hx hb dL_law_717 hl rfl (by decide) (by decide) (fun ls hl => ?_)
        refine lv_goto (tgt := 18) hx hb dL_law_720 (by decide) ?_
        rw [show nI (4 * k) + 4 = nI (4 * (k + 1)) from nI_add (4 * k) 4] at hl
        refine W.widen (k := 20 + 6 * (k + 1)) (n := 784 + 81 * (k + 1)) (by omega) (by omega) ?_
        exact ih (k + 1) ng nr nb z a H locs ls (by omega) (by omega) hI hw hS (hl.list [(0, .ref b), (1, .ref (a 0 0)), (2, .ref (a 0 4)), (3, .int (nI (4 * (k + 1))))] (List.forall_mem_cons.mpr ⟨rfl, List.forall_mem_cons.mpr ⟨by rw [ha]; rfl, List.forall_mem_cons.mpr ⟨by rw [ha]; rfl, List.forall_mem_cons.mpr ⟨rfl, fun _ h => absurd h List.not_mem_nil⟩⟩⟩⟩))
      by_cases h0 : q = 0
      · subst h0
        refine lv_tableIn (tgt := 124) hx hb dL_law_32 (by decide) (by decide) rfl (by decide) ?_
        exact law_gate hL C0 hI hi hK hw hS hl (by omega) (by omega) on
      by_cases h1 : q = 1
      · subst h1
        refine lv_tableIn (tgt := 137) hx hb dL_law_32 (by decide) (by decide) rfl (by decide) ?_
        exact law_ramp hL C0 hI hi hK hw hS hl (by omega) (by omega) on
      by_cases h2 : q = 2
      · subst h2
        refine lv_tableIn (tgt := 160) hx hb dL_law_32 (by decide) (by decide) rfl (by decide) ?_
        exact law_berth hL C0 hI hi hK hw hS hl (by omega) (by omega) on
      by_cases h3 : q = 3
      · subst h3
        refine lv_tableIn (tgt := 183) hx hb dL_law_32 (by decide) (by decide) rfl (by decide) ?_
        exact law_hinge hL C0 hI hi hK hw hS hl (by omega) (by omega) on
      by_cases h4 : q = 4
      · subst h4
        refine lv_tableIn (tgt := 216) hx hb dL_law_32 (by decide) (by decide) rfl (by decide) ?_
        exact law_lay hL C0 hI hi hK hw hS hl (by omega) (by omega) on
      by_cases h5 : q = 5
      · subst h5
        refine lv_tableIn (tgt := 249) hx hb dL_law_32 (by decide) (by decide) rfl (by decide) ?_
        exact law_shut hL C0 hI hi hK hw hS hl (by omega) (by omega) on
      by_cases h6 : q = 6
      · subst h6
        refine lv_tableIn (tgt := 298) hx hb dL_law_32 (by decide) (by decide) rfl (by decide) ?_
        exact law_arrive hL C0 hI hi hK hw hS hl (by omega) (by omega) on
      by_cases h7 : q = 7
      · subst h7
        refine lv_tableIn (tgt := 331) hx hb dL_law_32 (by decide) (by decide) rfl (by decide) ?_
        exact law_board hL C0 hI hi hK hw hS hl (by omega) (by omega) on
      by_cases h8 : q = 8
      · subst h8
        refine lv_tableIn (tgt := 364) hx hb dL_law_32 (by decide) (by decide) rfl (by decide) ?_
        exact law_land hL C0 hI hi hK hw hS hl (by omega) (by omega) on
      by_cases h9 : q = 9
      · subst h9
        refine lv_tableIn (tgt := 397) hx hb dL_law_32 (by decide) (by decide) rfl (by decide) ?_
        exact law_swap hL C0 hI hi hK hw hS hl (by omega) (by omega) on
      by_cases h10 : q = 10
      · subst h10
        refine lv_tableIn (tgt := 430) hx hb dL_law_32 (by decide) (by decide) rfl (by decide) ?_
        exact law_round hL C0 hI hi hK hw hS hl (by omega) (by omega) on
      by_cases h11 : q = 11
      · subst h11
        refine lv_tableIn (tgt := 463) hx hb dL_law_32 (by decide) (by decide) rfl (by decide) ?_
        exact law_tend hL C0 hI hi hK hw hS hl (by omega) (by omega) on
      by_cases h12 : q = 12
      · subst h12
        refine lv_tableIn (tgt := 486) hx hb dL_law_32 (by decide) (by decide) rfl (by decide) ?_
        exact law_shift hL C0 hI hi hK hw hS hl (by omega) (by omega) on
      by_cases h13 : q = 13
      · subst h13
        refine lv_tableIn (tgt := 529) hx hb dL_law_32 (by decide) (by decide) rfl (by decide) ?_
        exact law_state hL C0 hI hi hK hw hS hl (by omega) (by omega) on
      by_cases h14 : q = 14
      · subst h14
        refine lv_tableIn (tgt := 562) hx hb dL_law_32 (by decide) (by decide) rfl (by decide) ?_
        exact law_waiting hL C0 hI hi hK hw hS hl (by omega) (by omega) on
      by_cases h15 : q = 15
      · subst h15
        refine lv_tableIn (tgt := 595) hx hb dL_law_32 (by decide) (by decide) rfl (by decide) ?_
        exact law_aboard hL C0 hI hi hK hw hS hl (by omega) (by omega) on
      by_cases h16 : q = 16
      · subst h16
        refine lv_tableIn (tgt := 628) hx hb dL_law_32 (by decide) (by decide) rfl (by decide) ?_
        exact law_ofGate hL C0 hI hi hK hw hS hl (by omega) (by omega) on
      by_cases h17 : q = 17
      · subst h17
        refine lv_tableIn (tgt := 661) hx hb dL_law_32 (by decide) (by decide) rfl (by decide) ?_
        exact law_ofRamp hL C0 hI hi hK hw hS hl (by omega) (by omega) on
      by_cases h18 : q = 18
      · subst h18
        refine lv_tableIn (tgt := 694) hx hb dL_law_32 (by decide) (by decide) rfl (by decide) ?_
        exact law_count hL C0 hI hi hK hw hS hl (by omega) (by omega) on
      refine lv_tableOut (tgt := 717) hx hb dL_law_32 (Or.inr (by rw [nI_toInt (by omega)]; omega)) (by decide) ?_
      refine W.widen (k := 20 + 6 * k + 6) (n := 784 + 81 * k + 81) (by omega) (by omega) ?_
      exact on ng nr nb z ad H locs hI rfl hw hS
theorem Ew_start {cI cZ cG cR cB : ClassId} {E0 : Nat → Nat → Option va_E} {a1 a : Nat → Nat → Nat} {x0 x1 : Option va_E} (hE : ∀ k i, E0 k i = none) (ha : a 0 1 = a1 0 1 ∧ a 0 2 = a1 0 2 ∧ a 0 3 = a1 0 3) : moE (cI, cZ, cG, cR, cB) (u2 (fqE (u2 E0 0 0 x0) cG cR cB a1) 0 4 x1) a = Ew (cI, cZ, cG, cR, cB) 0 0 0 z0 z0 a := by
  have hr : ∀ f : Nat → Nat, (fun j => if j < 0 then some (f j) else none) = (fun _ => none : Nat → Option Nat) := fun f => by funext j; simp
  refine Ew_ext ?_ ?_ ?_ ?_ ?_ ?_ ?_ ?_ ?_ ?_ ?_ ?_ ?_ ?_ ?_ ?_ ?_ ?_ ?_ ?_ ?_ ?_ ?_ ?_
  · show some _ = _
    simp only [cFQ, ha.1, ha.2.1, ha.2.2]
    rfl
  · unfold refs
    rw [hr]
    rfl
  · unfold refs
    rw [hr]
    rfl
  · unfold refs
    rw [hr]
    rfl
  · rfl
  · intro i
    simp [moE, u2, va_up, hE]
  · intro i hi
    omega
  · intro i hi
    simp [moE, u2, va_up, hE]
  · intro i hi
    omega
  · intro i hi
    simp [moE, u2, va_up, hE]
  · intro i hi
    omega
  · intro i hi
    simp [moE, u2, va_up, hE]
  · intro i hi
    omega
  · intro i hi
    simp [moE, u2, va_up, hE]
  · intro i hi
    omega
  · intro i hi
    simp [moE, u2, va_up, hE]
  · intro i hi
    omega
  · intro i hi
    simp [moE, u2, va_up, hE]
  · intro i hi
    omega
  · intro i hi
    simp [moE, u2, va_up, hE]
  · intro i hi
    omega
  · intro i hi
    simp [moE, u2, va_up, hE]
  · intro i
    rfl
  · intro k i
    simp [moE, u2, va_up, hE]
set_option maxHeartbeats 4000000 in
set_option maxRecDepth 100000 in
/-- THE LAW, from its entry -/
theorem whole_start {p : Program} {e : Env} {s : State} {m : MethodId} {below : List Frame} {meth : Method} {c : Code} (l : Launch) {b L : Nat} {xs : Nat → Int32} (hL : L ≤ 2048) (C0 : lw_At p s m meth c b L xs) : W p l e room_1 s m #[Value.ref b] below meth c s.heap [] 0 0 (lw_Z below #[Value.ref b] s) (entryFrame m ([Value.ref b] : List Value).toArray 4) := by
  obtain ⟨hx, hb, hr, hml, hown, hts0, hX, hbl, hlocks, hgv⟩ := id C0
  have hts : ∀ w ∈ wsL_law, w.before #[Value.ref b] s = true := fun w h => hts0 w (wsL_law_in w h)
  have hbA : ¬ (fun q : Nat => s.heap.size ≤ q) b := Nat.not_le.mpr hbl
  obtain ⟨c0, iS0, hKn0⟩ := u_known (C := RX0) (T := TX0) (N := 4) (n := 4) hts inlX0 (hts (.instantiable RX0 4) (by decide +kernel))
  obtain ⟨c1, iS1, hKn1⟩ := u_known (C := RX1) (T := TX1) (N := 3) (n := 3) hts inlX1 (hts (.instantiable RX1 3) (by decide +kernel))
  obtain ⟨c2, iS2, hKn2⟩ := u_known (C := RX2) (T := TX2) (N := 4) (n := 4) hts inlX2 (hts (.instantiable RX2 4) (by decide +kernel))
  obtain ⟨c3, iS3, hKn3⟩ := u_known (C := RX3) (T := TX3) (N := 4) (n := 4) hts inlX3 (hts (.instantiable RX3 4) (by decide +kernel))
  obtain ⟨c4, iS4, hKn4⟩ := u_known (C := RX4) (T := TX4) (N := 2) (n := 2) hts inlX4 (hts (.instantiable RX4 2) (by decide +kernel))
  obtain ⟨c5, iS5, hKn5⟩ := u_known (C := RX5) (T := TX5) (N := 10) (n := 10) hts inlX5 (hts (.instantiable RX5 10) (by decide +kernel))
  obtain ⟨c6, iS6, hKn6⟩ := u_known (C := RX6) (T := TX6) (N := 22) (n := 22) hts inlX6 (hts (.instantiable RX6 22) (by decide +kernel))
  obtain ⟨dC, dI, hKc⟩ : ∃ (dC : Nat → ClassId) (dI : Nat → Nat → Nat), ∀ (k : Nat) (q : vw_C), vwCl[k]? = some q → u_Kn s q.1 q.2.1 q.2.2 (dC k) (dI k) := by
    refine ⟨fun k => if k = 0 then c0 else if k = 1 then c1 else if k = 2 then c2 else if k = 3 then c3 else if k = 4 then c4 else if k = 5 then c5 else c6, fun k => if k = 0 then iS0 else if k = 1 then iS1 else if k = 2 then iS2 else if k = 3 then iS3 else if k = 4 then iS4 else if k = 5 then iS5 else iS6, ?_⟩
    intro k q hq
    match k, hq with
    | 0, hq => cases hq; exact hKn0
    | 1, hq => cases hq; exact hKn1
    | 2, hq => cases hq; exact hKn2
    | 3, hq => cases hq; exact hKn3
    | 4, hq => cases hq; exact hKn4
    | 5, hq => cases hq; exact hKn5
    | 6, hq => cases hq; exact hKn6
    | k + 7, hq => simp [vwCl] at hq
  have hK : va_K (dC, dI) vwCl [] s := ⟨hKc, fun k q h => by simp at h⟩
  have hS : va_S (fun q : Nat => s.heap.size ≤ q) s.heap s.heap [] := va_S.rf
  have hw : wo (dC, dI) s.heap.size (fun _ _ => none) (fun _ _ => 0) s.heap := by
    refine ⟨Nat.le_refl _, ?_, ?_⟩
    · intro k i e h
      cases h
    · intro k i k' i' e e' h
      cases h
  have hl := lh.of (lv_entry ([.ref b]) (n := 4) (Nat.le_of_ble_eq_true rfl)) rfl
  rw [lg_entry_eq]
  generalize (lg_sl ([.ref b]) ++ List.replicate (4 - (lg_sl ([.ref b])).length) Slot.unset).toArray = ls at hl ⊢
  refine e_new (C := RX5) (T := TX5) (N := 10) (ci := 5) (fs := [.null, .null, .null, .int 0, .int 0, .int 0, .int 0, .int 0, .int 0, .int 0]) hx hb hts inlX5 tyX5 tyX5_ok hown (hts (.classLink RL 7 RX5) (by decide +kernel)) (hts (.instantiable RX5 10) (by decide +kernel)) (hts (.initialized RX5) (by decide +kernel)) hK hw hS rfl 0 0 rfl (fun j hj => by rcases (show j = 0 ∨ j = 1 ∨ j = 2 ∨ j = 3 ∨ j = 4 ∨ j = 5 ∨ j = 6 ∨ j = 7 ∨ j = 8 ∨ j = 9 by omega) with rfl | rfl | rfl | rfl | rfl | rfl | rfl | rfl | rfl | rfl <;> rfl) (Nat.le_of_ble_eq_true rfl) (Nat.le_of_ble_eq_true rfl) dL_law_0 (fun H ad0 had0 hw hS => ?_)
  refine lv_dup hx hb dL_law_3 rfl ?_
  have hJ2 : va_AO RX2 s := va_AO.of (hts0 (.arrayOver (.object RX2)) (by decide +kernel))
  have hJ3 : va_AO RX3 s := va_AO.of (hts0 (.arrayOver (.object RX3)) (by decide +kernel))
  have hJ0 : va_AO RX0 s := va_AO.of (hts0 (.arrayOver (.object RX0)) (by decide +kernel))
  refine q_cva (va_runI (As := []) (rest := [.ref (ad0 0 0)]) ⟨hx, hb, hml, hown, hts⟩ (c_X5_init l (E := u2 (fun _ _ => none) 0 0 (fq3 .null .null .null)) (ad := ad0) (G := (dC, dI)) (lo := s.heap.size) u2_self rfl rfl rfl) (cwI 0 hts gL_law_X5_init rfl rfl rfl (hts (.initialized RX5) (by decide +kernel)) (hts (.methodLink RL 9 yX5_init) (by decide +kernel)) (hts (.instanceMethod yX5_init) (by decide +kernel)) rfl (by decide +kernel) ⟨Nat.le_of_ble_eq_true rfl, Nat.le_of_ble_eq_true rfl⟩) ⟨fun a U g mk q => ⟨q.1, ⟨q.2.1.1, va_K.moved (u := U) (U := U.calling g mk a) (Vm.Alike.refl U.vm) q.2.1.2⟩, va_AO.moved (u := U) (U := U.calling g mk a) (Vm.Alike.refl U.vm) q.2.2.1, va_AO.moved (u := U) (U := U.calling g mk a) (Vm.Alike.refl U.vm) q.2.2.2.1, va_AO.moved (u := U) (U := U.calling g mk a) (Vm.Alike.refl U.vm) q.2.2.2.2⟩, fun U hU hW => ⟨rfl, ⟨by rw [hU]; exact hw, va_K.moved hW.alike hK⟩, va_AO.moved hW.alike hJ2, va_AO.moved hW.alike hJ3, va_AO.moved hW.alike hJ0⟩⟩ rfl rfl hl.1 rfl (lv_room (by simp [Value.category])) dL_law_4 ⟨Nat.le_of_ble_eq_true rfl, Nat.le_of_ble_eq_true rfl⟩) hS (fun ad1 tys1 H locs hX1 hK hw hS => ?_)
  obtain ⟨cG, cR, cB, hty, ha1⟩ := hX1
  dsimp only at hty ha1
  subst hty
  refine f_val (congrArg Value.ref ha1.symm) ?_
  refine f_astore_n hx hb dL_law_7 hl 1 rfl (by decide) (fun ls hl => ?_)
  refine e_new (C := RX6) (T := TX6) (N := 22) (ci := 6) (fs := blank6) hx hb hts inlX6 tyX6 tyX6_ok hown (hts (.classLink RL 10 RX6) (by decide +kernel)) (hts (.instantiable RX6 22) (by decide +kernel)) (hts (.initialized RX6) (by decide +kernel)) hK hw hS rfl 0 4 (by simp [u2, va_up]) (fun j hj => by rcases (show j = 0 ∨ j = 1 ∨ j = 2 ∨ j = 3 ∨ j = 4 ∨ j = 5 ∨ j = 6 ∨ j = 7 ∨ j = 8 ∨ j = 9 ∨ j = 10 ∨ j = 11 ∨ j = 12 ∨ j = 13 ∨ j = 14 ∨ j = 15 ∨ j = 16 ∨ j = 17 ∨ j = 18 ∨ j = 19 ∨ j = 20 ∨ j = 21 by omega) with rfl | rfl | rfl | rfl | rfl | rfl | rfl | rfl | rfl | rfl | rfl | rfl | rfl | rfl | rfl | rfl | rfl | rfl | rfl | rfl | rfl | rfl <;> rfl) (Nat.le_of_ble_eq_true rfl) (Nat.le_of_ble_eq_true rfl) dL_law_8 (fun H ad2 had2 hw hS => ?_)
  refine lv_dup hx hb dL_law_11 rfl ?_
  refine q_cva (q_runI (As := []) (rest := [.ref (ad2 0 4)]) ⟨hx, hb, hml, hown, hts⟩ (c_X6_init l (E := u2 (fqE (u2 (fun _ _ => none) 0 0 (fq3 .null .null .null)) cG cR cB ad1) 0 4 (some (.inr (6, blank6)))) (ad := ad2) (cG := cG) (cR := cR) (cB := cB) u2_self (fun i => by simp [u2, va_up])) (cwI 0 hts gL_law_X6_init rfl rfl rfl (hts (.initialized RX6) (by decide +kernel)) (hts (.methodLink RL 12 yX6_init) (by decide +kernel)) (hts (.instanceMethod yX6_init) (by decide +kernel)) rfl (by decide +kernel) ⟨Nat.le_of_ble_eq_true rfl, Nat.le_of_ble_eq_true rfl⟩) hK hw rfl hl.1 rfl (by simp [Value.category]) dL_law_12 ⟨Nat.le_of_ble_eq_true rfl, Nat.le_of_ble_eq_true rfl⟩) hS (fun ad3 tys3 H locs hX3 hK hw hS => ?_)
  obtain ⟨cI, cZ, hty, ha3⟩ := hX3
  dsimp only at hty ha3
  subst hty
  have h0 := ha3 0 (by decide)
  have hw := hw.cast (E' := Ew (cI, cZ, cG, cR, cB) 0 0 0 z0 z0 ad3) (Ew_start (fun _ _ => rfl) ⟨by rw [h0, had2, u2_i (by decide)], by rw [h0, had2, u2_i (by decide)], by rw [h0, had2, u2_i (by decide)]⟩)
  refine f_val (y := .ref (ad3 0 4)) (by rw [h0]) ?_
  refine f_astore_n hx hb dL_law_15 hl 2 rfl (by decide) (fun ls hl => ?_)
  refine lv_iconst (v := 0) hx hb dL_law_16 (by decide) ?_
  refine f_top (y := nI (4 * 0)) rfl ?_
  refine f_istore_n hx hb dL_law_17 hl 3 rfl (by decide) (fun ls hl => ?_)
  refine W.widen (k := 20 + 6 * 0) (n := 784 + 81 * 0) (by decide) (by decide) ?_
  have e0 : ad1 0 0 = ad3 0 0 := by rw [h0, had2, u2_i (by decide)]
  exact law_loop hL C0 hK (L + 1) 0 0 0 0 z0 ad3 H locs ls (by omega) (by omega) iv_0 hw hS (hl.list [(0, .ref b), (1, .ref (ad3 0 0)), (2, .ref (ad3 0 4)), (3, .int (nI (4 * 0)))] (List.forall_mem_cons.mpr ⟨rfl, List.forall_mem_cons.mpr ⟨by rw [← e0]; rfl, List.forall_mem_cons.mpr ⟨rfl, List.forall_mem_cons.mpr ⟨rfl, fun _ h => absurd h List.not_mem_nil⟩⟩⟩⟩))
