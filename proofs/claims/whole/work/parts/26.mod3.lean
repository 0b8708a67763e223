set_option maxHeartbeats 4000000 in
set_option maxRecDepth 100000 in
theorem c_X6_goes (l : Launch) {G : va_G} {Y : YT} {lo : Nat} {ad : Nat → Nat → Nat} {ng nr nb : Nat} {z u : St} (hI : Inv u ng nr nb) {j : Nat} (hj : j < nb) (h0 : 0 < ln u j) : Met l yX6_goes wsX6_goes ({ frames := 0, cells := 0, slots := 0, locals := 0 }) (va_Pc [.ref (ad 0 4), .int (nI j)] (cS G (tysY Y) lo (Ew Y ng nr nb z u ad) ad)) (QI G (tysY Y) lo (u 11 j 0) (Ew Y ng nr nb z (goes u j) ad) ad) 0 0 (fun q => lo ≤ q) := by
  refine met_of (cc := cX6_goes) (maxL := 4) (ret := (some .int)) (by decide) rfl (Nat.le_of_ble_eq_true rfl) rfl ?_
  intro p e s m below meth c ls hx hb hr hlk hml hts hown hnm hw hK hl hS
  have i6 : ∀ w ∈ wsX60, w ∈ wsX6_goes := by decide +kernel
  have hng := hI.mg
  have hnr := hI.mr
  have hnb := hI.mb
  obtain ⟨hL, hLn⟩ := hI.lane hj
  refine f_aload_n hx hb dX6_goes_0 hl 0 rfl rfl ?_
  refine e_get (C := RX6) (T := TX6) (N := 22) hx hb hts i6 hown hK hw Ew_mo rfl 17 (by decide) (hts (.fieldLink RX6 41 "FerryQuayModel" "lane" "[I") (by decide +kernel)) rfl dX6_goes_1 ?_
  refine lv_bipush (v := 30) hx hb dX6_goes_4 (by decide) ?_
  refine f_iload_n hx hb dX6_goes_6 hl 1 rfl rfl ?_
  refine lv_imul hx hb dX6_goes_7 ?_
  refine f_top (idx_mul (k := 30) rfl j) ?_
  refine e_ialdN hx hb hK hw 0 Ew_m11 rfl rfl (by omega) (by decide) dX6_goes_8 ?_
  refine f_top (y := u 11 j 0) fl30z ?_
  refine f_istore_n hx hb dX6_goes_9 hl 2 rfl (by decide) (fun ls hl => ?_)
  refine f_aload_n hx hb dX6_goes_10 hl 0 rfl rfl ?_
  refine e_get (C := RX6) (T := TX6) (N := 22) hx hb hts i6 hown hK hw Ew_mo rfl 16 (by decide) (hts (.fieldLink RX6 38 "FerryQuayModel" "waits" "[I") (by decide +kernel)) rfl dX6_goes_11 ?_
  refine f_iload_n hx hb dX6_goes_14 hl 1 rfl rfl ?_
  refine lv_dup2_11 hx hb dX6_goes_15 rfl rfl ?_
  refine e_ialdN hx hb hK hw 0 Ew_m10 rfl rfl (by omega) (by decide) dX6_goes_16 ?_
  refine lv_iconst (v := 1) hx hb dX6_goes_17 (by decide) ?_
  refine lv_isub hx hb dX6_goes_18 ?_
  refine f_top ((congrArg (fun q => q - 1) hLn).trans (nI_s1 h0)) ?_
  refine e_iastN hx hb hK hw hS 0 Ew_m10 rfl rfl (by omega) (by decide) dX6_goes_19 (fun H locs hw hS => ?_)
  have hw := hw.cast Ep_m10
  refine lv_iconst (v := 0) hx hb dX6_goes_20 (by decide) ?_
  refine f_top (y := nI 0) rfl ?_
  refine f_istore_n hx hb dX6_goes_21 hl 3 rfl (by decide) (fun ls hl => ?_)
  have loop : ∀ (t : Nat) (k : Nat) (zc : St) (H : Heap) (locs : List Loc) (ls : Array Slot), k + t = ln u j - 1 → zc = u2 (us u 10 j (nI (ln u j - 1))) 11 j (va_cpy (u 11 j) (u 11 j) 1 0 k) → wo G lo (Ew Y ng nr nb z zc ad) ad H → va_S (fun q => lo ≤ q) s.heap H locs → lh ls 4 (fun i9 => ([(0, .ref (ad 0 4)), (1, .int (nI j)), (2, .int (u 11 j 0)), (3, .int (nI k))].find? (fun q => q.1 == i9)).map (fun q => q.2)) → W p l e (headSpec wsX6_goes ({ frames := 0, cells := 0, slots := 0, locals := 0 })).room s m ([.ref (ad 0 4), .int (nI j)] : List Value).toArray below meth c H locs 0 0 (MQ below (QI G (tysY Y) lo (u 11 j 0) (Ew Y ng nr nb z (goes u j) ad) ad) ([.ref (ad 0 4), .int (nI j)] : List Value).toArray s 0 0 (fun q => lo ≤ q)) (F0 m 22 ls []) := by
    intro t
    induction t with
    | zero =>
      intro k zc H locs ls hkt hz hw hS hl
      subst hz
      refine f_iload_n hx hb dX6_goes_22 hl 3 rfl rfl ?_
      refine f_aload_n hx hb dX6_goes_23 hl 0 rfl rfl ?_
      refine e_get (C := RX6) (T := TX6) (N := 22) hx hb hts i6 hown hK hw Ew_mo rfl 16 (by decide) (hts (.fieldLink RX6 38 "FerryQuayModel" "waits" "[I") (by decide +kernel)) rfl dX6_goes_24 ?_
      refine f_iload_n hx hb dX6_goes_27 hl 1 rfl rfl ?_
      refine e_ialdN hx hb hK hw 0 Ew_m10 rfl rfl (by omega) (by decide) dX6_goes_28 ?_
      refine f_top (y := nI (ln u j - 1)) (sc_s (s := u) (k := 10) (i := j) (v := nI (ln u j - 1))) ?_
      refine lv_icmp_ge (tgt := 62) hx hb dX6_goes_29 (by decide) (fun c29 => ?_) (fun c29 => absurd (nI_le (by omega) (by omega)) c29)
      refine f_iload_n hx hb dX6_goes_62 hl 2 rfl rfl ?_
      exact q_iret hx hb hr hlk hK hw hS dX6_goes_63 rfl (by rw [show k = ln u j - 1 by omega])
    | succ t ih =>
      intro k zc H locs ls hkt hz hw hS hl
      subst hz
      refine f_iload_n hx hb dX6_goes_22 hl 3 rfl rfl ?_
      refine f_aload_n hx hb dX6_goes_23 hl 0 rfl rfl ?_
      refine e_get (C := RX6) (T := TX6) (N := 22) hx hb hts i6 hown hK hw Ew_mo rfl 16 (by decide) (hts (.fieldLink RX6 38 "FerryQuayModel" "waits" "[I") (by decide +kernel)) rfl dX6_goes_24 ?_
      refine f_iload_n hx hb dX6_goes_27 hl 1 rfl rfl ?_
      refine e_ialdN hx hb hK hw 0 Ew_m10 rfl rfl (by omega) (by decide) dX6_goes_28 ?_
      refine f_top (y := nI (ln u j - 1)) (sc_s (s := u) (k := 10) (i := j) (v := nI (ln u j - 1))) ?_
      refine lv_icmp_ge (tgt := 62) hx hb dX6_goes_29 (by decide) (fun c29 => absurd c29 (nI_ge (by omega) (by omega))) (fun c29 => ?_)
      refine f_aload_n hx hb dX6_goes_32 hl 0 rfl rfl ?_
      refine e_get (C := RX6) (T := TX6) (N := 22) hx hb hts i6 hown hK hw Ew_mo rfl 17 (by decide) (hts (.fieldLink RX6 41 "FerryQuayModel" "lane" "[I") (by decide +kernel)) rfl dX6_goes_33 ?_
      refine lv_bipush (v := 30) hx hb dX6_goes_36 (by decide) ?_
      refine f_iload_n hx hb dX6_goes_38 hl 1 rfl rfl ?_
      refine lv_imul hx hb dX6_goes_39 ?_
      refine f_iload_n hx hb dX6_goes_40 hl 3 rfl rfl ?_
      refine lv_iadd hx hb dX6_goes_41 ?_
      refine f_top (idx_add (k := 30) rfl rfl) ?_
      refine f_aload_n hx hb dX6_goes_42 hl 0 rfl rfl ?_
      refine e_get (C := RX6) (T := TX6) (N := 22) hx hb hts i6 hown hK hw Ew_mo rfl 17 (by decide) (hts (.fieldLink RX6 41 "FerryQuayModel" "lane" "[I") (by decide +kernel)) rfl dX6_goes_43 ?_
      refine lv_bipush (v := 30) hx hb dX6_goes_46 (by decide) ?_
      refine f_iload_n hx hb dX6_goes_48 hl 1 rfl rfl ?_
      refine lv_imul hx hb dX6_goes_49 ?_
      refine f_iload_n hx hb dX6_goes_50 hl 3 rfl rfl ?_
      refine lv_iadd hx hb dX6_goes_51 ?_
      refine lv_iconst (v := 1) hx hb dX6_goes_52 (by decide) ?_
      refine lv_iadd hx hb dX6_goes_53 ?_
      refine f_top (y := nI (30 * j + (k + 1))) (by rw [idx_add (m := 30) (k := 30) rfl rfl, nI_1]; rfl) ?_
      refine e_ialdN hx hb hK hw 0 Ew_m11 rfl rfl (by omega) (by decide) dX6_goes_54 ?_
      refine f_top (y := u 11 j (k + 1)) ((fl30 (by omega)).trans ((congrFun (u2_self (f := us u 10 j (nI (ln u j - 1))) (k := 11) (i := j)) (k + 1)).trans (cpy_at (by omega)))) ?_
      refine e_iastN hx hb hK hw hS 0 Ew_m11 rfl rfl (by omega) (by decide) dX6_goes_55 (fun H locs hw hS => ?_)
      have hw := hw.cast (Ep_m11 (b := j) (j := k) (by omega))
      refine f_iinc (d := 1) hx hb dX6_goes_56 hl rfl (by decide) (by decide) (fun ls hl => ?_)
      rw [nI_1] at hl
      refine lv_goto (tgt := 22) hx hb dX6_goes_59 (by decide) ?_
      exact ih (k + 1) _ _ _ _ (by omega) (by rw [u2_self, u2_uu, cpy_step]) hw hS (hl.list [(0, .ref (ad 0 4)), (1, .int (nI j)), (2, .int (u 11 j 0)), (3, .int (nI (k + 1)))] (List.forall_mem_cons.mpr ⟨rfl, List.forall_mem_cons.mpr ⟨rfl, List.forall_mem_cons.mpr ⟨rfl, List.forall_mem_cons.mpr ⟨rfl, fun _ h => absurd h List.not_mem_nil⟩⟩⟩⟩))
  exact loop (ln u j - 1) 0 _ _ _ _ (by omega) (by rw [cpy0]; exact (u2_same (f := us u 10 j (nI (ln u j - 1))) (k := 11) (i := j)).symm) hw hS (hl.list [(0, .ref (ad 0 4)), (1, .int (nI j)), (2, .int (u 11 j 0)), (3, .int (nI 0))] (List.forall_mem_cons.mpr ⟨rfl, List.forall_mem_cons.mpr ⟨rfl, List.forall_mem_cons.mpr ⟨rfl, List.forall_mem_cons.mpr ⟨rfl, fun _ h => absurd h List.not_mem_nil⟩⟩⟩⟩))
set_option maxHeartbeats 4000000 in
set_option maxRecDepth 100000 in
theorem c_X6_board (l : Launch) {G : va_G} {Y : YT} {lo : Nat} {ad : Nat → Nat → Nat} {ng nr nb : Nat} {z u : St} (hI : Inv u ng nr nb) (x n : Int32) : Met l yX6_board wsX6_board ({ frames := 1, cells := 0, slots := 0, locals := 23 }) (va_Pc [.ref (ad 0 4), .int x, .int n] (cS G (tysY Y) lo (Ew Y ng nr nb z u ad) ad)) (QI G (tysY Y) lo (sp_board nb u x n).1 (Ew Y ng nr nb z (sp_board nb u x n).2 ad) ad) 0 0 (fun q => lo ≤ q) := by
  refine met_of (cc := cX6_board) (maxL := 10) (ret := (some .int)) (by decide) rfl (Nat.le_of_ble_eq_true rfl) rfl ?_
  intro p e s m below meth c ls hx hb hr hlk hml hts hown hnm hw hK hl hS
  have i6 : ∀ w ∈ wsX60, w ∈ wsX6_board := by decide +kernel
  have hng := hI.mg
  have hnr := hI.mr
  have hnb := hI.mb
  rcases ix_cases x hI.nb2 with ⟨hix, hbad⟩ | ⟨j, hj, rfl, hix⟩
  · refine f_aload_n hx hb dX6_board_0 hl 0 rfl rfl ?_
    refine f_iload_n hx hb dX6_board_1 hl 1 rfl rfl ?_
    refine q_ci (q_runV (C := RX6) (T := TX6) (N := 22) ⟨hx, hb, hml, hown, hts⟩ (c_X6_isBerth l hI x) (cwV 1 hts gX6_board_X6_isBerth rfl rfl rfl (by decide +kernel) ⟨Nat.le_of_ble_eq_true rfl, Nat.le_of_ble_eq_true rfl⟩) hK hw Ew_mo rfl rfl hl.1 rfl (by simp [Value.category, va_rf]) dX6_board_2 ⟨Nat.le_of_ble_eq_true rfl, Nat.le_of_ble_eq_true rfl⟩) hS (fun H locs hw hS => ?_)
    refine f_top (y := 0) (is_bad hbad) ?_
    refine lv_if_eq (tgt := 19) hx hb dX6_board_5 (by decide) (fun c5 => ?_) (fun c5 => absurd (by decide) c5)
    refine lv_bipush (v := (-2)) hx hb dX6_board_19 (by decide) ?_
    exact q_ism hx hb hr hlk hK hw hS dX6_board_21 (by rw [sp_board, hix]; exact rfl)
  · by_cases h1 : n < 1
    · refine f_aload_n hx hb dX6_board_0 hl 0 rfl rfl ?_
      refine f_iload_n hx hb dX6_board_1 hl 1 rfl rfl ?_
      refine q_ci (q_runV (C := RX6) (T := TX6) (N := 22) ⟨hx, hb, hml, hown, hts⟩ (c_X6_isBerth l hI (nI j)) (cwV 1 hts gX6_board_X6_isBerth rfl rfl rfl (by decide +kernel) ⟨Nat.le_of_ble_eq_true rfl, Nat.le_of_ble_eq_true rfl⟩) hK hw Ew_mo rfl rfl hl.1 rfl (by simp [Value.category, va_rf]) dX6_board_2 ⟨Nat.le_of_ble_eq_true rfl, Nat.le_of_ble_eq_true rfl⟩) hS (fun H locs hw hS => ?_)
      refine f_top (y := 1) (is_ok hj hI.nb2) ?_
      refine lv_if_eq (tgt := 19) hx hb dX6_board_5 (by decide) (fun c5 => absurd c5 (by decide)) (fun c5 => ?_)
      refine f_iload_n hx hb dX6_board_8 hl 2 rfl rfl ?_
      refine lv_iconst (v := 1) hx hb dX6_board_9 (by decide) ?_
      refine lv_icmp_lt (tgt := 19) hx hb dX6_board_10 (by decide) (fun c10 => ?_) (fun c10 => absurd h1 c10)
      refine lv_bipush (v := (-2)) hx hb dX6_board_19 (by decide) ?_
      exact q_ism hx hb hr hlk hK hw hS dX6_board_21 (by rw [sp_board, hix]; dsimp only [Option.elim]; exact (if_pos h1))
    · by_cases h2 : 30 < n
      · refine f_aload_n hx hb dX6_board_0 hl 0 rfl rfl ?_
        refine f_iload_n hx hb dX6_board_1 hl 1 rfl rfl ?_
        refine q_ci (q_runV (C := RX6) (T := TX6) (N := 22) ⟨hx, hb, hml, hown, hts⟩ (c_X6_isBerth l hI (nI j)) (cwV 1 hts gX6_board_X6_isBerth rfl rfl rfl (by decide +kernel) ⟨Nat.le_of_ble_eq_true rfl, Nat.le_of_ble_eq_true rfl⟩) hK hw Ew_mo rfl rfl hl.1 rfl (by simp [Value.category, va_rf]) dX6_board_2 ⟨Nat.le_of_ble_eq_true rfl, Nat.le_of_ble_eq_true rfl⟩) hS (fun H locs hw hS => ?_)
        refine f_top (y := 1) (is_ok hj hI.nb2) ?_
        refine lv_if_eq (tgt := 19) hx hb dX6_board_5 (by decide) (fun c5 => absurd c5 (by decide)) (fun c5 => ?_)
        refine f_iload_n hx hb dX6_board_8 hl 2 rfl rfl ?_
        refine lv_iconst (v := 1) hx hb dX6_board_9 (by decide) ?_
        refine lv_icmp_lt (tgt := 19) hx hb dX6_board_10 (by decide) (fun c10 => absurd c10 h1) (fun c10 => ?_)
        refine f_iload_n hx hb dX6_board_13 hl 2 rfl rfl ?_
        refine lv_bipush (v := 30) hx hb dX6_board_14 (by decide) ?_
        refine lv_icmp_le (tgt := 22) hx hb dX6_board_16 (by decide) (fun c16 => absurd c16 (Int32.not_le.mpr h2)) (fun c16 => ?_)
        refine lv_bipush (v := (-2)) hx hb dX6_board_19 (by decide) ?_
        exact q_ism hx hb hr hlk hK hw hS dX6_board_21 (by rw [sp_board, hix]; dsimp only [Option.elim]; exact (Eq.trans (if_neg h1) (if_pos h2)))
      · obtain ⟨hL, hLn⟩ := hI.lane hj
        obtain ⟨f, hf, hF, hFt⟩ := hI.ferry hj
        rcases hI.gate hj with hG | ⟨g, hg, hG, hGt⟩
        · refine f_aload_n hx hb dX6_board_0 hl 0 rfl rfl ?_
          refine f_iload_n hx hb dX6_board_1 hl 1 rfl rfl ?_
          refine q_ci (q_runV (C := RX6) (T := TX6) (N := 22) ⟨hx, hb, hml, hown, hts⟩ (c_X6_isBerth l hI (nI j)) (cwV 1 hts gX6_board_X6_isBerth rfl rfl rfl (by decide +kernel) ⟨Nat.le_of_ble_eq_true rfl, Nat.le_of_ble_eq_true rfl⟩) hK hw Ew_mo rfl rfl hl.1 rfl (by simp [Value.category, va_rf]) dX6_board_2 ⟨Nat.le_of_ble_eq_true rfl, Nat.le_of_ble_eq_true rfl⟩) hS (fun H locs hw hS => ?_)
          refine f_top (y := 1) (is_ok hj hI.nb2) ?_
          refine lv_if_eq (tgt := 19) hx hb dX6_board_5 (by decide) (fun c5 => absurd c5 (by decide)) (fun c5 => ?_)
          refine f_iload_n hx hb dX6_board_8 hl 2 rfl rfl ?_
          refine lv_iconst (v := 1) hx hb dX6_board_9 (by decide) ?_
          refine lv_icmp_lt (tgt := 19) hx hb dX6_board_10 (by decide) (fun c10 => absurd c10 h1) (fun c10 => ?_)
          refine f_iload_n hx hb dX6_board_13 hl 2 rfl rfl ?_
          refine lv_bipush (v := 30) hx hb dX6_board_14 (by decide) ?_
          refine lv_icmp_le (tgt := 22) hx hb dX6_board_16 (by decide) (fun c16 => ?_) (fun c16 => absurd (Int32.not_lt.mp h2) c16)
          refine f_aload_n hx hb dX6_board_22 hl 0 rfl rfl ?_
          refine e_get (C := RX6) (T := TX6) (N := 22) hx hb hts i6 hown hK hw Ew_mo rfl 13 (by decide) (hts (.fieldLink RX6 29 "FerryQuayModel" "gateOf" "[I") (by decide +kernel)) rfl dX6_board_23 ?_
          refine f_iload_n hx hb dX6_board_26 hl 1 rfl rfl ?_
          refine e_ialdN hx hb hK hw 0 Ew_m7 rfl rfl (by omega) (by decide) dX6_board_27 ?_
          refine f_istore_n hx hb dX6_board_28 hl 3 rfl (by decide) (fun ls hl => ?_)
          refine f_iload_n hx hb dX6_board_29 hl 3 rfl rfl ?_
          refine lv_iconst (v := (-1)) hx hb dX6_board_30 (by decide) ?_
          refine lv_icmp_ne (tgt := 37) hx hb dX6_board_31 (by decide) (fun c31 => absurd hG c31) (fun c31 => ?_)
          refine lv_bipush (v := (-4)) hx hb dX6_board_34 (by decide) ?_
          exact q_ism hx hb hr hlk hK hw hS dX6_board_36 (by rw [sp_board, hix]; dsimp only [Option.elim]; exact (Eq.trans (if_neg h1) (Eq.trans (if_neg h2) (if_pos hG))))
        · refine f_aload_n hx hb dX6_board_0 hl 0 rfl rfl ?_
          refine f_iload_n hx hb dX6_board_1 hl 1 rfl rfl ?_
          refine q_ci (q_runV (C := RX6) (T := TX6) (N := 22) ⟨hx, hb, hml, hown, hts⟩ (c_X6_isBerth l hI (nI j)) (cwV 1 hts gX6_board_X6_isBerth rfl rfl rfl (by decide +kernel) ⟨Nat.le_of_ble_eq_true rfl, Nat.le_of_ble_eq_true rfl⟩) hK hw Ew_mo rfl rfl hl.1 rfl (by simp [Value.category, va_rf]) dX6_board_2 ⟨Nat.le_of_ble_eq_true rfl, Nat.le_of_ble_eq_true rfl⟩) hS (fun H locs hw hS => ?_)
          refine f_top (y := 1) (is_ok hj hI.nb2) ?_
          refine lv_if_eq (tgt := 19) hx hb dX6_board_5 (by decide) (fun c5 => absurd c5 (by decide)) (fun c5 => ?_)
          refine f_iload_n hx hb dX6_board_8 hl 2 rfl rfl ?_
          refine lv_iconst (v := 1) hx hb dX6_board_9 (by decide) ?_
          refine lv_icmp_lt (tgt := 19) hx hb dX6_board_10 (by decide) (fun c10 => absurd c10 h1) (fun c10 => ?_)
          refine f_iload_n hx hb dX6_board_13 hl 2 rfl rfl ?_
          refine lv_bipush (v := 30) hx hb dX6_board_14 (by decide) ?_
          refine lv_icmp_le (tgt := 22) hx hb dX6_board_16 (by decide) (fun c16 => ?_) (fun c16 => absurd (Int32.not_lt.mp h2) c16)
          refine f_aload_n hx hb dX6_board_22 hl 0 rfl rfl ?_
          refine e_get (C := RX6) (T := TX6) (N := 22) hx hb hts i6 hown hK hw Ew_mo rfl 13 (by decide) (hts (.fieldLink RX6 29 "FerryQuayModel" "gateOf" "[I") (by decide +kernel)) rfl dX6_board_23 ?_
          refine f_iload_n hx hb dX6_board_26 hl 1 rfl rfl ?_
          refine e_ialdN hx hb hK hw 0 Ew_m7 rfl rfl (by omega) (by decide) dX6_board_27 ?_
          refine f_top (y := nI g) hG ?_
          refine f_istore_n hx hb dX6_board_28 hl 3 rfl (by decide) (fun ls hl => ?_)
          refine f_iload_n hx hb dX6_board_29 hl 3 rfl rfl ?_
          refine lv_iconst (v := (-1)) hx hb dX6_board_30 (by decide) ?_
          refine lv_icmp_ne (tgt := 37) hx hb dX6_board_31 (by decide) (fun c31 => ?_) (fun c31 => absurd c31 (nI_m1 (by omega)))
          refine f_aload_n hx hb dX6_board_37 hl 0 rfl rfl ?_
          refine e_get (C := RX6) (T := TX6) (N := 22) hx hb hts i6 hown hK hw Ew_mo rfl 8 (by decide) (hts (.fieldLink RX6 13 "FerryQuayModel" "gateTaken" "[I") (by decide +kernel)) rfl dX6_board_38 ?_
          refine f_iload_n hx hb dX6_board_41 hl 3 rfl rfl ?_
          refine lv_dup2_11 hx hb dX6_board_42 rfl rfl ?_
          refine e_ialdN hx hb hK hw 0 Ew_m2 rfl rfl (by omega) (by decide) dX6_board_43 ?_
          refine lv_iconst (v := 1) hx hb dX6_board_44 (by decide) ?_
          refine lv_iadd hx hb dX6_board_45 ?_
          refine e_iastN hx hb hK hw hS 0 Ew_m2 rfl rfl (by omega) (by decide) dX6_board_46 (fun H locs hw hS => ?_)
          have hw := hw.cast Ep_m2
          refine f_aload_n hx hb dX6_board_47 hl 0 rfl rfl ?_
          refine e_get (C := RX6) (T := TX6) (N := 22) hx hb hts i6 hown hK hw Ew_mo rfl 7 (by decide) (hts (.fieldLink RX6 7 "FerryQuayModel" "isShut" "[Z") (by decide +kernel)) rfl dX6_board_48 ?_
          refine f_iload_n hx hb dX6_board_51 hl 3 rfl rfl ?_
          refine e_zaldN hx hb hK hw 1 Ew_m1 rfl rfl (by omega) (by decide) dX6_board_52 ?_
          refine lv_if_eq (tgt := 59) hx hb dX6_board_53 (by decide) (fun c53 => ?_) (fun c53 => ?_)
          · refine f_aload_n hx hb dX6_board_59 hl 0 rfl rfl ?_
            refine e_get (C := RX6) (T := TX6) (N := 22) hx hb hts i6 hown hK hw Ew_mo rfl 15 (by decide) (hts (.fieldLink RX6 35 "FerryQuayModel" "ferryOf" "[I") (by decide +kernel)) rfl dX6_board_60 ?_
            refine f_iload_n hx hb dX6_board_63 hl 1 rfl rfl ?_
            refine e_ialdN hx hb hK hw 0 Ew_m9 rfl rfl (by omega) (by decide) dX6_board_64 ?_
            refine f_top (y := nI f) hF ?_
            refine f_istore hx hb dX6_board_65 hl (by decide) (fun ls hl => ?_)
            rcases hI.ramp hj with hR | ⟨r, hr2, hR, hRt⟩
            · refine lv_iconst (v := 0) hx hb dX6_board_67 (by decide) ?_
              refine f_istore hx hb dX6_board_68 hl (by decide) (fun ls hl => ?_)
              refine f_aload_n hx hb dX6_board_70 hl 0 rfl rfl ?_
              refine e_get (C := RX6) (T := TX6) (N := 22) hx hb hts i6 hown hK hw Ew_mo rfl 16 (by decide) (hts (.fieldLink RX6 38 "FerryQuayModel" "waits" "[I") (by decide +kernel)) rfl dX6_board_71 ?_
              refine f_iload_n hx hb dX6_board_74 hl 1 rfl rfl ?_
              refine e_ialdN hx hb hK hw 0 Ew_m10 rfl rfl (by omega) (by decide) dX6_board_75 ?_
              refine f_top (y := nI (ln u j)) hLn ?_
              refine f_istore hx hb dX6_board_76 hl (by decide) (fun ls hl => ?_)
              refine lv_iconst (v := 0) hx hb dX6_board_78 (by decide) ?_
              refine f_top (y := nI 0) rfl ?_
              refine f_istore hx hb dX6_board_79 hl (by decide) (fun ls hl => ?_)
              have loop : ∀ (t : Nat) (w : Int32) (k : Nat) (zc : St) (H : Heap) (locs : List Loc) (ls : Array Slot), Inv zc ng nr nb → t ≤ ln zc j → k + t = ln u j → sc zc 8 j = -1 → sc zc 9 j = nI f → bl j g n t w zc = sp_board nb u (nI j) n → wo G lo (Ew Y ng nr nb z zc ad) ad H → va_S (fun q => lo ≤ q) s.heap H locs → lh ls 10 (fun i9 => ([(0, .ref (ad 0 4)), (1, .int (nI j)), (2, .int n), (3, .int (nI g)), (4, .int (nI f)), (5, .int (w)), (6, .int (nI (ln u j))), (7, .int (nI k))].find? (fun q => q.1 == i9)).map (fun q => q.2)) → W p l e (headSpec wsX6_board ({ frames := 1, cells := 0, slots := 0, locals := 23 })).room s m ([.ref (ad 0 4), .int (nI j), .int n] : List Value).toArray below meth c H locs 0 0 (MQ below (QI G (tysY Y) lo (sp_board nb u (nI j) n).1 (Ew Y ng nr nb z (sp_board nb u (nI j) n).2 ad) ad) ([.ref (ad 0 4), .int (nI j), .int n] : List Value).toArray s 0 0 (fun q => lo ≤ q)) (F0 m 81 ls []) := by
                intro t
                induction t with
                | zero =>
                  intro w k zc H locs ls hI hle hkt hR hF hsp hw hS hl
                  obtain ⟨hL, hLn⟩ := hI.lane hj
                  obtain ⟨hD, hDn⟩ := hI.deck hf
                  have hFt : fo zc j = f := by show tn (sc zc 9 j) = f; rw [hF]; exact nI_clamp (by omega)
                  refine f_iload hx hb dX6_board_81 hl rfl ?_
                  refine f_iload hx hb dX6_board_83 hl rfl ?_
                  refine lv_icmp_ge (tgt := 309) hx hb dX6_board_85 (by decide) (fun c85 => ?_) (fun c85 => absurd (nI_le (by omega) (by omega)) c85)
                  refine f_iload hx hb dX6_board_309 hl rfl ?_
                  exact q_ism hx hb hr hlk hK hw hS dX6_board_311 hsp.symm
                | succ t ih =>
                  intro w k zc H locs ls hI hle hkt hR hF hsp hw hS hl
                  obtain ⟨hL, hLn⟩ := hI.lane hj
                  obtain ⟨hD, hDn⟩ := hI.deck hf
                  have hFt : fo zc j = f := by show tn (sc zc 9 j) = f; rw [hF]; exact nI_clamp (by omega)
                  refine f_iload hx hb dX6_board_81 hl rfl ?_
                  refine f_iload hx hb dX6_board_83 hl rfl ?_
                  refine lv_icmp_ge (tgt := 309) hx hb dX6_board_85 (by decide) (fun c85 => absurd c85 (nI_ge (by omega) (by omega))) (fun c85 => ?_)
                  refine f_aload_n hx hb dX6_board_88 hl 0 rfl rfl ?_
                  refine e_get (C := RX6) (T := TX6) (N := 22) hx hb hts i6 hown hK hw Ew_mo rfl 14 (by decide) (hts (.fieldLink RX6 32 "FerryQuayModel" "rampOf" "[I") (by decide +kernel)) rfl dX6_board_89 ?_
                  refine f_iload_n hx hb dX6_board_92 hl 1 rfl rfl ?_
                  refine e_ialdN hx hb hK hw 0 Ew_m8 rfl rfl (by omega) (by decide) dX6_board_93 ?_
                  refine f_istore hx hb dX6_board_94 hl (by decide) (fun ls hl => ?_)
                  refine f_iload hx hb dX6_board_96 hl rfl ?_
                  refine lv_iconst (v := (-1)) hx hb dX6_board_98 (by decide) ?_
                  refine lv_icmp_ne (tgt := 105) hx hb dX6_board_99 (by decide) (fun c99 => absurd hR c99) (fun c99 => ?_)
                  refine lv_bipush (v := (-4)) hx hb dX6_board_102 (by decide) ?_
                  exact q_ism hx hb hr hlk hK hw hS dX6_board_104 (hsp.symm.trans (by rw [bl]; exact (if_pos hR)))
              exact loop (ln u j) 0 0 (inc u 2 g) _ _ _ (hI.p2 hg) (Nat.le_refl _) (by omega) hR hF (Eq.symm (by rw [sp_board, hix]; dsimp only [Option.elim]; rw [hGt]; exact (Eq.trans (if_neg h1) (Eq.trans (if_neg h2) (Eq.trans (if_neg (notm1 hG (by omega))) (if_pos c53)))))) hw hS (hl.list [(0, .ref (ad 0 4)), (1, .int (nI j)), (2, .int n), (3, .int (nI g)), (4, .int (nI f)), (5, .int (0)), (6, .int (nI (ln u j))), (7, .int (nI 0))] (List.forall_mem_cons.mpr ⟨rfl, List.forall_mem_cons.mpr ⟨rfl, List.forall_mem_cons.mpr ⟨rfl, List.forall_mem_cons.mpr ⟨rfl, List.forall_mem_cons.mpr ⟨rfl, List.forall_mem_cons.mpr ⟨rfl, List.forall_mem_cons.mpr ⟨rfl, List.forall_mem_cons.mpr ⟨rfl, fun _ h => absurd h List.not_mem_nil⟩⟩⟩⟩⟩⟩⟩⟩))
            · refine lv_iconst (v := 0) hx hb dX6_board_67 (by decide) ?_
              refine f_istore hx hb dX6_board_68 hl (by decide) (fun ls hl => ?_)
              refine f_aload_n hx hb dX6_board_70 hl 0 rfl rfl ?_
              refine e_get (C := RX6) (T := TX6) (N := 22) hx hb hts i6 hown hK hw Ew_mo rfl 16 (by decide) (hts (.fieldLink RX6 38 "FerryQuayModel" "waits" "[I") (by decide +kernel)) rfl dX6_board_71 ?_
              refine f_iload_n hx hb dX6_board_74 hl 1 rfl rfl ?_
              refine e_ialdN hx hb hK hw 0 Ew_m10 rfl rfl (by omega) (by decide) dX6_board_75 ?_
              refine f_top (y := nI (ln u j)) hLn ?_
              refine f_istore hx hb dX6_board_76 hl (by decide) (fun ls hl => ?_)
              refine lv_iconst (v := 0) hx hb dX6_board_78 (by decide) ?_
              refine f_top (y := nI 0) rfl ?_
              refine f_istore hx hb dX6_board_79 hl (by decide) (fun ls hl => ?_)
              have loop : ∀ (t : Nat) (w : Int32) (k : Nat) (zc : St) (H : Heap) (locs : List Loc) (ls : Array Slot), Inv zc ng nr nb → t ≤ ln zc j → k + t = ln u j → sc zc 8 j = nI r → sc zc 9 j = nI f → bl j g n t w zc = sp_board nb u (nI j) n → wo G lo (Ew Y ng nr nb z zc ad) ad H → va_S (fun q => lo ≤ q) s.heap H locs → lh ls 10 (fun i9 => ([(0, .ref (ad 0 4)), (1, .int (nI j)), (2, .int n), (3, .int (nI g)), (4, .int (nI f)), (5, .int (w)), (6, .int (nI (ln u j))), (7, .int (nI k))].find? (fun q => q.1 == i9)).map (fun q => q.2)) → W p l e (headSpec wsX6_board ({ frames := 1, cells := 0, slots := 0, locals := 23 })).room s m ([.ref (ad 0 4), .int (nI j), .int n] : List Value).toArray below meth c H locs 0 0 (MQ below (QI G (tysY Y) lo (sp_board nb u (nI j) n).1 (Ew Y ng nr nb z (sp_board nb u (nI j) n).2 ad) ad) ([.ref (ad 0 4), .int (nI j), .int n] : List Value).toArray s 0 0 (fun q => lo ≤ q)) (F0 m 81 ls []) := by
                intro t
                induction t with
                | zero =>
                  intro w k zc H locs ls hI hle hkt hR hF hsp hw hS hl
                  obtain ⟨hL, hLn⟩ := hI.lane hj
                  obtain ⟨hD, hDn⟩ := hI.deck hf
                  have hFt : fo zc j = f := by show tn (sc zc 9 j) = f; rw [hF]; exact nI_clamp (by omega)
                  have hRt : tn (sc zc 8 j) = r := by rw [hR]; exact nI_clamp (by omega)
                  have lg : ln (goes (inc zc 6 r) j) j = ln zc j - 1 := ln_goes (z := inc zc 6 r) (by show ln zc j < 2 ^ 31; omega)
                  have lc : ∀ x, ln (comes (goes (inc zc 6 r) j) j x) j = ln zc j - 1 + 1 := fun x => (ln_comes (by rw [lg]; omega)).trans (by rw [lg])
                  refine f_iload hx hb dX6_board_81 hl rfl ?_
                  refine f_iload hx hb dX6_board_83 hl rfl ?_
                  refine lv_icmp_ge (tgt := 309) hx hb dX6_board_85 (by decide) (fun c85 => ?_) (fun c85 => absurd (nI_le (by omega) (by omega)) c85)
                  refine f_iload hx hb dX6_board_309 hl rfl ?_
                  exact q_ism hx hb hr hlk hK hw hS dX6_board_311 hsp.symm
                | succ t ih =>
                  intro w k zc H locs ls hI hle hkt hR hF hsp hw hS hl
                  obtain ⟨hL, hLn⟩ := hI.lane hj
                  obtain ⟨hD, hDn⟩ := hI.deck hf
                  have hFt : fo zc j = f := by show tn (sc zc 9 j) = f; rw [hF]; exact nI_clamp (by omega)
                  have hRt : tn (sc zc 8 j) = r := by rw [hR]; exact nI_clamp (by omega)
                  have lg : ln (goes (inc zc 6 r) j) j = ln zc j - 1 := ln_goes (z := inc zc 6 r) (by show ln zc j < 2 ^ 31; omega)
                  have lc : ∀ x, ln (comes (goes (inc zc 6 r) j) j x) j = ln zc j - 1 + 1 := fun x => (ln_comes (by rw [lg]; omega)).trans (by rw [lg])
                  refine f_iload hx hb dX6_board_81 hl rfl ?_
                  refine f_iload hx hb dX6_board_83 hl rfl ?_
                  refine lv_icmp_ge (tgt := 309) hx hb dX6_board_85 (by decide) (fun c85 => absurd c85 (nI_ge (by omega) (by omega))) (fun c85 => ?_)
                  refine f_aload_n hx hb dX6_board_88 hl 0 rfl rfl ?_
                  refine e_get (C := RX6) (T := TX6) (N := 22) hx hb hts i6 hown hK hw Ew_mo rfl 14 (by decide) (hts (.fieldLink RX6 32 "FerryQuayModel" "rampOf" "[I") (by decide +kernel)) rfl dX6_board_89 ?_
                  refine f_iload_n hx hb dX6_board_92 hl 1 rfl rfl ?_
                  refine e_ialdN hx hb hK hw 0 Ew_m8 rfl rfl (by omega) (by decide) dX6_board_93 ?_
                  refine f_top (y := nI r) hR ?_
                  refine f_istore hx hb dX6_board_94 hl (by decide) (fun ls hl => ?_)
                  refine f_iload hx hb dX6_board_96 hl rfl ?_
                  refine lv_iconst (v := (-1)) hx hb dX6_board_98 (by decide) ?_
                  refine lv_icmp_ne (tgt := 105) hx hb dX6_board_99 (by decide) (fun c99 => ?_) (fun c99 => absurd c99 (nI_m1 (by omega)))
                  refine f_aload_n hx hb dX6_board_105 hl 0 rfl rfl ?_
                  refine e_get (C := RX6) (T := TX6) (N := 22) hx hb hts i6 hown hK hw Ew_mo rfl 12 (by decide) (hts (.fieldLink RX6 26 "FerryQuayModel" "rampTaken" "[I") (by decide +kernel)) rfl dX6_board_106 ?_
                  refine f_iload hx hb dX6_board_109 hl rfl ?_
                  refine lv_dup2_11 hx hb dX6_board_111 rfl rfl ?_
                  refine e_ialdN hx hb hK hw 0 Ew_m6 rfl rfl (by omega) (by decide) dX6_board_112 ?_
                  refine lv_iconst (v := 1) hx hb dX6_board_113 (by decide) ?_
                  refine lv_iadd hx hb dX6_board_114 ?_
                  refine e_iastN hx hb hK hw hS 0 Ew_m6 rfl rfl (by omega) (by decide) dX6_board_115 (fun H locs hw hS => ?_)
                  have hw := hw.cast Ep_m6
                  refine f_aload_n hx hb dX6_board_116 hl 0 rfl rfl ?_
                  refine e_get (C := RX6) (T := TX6) (N := 22) hx hb hts i6 hown hK hw Ew_mo rfl 17 (by decide) (hts (.fieldLink RX6 41 "FerryQuayModel" "lane" "[I") (by decide +kernel)) rfl dX6_board_117 ?_
                  refine lv_bipush (v := 30) hx hb dX6_board_120 (by decide) ?_
                  refine f_iload_n hx hb dX6_board_122 hl 1 rfl rfl ?_
                  refine lv_imul hx hb dX6_board_123 ?_
                  refine f_top (idx_mul (k := 30) rfl j) ?_
                  refine e_ialdN hx hb hK hw 0 Ew_m11 rfl rfl (by omega) (by decide) dX6_board_124 ?_
                  refine f_top (y := zc 11 j 0) fl30z ?_
                  refine f_istore hx hb dX6_board_125 hl (by decide) (fun ls hl => ?_)
                  refine f_iload hx hb dX6_board_127 hl rfl ?_
                  refine lv_if_ne (tgt := 156) hx hb dX6_board_129 (by decide) (fun c129 => ?_) (fun c129 => ?_)
                  · refine f_iload hx hb dX6_board_156 hl rfl ?_
                    refine f_aload_n hx hb dX6_board_158 hl 0 rfl rfl ?_
                    refine e_get (C := RX6) (T := TX6) (N := 22) hx hb hts i6 hown hK hw Ew_mo rfl 10 (by decide) (hts (.fieldLink RX6 20 "FerryQuayModel" "limit" "[I") (by decide +kernel)) rfl dX6_board_159 ?_
                    refine f_iload hx hb dX6_board_162 hl rfl ?_
                    refine e_ialdN hx hb hK hw 0 Ew_m4 rfl rfl (by omega) (by decide) dX6_board_164 ?_
                    refine lv_icmp_le (tgt := 185) hx hb dX6_board_165 (by decide) (fun c165 => ?_) (fun c165 => ?_)
                    · refine f_aload_n hx hb dX6_board_185 hl 0 rfl rfl ?_
                      refine e_get (C := RX6) (T := TX6) (N := 22) hx hb hts i6 hown hK hw Ew_mo rfl 19 (by decide) (hts (.fieldLink RX6 47 "FerryQuayModel" "load" "[I") (by decide +kernel)) rfl dX6_board_186 ?_
                      refine f_iload hx hb dX6_board_189 hl rfl ?_
                      refine e_ialdN hx hb hK hw 0 Ew_m13 rfl rfl (by omega) (by decide) dX6_board_191 ?_
                      refine f_iload hx hb dX6_board_192 hl rfl ?_
                      refine lv_iadd hx hb dX6_board_194 ?_
                      refine f_aload_n hx hb dX6_board_195 hl 0 rfl rfl ?_
                      refine e_get (C := RX6) (T := TX6) (N := 22) hx hb hts i6 hown hK hw Ew_mo rfl 18 (by decide) (hts (.fieldLink RX6 44 "FerryQuayModel" "room" "[I") (by decide +kernel)) rfl dX6_board_196 ?_
                      refine f_iload hx hb dX6_board_199 hl rfl ?_
                      refine e_ialdN hx hb hK hw 0 Ew_m12 rfl rfl (by omega) (by decide) dX6_board_201 ?_
                      refine lv_icmp_gt (tgt := 217) hx hb dX6_board_202 (by decide) (fun c202 => ?_) (fun c202 => ?_)
                      · refine f_iload hx hb dX6_board_217 hl rfl ?_
                        exact q_ism hx hb hr hlk hK hw hS dX6_board_219 (hsp.symm.trans (by rw [bl, hRt, hFt]; exact (if hq : dk zc f = 40 then (Eq.trans (if_neg (notm1 hR (by omega))) (Eq.trans (if_neg c129) (Eq.trans (if_neg (Int32.not_lt.mpr c165)) (if_pos hq)))) else (Eq.trans (if_neg (notm1 hR (by omega))) (Eq.trans (if_neg c129) (Eq.trans (if_neg (Int32.not_lt.mpr c165)) (Eq.trans (if_neg hq) (if_pos c202))))))))
                      · refine f_aload_n hx hb dX6_board_205 hl 0 rfl rfl ?_
                        refine e_get (C := RX6) (T := TX6) (N := 22) hx hb hts i6 hown hK hw Ew_mo rfl 20 (by decide) (hts (.fieldLink RX6 50 "FerryQuayModel" "many" "[I") (by decide +kernel)) rfl dX6_board_206 ?_
                        refine f_iload hx hb dX6_board_209 hl rfl ?_
                        refine e_ialdN hx hb hK hw 0 Ew_m14 rfl rfl (by omega) (by decide) dX6_board_211 ?_
                        refine f_top (y := nI (dk zc f)) hDn ?_
                        by_cases hq : dk zc f = 40
                        · refine lv_bipush (v := 40) hx hb dX6_board_212 (by decide) ?_
                          refine lv_icmp_ne (tgt := 220) hx hb dX6_board_214 (by decide) (fun c214 => absurd (by rw [hq]; rfl) c214) (fun c214 => ?_)
                          refine f_iload hx hb dX6_board_217 hl rfl ?_
                          exact q_ism hx hb hr hlk hK hw hS dX6_board_219 (hsp.symm.trans (by rw [bl, hRt, hFt]; exact (Eq.trans (if_neg (notm1 hR (by omega))) (Eq.trans (if_neg c129) (Eq.trans (if_neg (Int32.not_lt.mpr c165)) (if_pos hq))))))
                        · refine lv_bipush (v := 40) hx hb dX6_board_212 (by decide) ?_
                          refine lv_icmp_ne (tgt := 220) hx hb dX6_board_214 (by decide) (fun c214 => ?_) (fun c214 => absurd c214 (fun q => hq ((nI_eq (b := 40) (by omega) (by decide)).mp q)))
                          refine f_aload_n hx hb dX6_board_220 hl 0 rfl rfl ?_
                          refine f_iload_n hx hb dX6_board_221 hl 1 rfl rfl ?_
                          refine q_ci (q_runV (C := RX6) (T := TX6) (N := 22) ⟨hx, hb, hml, hown, hts⟩ (c_X6_goes l (u := inc zc 6 r) (hI.p6 hr2) hj (by show 0 < ln zc j; omega)) (cwV 1 hts gX6_board_X6_goes rfl rfl rfl (by decide +kernel) ⟨Nat.le_of_ble_eq_true rfl, Nat.le_of_ble_eq_true rfl⟩) hK hw Ew_mo rfl rfl hl.1 rfl (by simp [Value.category, va_rf]) dX6_board_222 ⟨Nat.le_of_ble_eq_true rfl, Nat.le_of_ble_eq_true rfl⟩) hS (fun H locs hw hS => ?_)
                          refine f_top (y := zc 11 j 0) rfl ?_
                          refine f_istore hx hb dX6_board_225 hl (by decide) (fun ls hl => ?_)
                          refine f_aload_n hx hb dX6_board_227 hl 0 rfl rfl ?_
                          refine e_get (C := RX6) (T := TX6) (N := 22) hx hb hts i6 hown hK hw Ew_mo rfl 21 (by decide) (hts (.fieldLink RX6 53 "FerryQuayModel" "deck" "[I") (by decide +kernel)) rfl dX6_board_228 ?_
                          refine lv_bipush (v := 40) hx hb dX6_board_231 (by decide) ?_
                          refine f_iload hx hb dX6_board_233 hl rfl ?_
                          refine lv_imul hx hb dX6_board_235 ?_
                          refine f_aload_n hx hb dX6_board_236 hl 0 rfl rfl ?_
                          refine e_get (C := RX6) (T := TX6) (N := 22) hx hb hts i6 hown hK hw Ew_mo rfl 20 (by decide) (hts (.fieldLink RX6 50 "FerryQuayModel" "many" "[I") (by decide +kernel)) rfl dX6_board_237 ?_
                          refine f_iload hx hb dX6_board_240 hl rfl ?_
                          refine e_ialdN hx hb hK hw 0 Ew_m14 rfl rfl (by omega) (by decide) dX6_board_242 ?_
                          refine f_top (y := nI (dk zc f)) hDn ?_
                          refine lv_iadd hx hb dX6_board_243 ?_
                          refine f_top (idx_add (k := 40) rfl rfl) ?_
                          refine f_iload hx hb dX6_board_244 hl rfl ?_
                          refine e_iastN hx hb hK hw hS 0 Ew_m15 rfl rfl (by omega) (by decide) dX6_board_246 (fun H locs hw hS => ?_)
                          have hw := hw.cast (Ep_m15 (b := f) (j := dk zc f) (by omega))
                          refine f_aload_n hx hb dX6_board_247 hl 0 rfl rfl ?_
                          refine e_get (C := RX6) (T := TX6) (N := 22) hx hb hts i6 hown hK hw Ew_mo rfl 20 (by decide) (hts (.fieldLink RX6 50 "FerryQuayModel" "many" "[I") (by decide +kernel)) rfl dX6_board_248 ?_
                          refine f_iload hx hb dX6_board_251 hl rfl ?_
                          refine lv_dup2_11 hx hb dX6_board_253 rfl rfl ?_
                          refine e_ialdN hx hb hK hw 0 Ew_m14 rfl rfl (by omega) (by decide) dX6_board_254 ?_
                          refine lv_iconst (v := 1) hx hb dX6_board_255 (by decide) ?_
                          refine lv_iadd hx hb dX6_board_256 ?_
                          refine f_top ((congrArg (fun q => q + 1) hDn).trans (nI_1 (dk zc f))) ?_
                          refine e_iastN hx hb hK hw hS 0 Ew_m14 rfl rfl (by omega) (by decide) dX6_board_257 (fun H locs hw hS => ?_)
                          have hw := hw.cast Ep_m14
                          refine f_aload_n hx hb dX6_board_258 hl 0 rfl rfl ?_
                          refine e_get (C := RX6) (T := TX6) (N := 22) hx hb hts i6 hown hK hw Ew_mo rfl 19 (by decide) (hts (.fieldLink RX6 47 "FerryQuayModel" "load" "[I") (by decide +kernel)) rfl dX6_board_259 ?_
                          refine f_iload hx hb dX6_board_262 hl rfl ?_
                          refine lv_dup2_11 hx hb dX6_board_264 rfl rfl ?_
                          refine e_ialdN hx hb hK hw 0 Ew_m13 rfl rfl (by omega) (by decide) dX6_board_265 ?_
                          refine f_iload hx hb dX6_board_266 hl rfl ?_
                          refine lv_iadd hx hb dX6_board_268 ?_
                          refine e_iastN hx hb hK hw hS 0 Ew_m13 rfl rfl (by omega) (by decide) dX6_board_269 (fun H locs hw hS => ?_)
                          have hw := hw.cast Ep_m13
                          refine f_aload_n hx hb dX6_board_270 hl 0 rfl rfl ?_
                          refine e_get (C := RX6) (T := TX6) (N := 22) hx hb hts i6 hown hK hw Ew_mo rfl 9 (by decide) (hts (.fieldLink RX6 17 "FerryQuayModel" "passed" "[I") (by decide +kernel)) rfl dX6_board_271 ?_
                          refine f_iload_n hx hb dX6_board_274 hl 3 rfl rfl ?_
                          refine lv_dup2_11 hx hb dX6_board_275 rfl rfl ?_
                          refine e_ialdN hx hb hK hw 0 Ew_m3 rfl rfl (by omega) (by decide) dX6_board_276 ?_
                          refine lv_iconst (v := 1) hx hb dX6_board_277 (by decide) ?_
                          refine lv_iadd hx hb dX6_board_278 ?_
                          refine e_iastN hx hb hK hw hS 0 Ew_m3 rfl rfl (by omega) (by decide) dX6_board_279 (fun H locs hw hS => ?_)
                          have hw := hw.cast Ep_m3
                          refine f_aload_n hx hb dX6_board_280 hl 0 rfl rfl ?_
                          refine e_get (C := RX6) (T := TX6) (N := 22) hx hb hts i6 hown hK hw Ew_mo rfl 11 (by decide) (hts (.fieldLink RX6 23 "FerryQuayModel" "wear" "[I") (by decide +kernel)) rfl dX6_board_281 ?_
                          refine f_iload hx hb dX6_board_284 hl rfl ?_
                          refine lv_dup2_11 hx hb dX6_board_286 rfl rfl ?_
                          refine e_ialdN hx hb hK hw 0 Ew_m5 rfl rfl (by omega) (by decide) dX6_board_287 ?_
                          refine f_iload hx hb dX6_board_288 hl rfl ?_
                          refine lv_iadd hx hb dX6_board_290 ?_
                          refine e_iastN hx hb hK hw hS 0 Ew_m5 rfl rfl (by omega) (by decide) dX6_board_291 (fun H locs hw hS => ?_)
                          have hw := hw.cast Ep_m5
                          refine f_iinc (d := 1) hx hb dX6_board_292 hl rfl (by decide) (by decide) (fun ls hl => ?_)
                          refine f_iload hx hb dX6_board_295 hl rfl ?_
                          refine f_iload_n hx hb dX6_board_297 hl 2 rfl rfl ?_
                          refine lv_icmp_ne (tgt := 303) hx hb dX6_board_298 (by decide) (fun c298 => ?_) (fun c298 => ?_)
                          · refine f_iinc (d := 1) hx hb dX6_board_303 hl rfl (by decide) (by decide) (fun ls hl => ?_)
                            rw [nI_1] at hl
                            refine lv_goto (tgt := 81) hx hb dX6_board_306 (by decide) ?_
                            exact ih (w + 1) (k + 1) _ _ _ _ (((((hI.p6 hr2).gs hj).bd hf (by show dk zc f < 40; omega)).p3 hg).p5 hr2) (by show t ≤ ln (goes (inc zc 6 r) j) j; rw [lg]; omega) (by omega) hR hF (Eq.trans (Eq.symm (by rw [bl, hRt, hFt]; exact (Eq.trans (if_neg (notm1 hR (by omega))) (Eq.trans (if_neg c129) (Eq.trans (if_neg (Int32.not_lt.mpr c165)) (Eq.trans (if_neg hq) (Eq.trans (if_neg c202) (if_neg c298)))))))) hsp) hw hS (hl.list [(0, .ref (ad 0 4)), (1, .int (nI j)), (2, .int n), (3, .int (nI g)), (4, .int (nI f)), (5, .int (w + 1)), (6, .int (nI (ln u j))), (7, .int (nI (k + 1)))] (List.forall_mem_cons.mpr ⟨rfl, List.forall_mem_cons.mpr ⟨rfl, List.forall_mem_cons.mpr ⟨rfl, List.forall_mem_cons.mpr ⟨rfl, List.forall_mem_cons.mpr ⟨rfl, List.forall_mem_cons.mpr ⟨rfl, List.forall_mem_cons.mpr ⟨rfl, List.forall_mem_cons.mpr ⟨rfl, fun _ h => absurd h List.not_mem_nil⟩⟩⟩⟩⟩⟩⟩⟩))
                          · refine f_iload_n hx hb dX6_board_301 hl 2 rfl rfl ?_
                            exact q_ism hx hb hr hlk hK hw hS dX6_board_302 (hsp.symm.trans (by rw [bl, hRt, hFt]; exact (Eq.trans (if_neg (notm1 hR (by omega))) (Eq.trans (if_neg c129) (Eq.trans (if_neg (Int32.not_lt.mpr c165)) (Eq.trans (if_neg hq) (Eq.trans (if_neg c202) (Eq.trans (if_pos c298) (by rw [c298]; rfl)))))))))
                    · refine f_aload_n hx hb dX6_board_168 hl 0 rfl rfl ?_
                      refine f_iload_n hx hb dX6_board_169 hl 1 rfl rfl ?_
                      refine q_ci (q_runV (C := RX6) (T := TX6) (N := 22) ⟨hx, hb, hml, hown, hts⟩ (c_X6_goes l (u := inc zc 6 r) (hI.p6 hr2) hj (by show 0 < ln zc j; omega)) (cwV 1 hts gX6_board_X6_goes rfl rfl rfl (by decide +kernel) ⟨Nat.le_of_ble_eq_true rfl, Nat.le_of_ble_eq_true rfl⟩) hK hw Ew_mo rfl rfl hl.1 rfl (by simp [Value.category, va_rf]) dX6_board_170 ⟨Nat.le_of_ble_eq_true rfl, Nat.le_of_ble_eq_true rfl⟩) hS (fun H locs hw hS => ?_)
                      refine f_top (y := zc 11 j 0) rfl ?_
                      refine f_istore hx hb dX6_board_173 hl (by decide) (fun ls hl => ?_)
                      refine f_aload_n hx hb dX6_board_175 hl 0 rfl rfl ?_
                      refine f_iload_n hx hb dX6_board_176 hl 1 rfl rfl ?_
                      refine f_iload hx hb dX6_board_177 hl rfl ?_
                      refine q_cv (q_runV (C := RX6) (T := TX6) (N := 22) ⟨hx, hb, hml, hown, hts⟩ (c_X6_comes l (u := goes (inc zc 6 r) j) ((hI.p6 hr2).gs hj) hj (zc 11 j 0) (by rw [lg]; omega)) (cwV 2 hts gX6_board_X6_comes rfl rfl rfl (by decide +kernel) ⟨Nat.le_of_ble_eq_true rfl, Nat.le_of_ble_eq_true rfl⟩) hK hw Ew_mo rfl rfl hl.1 rfl (by simp [Value.category, va_rf]) dX6_board_179 ⟨Nat.le_of_ble_eq_true rfl, Nat.le_of_ble_eq_true rfl⟩) hS (fun H locs hw hS => ?_)
                      refine lv_goto (tgt := 303) hx hb dX6_board_182 (by decide) ?_
                      refine f_iinc (d := 1) hx hb dX6_board_303 hl rfl (by decide) (by decide) (fun ls hl => ?_)
                      rw [nI_1] at hl
                      refine lv_goto (tgt := 81) hx hb dX6_board_306 (by decide) ?_
                      exact ih w (k + 1) _ _ _ _ (((hI.p6 hr2).gs hj).cm hj (by rw [lg]; omega)) (by rw [lc]; omega) (by omega) hR hF (Eq.trans (Eq.symm (by rw [bl, hRt]; exact (Eq.trans (if_neg (notm1 hR (by omega))) (Eq.trans (if_neg c129) (if_pos (Int32.not_le.mp c165)))))) hsp) hw hS (hl.list [(0, .ref (ad 0 4)), (1, .int (nI j)), (2, .int n), (3, .int (nI g)), (4, .int (nI f)), (5, .int (w)), (6, .int (nI (ln u j))), (7, .int (nI (k + 1)))] (List.forall_mem_cons.mpr ⟨rfl, List.forall_mem_cons.mpr ⟨rfl, List.forall_mem_cons.mpr ⟨rfl, List.forall_mem_cons.mpr ⟨rfl, List.forall_mem_cons.mpr ⟨rfl, List.forall_mem_cons.mpr ⟨rfl, List.forall_mem_cons.mpr ⟨rfl, List.forall_mem_cons.mpr ⟨rfl, fun _ h => absurd h List.not_mem_nil⟩⟩⟩⟩⟩⟩⟩⟩))
                  · refine f_aload_n hx hb dX6_board_132 hl 0 rfl rfl ?_
                    refine f_iload_n hx hb dX6_board_133 hl 1 rfl rfl ?_
                    refine q_ci (q_runV (C := RX6) (T := TX6) (N := 22) ⟨hx, hb, hml, hown, hts⟩ (c_X6_goes l (u := inc zc 6 r) (hI.p6 hr2) hj (by show 0 < ln zc j; omega)) (cwV 1 hts gX6_board_X6_goes rfl rfl rfl (by decide +kernel) ⟨Nat.le_of_ble_eq_true rfl, Nat.le_of_ble_eq_true rfl⟩) hK hw Ew_mo rfl rfl hl.1 rfl (by simp [Value.category, va_rf]) dX6_board_134 ⟨Nat.le_of_ble_eq_true rfl, Nat.le_of_ble_eq_true rfl⟩) hS (fun H locs hw hS => ?_)
                    refine f_top (y := zc 11 j 0) rfl ?_
                    refine f_istore hx hb dX6_board_137 hl (by decide) (fun ls hl => ?_)
                    refine f_aload_n hx hb dX6_board_139 hl 0 rfl rfl ?_
                    refine lv_dup hx hb dX6_board_140 rfl ?_
                    refine e_get (C := RX6) (T := TX6) (N := 22) hx hb hts i6 hown hK hw Ew_mo rfl 5 (by decide) (hts (.fieldLink RX6 90 "FerryQuayModel" "towed" "I") (by decide +kernel)) rfl dX6_board_141 ?_
                    refine lv_iconst (v := 1) hx hb dX6_board_144 (by decide) ?_
                    refine lv_iadd hx hb dX6_board_145 ?_
                    refine e_put (C := RX6) (T := TX6) (N := 22) (ty := .int) hx hb hts i6 tyX6 tyX6_ok nmX6 hown hK hw hS Ew_mo rfl 5 (by decide) (hts (.fieldLink RX6 90 "FerryQuayModel" "towed" "I") (by decide +kernel)) rfl (by decide +kernel) rfl rfl (Nat.le_of_ble_eq_true rfl) dX6_board_146 (fun H locs hw hS => ?_)
                    have hw := hw.cast Ep_mo5
                    refine f_aload_n hx hb dX6_board_149 hl 0 rfl rfl ?_
                    refine lv_bipush (v := (-6)) hx hb dX6_board_150 (by decide) ?_
                    refine q_ci (q_runV (C := RX6) (T := TX6) (N := 22) ⟨hx, hb, hml, hown, hts⟩ (c_X6_alarm l (((hI.p6 hr2).gs hj).t5) (-6)) (cwV 1 hts gX6_board_X6_alarm rfl rfl rfl (by decide +kernel) ⟨Nat.le_of_ble_eq_true rfl, Nat.le_of_ble_eq_true rfl⟩) hK hw Ew_mo rfl rfl hl.1 rfl (by simp [Value.category, va_rf]) dX6_board_152 ⟨Nat.le_of_ble_eq_true rfl, Nat.le_of_ble_eq_true rfl⟩) hS (fun H locs hw hS => ?_)
                    exact q_ism hx hb hr hlk hK hw hS dX6_board_155 (hsp.symm.trans (by rw [bl, hRt]; exact (Eq.trans (if_neg (notm1 hR (by omega))) (if_pos c129))))
              exact loop (ln u j) 0 0 (inc u 2 g) _ _ _ (hI.p2 hg) (Nat.le_refl _) (by omega) hR hF (Eq.symm (by rw [sp_board, hix]; dsimp only [Option.elim]; rw [hGt]; exact (Eq.trans (if_neg h1) (Eq.trans (if_neg h2) (Eq.trans (if_neg (notm1 hG (by omega))) (if_pos c53)))))) hw hS (hl.list [(0, .ref (ad 0 4)), (1, .int (nI j)), (2, .int n), (3, .int (nI g)), (4, .int (nI f)), (5, .int (0)), (6, .int (nI (ln u j))), (7, .int (nI 0))] (List.forall_mem_cons.mpr ⟨rfl, List.forall_mem_cons.mpr ⟨rfl, List.forall_mem_cons.mpr ⟨rfl, List.forall_mem_cons.mpr ⟨rfl, List.forall_mem_cons.mpr ⟨rfl, List.forall_mem_cons.mpr ⟨rfl, List.forall_mem_cons.mpr ⟨rfl, List.forall_mem_cons.mpr ⟨rfl, fun _ h => absurd h List.not_mem_nil⟩⟩⟩⟩⟩⟩⟩⟩))
          · refine lv_bipush (v := (-5)) hx hb dX6_board_56 (by decide) ?_
            exact q_ism hx hb hr hlk hK hw hS dX6_board_58 (by rw [sp_board, hix]; dsimp only [Option.elim]; rw [hGt]; exact (Eq.trans (if_neg h1) (Eq.trans (if_neg h2) (Eq.trans (if_neg (notm1 hG (by omega))) (if_neg c53)))))
