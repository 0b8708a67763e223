set_option maxHeartbeats 4000000 in
set_option maxRecDepth 100000 in
theorem c_X5_board (l : Launch) {G : va_G} {Y : YT} {lo : Nat} {ad : Nat → Nat → Nat} {ng nr nb : Nat} {z u : St} (hI : Inv z ng nr nb) (x n : Int32) : Met l yX5_board wsX5_board ({ frames := 3, cells := 0, slots := 0, locals := 79 }) (va_Pc [.ref (ad 0 0), .int x, .int n] (cS G (tysY Y) lo (Ew Y ng nr nb z u ad) ad)) (QI G (tysY Y) lo (sp_board nb z x n).1 (Ew Y ng nr nb (sp_board nb z x n).2 u ad) ad) 0 0 (fun q => lo ≤ q) := by
  refine met_of (cc := cX5_board) (maxL := 5) (ret := (some .int)) (by decide) rfl (Nat.le_of_ble_eq_true rfl) rfl ?_
  intro p e s m below meth c ls hx hb hr hlk hml hts hown hnm hw hK hl hS
  have i0 : ∀ w ∈ wsX00, w ∈ wsX5_board := by decide +kernel
  have i2 : ∀ w ∈ wsX20, w ∈ wsX5_board := by decide +kernel
  have i5 : ∀ w ∈ wsX50, w ∈ wsX5_board := by decide +kernel
  have hng := hI.mg
  have hnr := hI.mr
  have hnb := hI.mb
  rcases ix_cases x hI.nb2 with ⟨hix, hbad⟩ | ⟨j, hj, rfl, hix⟩
  · refine f_aload_n hx hb dX5_board_0 hl 0 rfl rfl ?_
    refine f_iload_n hx hb dX5_board_1 hl 1 rfl rfl ?_
    refine q_cq (q_runV (C := RX5) (T := TX5) (N := 10) ⟨hx, hb, hml, hown, hts⟩ (c_X5_berthAt l hI x) (cwV 1 hts gX5_board_X5_berthAt rfl rfl rfl (by decide +kernel) ⟨Nat.le_of_ble_eq_true rfl, Nat.le_of_ble_eq_true rfl⟩) hK hw Ew_fq rfl rfl hl.1 rfl (by simp [Value.category, va_rf]) dX5_board_2 ⟨Nat.le_of_ble_eq_true rfl, Nat.le_of_ble_eq_true rfl⟩) hS (fun H locs hw hS => ?_)
    refine f_val (y := .null) (by rw [hix]; rfl) ?_
    refine f_astore_nN hx hb dX5_board_5 hl 3 rfl (by decide) (fun ls hl => ?_)
    refine f_aload_nN hx hb dX5_board_6 hl 3 rfl rfl ?_
    refine lv_ifnullN (tgt := 20) hx hb dX5_board_7 (by decide) ?_
    refine lv_bipush (v := (-2)) hx hb dX5_board_20 (by decide) ?_
    exact q_isp hx hb hr hlk hK hw hS dX5_board_22 (by rw [sp_board, hix]; exact rfl)
  · by_cases h1 : n < 1
    · refine f_aload_n hx hb dX5_board_0 hl 0 rfl rfl ?_
      refine f_iload_n hx hb dX5_board_1 hl 1 rfl rfl ?_
      refine q_cq (q_runV (C := RX5) (T := TX5) (N := 10) ⟨hx, hb, hml, hown, hts⟩ (c_X5_berthAt l hI (nI j)) (cwV 1 hts gX5_board_X5_berthAt rfl rfl rfl (by decide +kernel) ⟨Nat.le_of_ble_eq_true rfl, Nat.le_of_ble_eq_true rfl⟩) hK hw Ew_fq rfl rfl hl.1 rfl (by simp [Value.category, va_rf]) dX5_board_2 ⟨Nat.le_of_ble_eq_true rfl, Nat.le_of_ble_eq_true rfl⟩) hS (fun H locs hw hS => ?_)
      refine f_val (y := .ref (ad 3 j)) (by rw [hix]; rfl) ?_
      refine f_astore_n hx hb dX5_board_5 hl 3 rfl (by decide) (fun ls hl => ?_)
      refine f_aload_n hx hb dX5_board_6 hl 3 rfl rfl ?_
      refine lv_ifnull hx hb dX5_board_7 ?_
      refine f_iload_n hx hb dX5_board_10 hl 2 rfl rfl ?_
      refine lv_iconst (v := 1) hx hb dX5_board_11 (by decide) ?_
      refine lv_bipush (v := 30) hx hb dX5_board_12 (by decide) ?_
      refine q_ci (q_runS ⟨hx, hb, hml, hown, hts⟩ (c_X5_isWithin l n 1 30) (va_cwS 3 hts gX5_board_X5_isWithin rfl rfl rfl (by decide +kernel) ⟨Nat.le_of_ble_eq_true rfl, Nat.le_of_ble_eq_true rfl⟩) hK hw rfl hl.1 rfl (by simp [Value.category, va_rf]) dX5_board_14 ⟨Nat.le_of_ble_eq_true rfl, Nat.le_of_ble_eq_true rfl⟩) hS (fun H locs hw hS => ?_)
      refine f_top (y := 0) (if_pos h1) ?_
      refine lv_if_ne (tgt := 23) hx hb dX5_board_17 (by decide) (fun c17 => absurd (by decide) c17) (fun c17 => ?_)
      refine lv_bipush (v := (-2)) hx hb dX5_board_20 (by decide) ?_
      exact q_isp hx hb hr hlk hK hw hS dX5_board_22 (by rw [sp_board, hix]; dsimp only [Option.elim]; exact (if_pos h1))
    · by_cases h2 : 30 < n
      · refine f_aload_n hx hb dX5_board_0 hl 0 rfl rfl ?_
        refine f_iload_n hx hb dX5_board_1 hl 1 rfl rfl ?_
        refine q_cq (q_runV (C := RX5) (T := TX5) (N := 10) ⟨hx, hb, hml, hown, hts⟩ (c_X5_berthAt l hI (nI j)) (cwV 1 hts gX5_board_X5_berthAt rfl rfl rfl (by decide +kernel) ⟨Nat.le_of_ble_eq_true rfl, Nat.le_of_ble_eq_true rfl⟩) hK hw Ew_fq rfl rfl hl.1 rfl (by simp [Value.category, va_rf]) dX5_board_2 ⟨Nat.le_of_ble_eq_true rfl, Nat.le_of_ble_eq_true rfl⟩) hS (fun H locs hw hS => ?_)
        refine f_val (y := .ref (ad 3 j)) (by rw [hix]; rfl) ?_
        refine f_astore_n hx hb dX5_board_5 hl 3 rfl (by decide) (fun ls hl => ?_)
        refine f_aload_n hx hb dX5_board_6 hl 3 rfl rfl ?_
        refine lv_ifnull hx hb dX5_board_7 ?_
        refine f_iload_n hx hb dX5_board_10 hl 2 rfl rfl ?_
        refine lv_iconst (v := 1) hx hb dX5_board_11 (by decide) ?_
        refine lv_bipush (v := 30) hx hb dX5_board_12 (by decide) ?_
        refine q_ci (q_runS ⟨hx, hb, hml, hown, hts⟩ (c_X5_isWithin l n 1 30) (va_cwS 3 hts gX5_board_X5_isWithin rfl rfl rfl (by decide +kernel) ⟨Nat.le_of_ble_eq_true rfl, Nat.le_of_ble_eq_true rfl⟩) hK hw rfl hl.1 rfl (by simp [Value.category, va_rf]) dX5_board_14 ⟨Nat.le_of_ble_eq_true rfl, Nat.le_of_ble_eq_true rfl⟩) hS (fun H locs hw hS => ?_)
        refine f_top (y := 0) (Eq.trans (if_neg h1) (if_pos h2)) ?_
        refine lv_if_ne (tgt := 23) hx hb dX5_board_17 (by decide) (fun c17 => absurd (by decide) c17) (fun c17 => ?_)
        refine lv_bipush (v := (-2)) hx hb dX5_board_20 (by decide) ?_
        exact q_isp hx hb hr hlk hK hw hS dX5_board_22 (by rw [sp_board, hix]; dsimp only [Option.elim]; exact (Eq.trans (if_neg h1) (if_pos h2)))
      · rcases hI.gate hj with hG | ⟨g, hg, hG, hGt⟩
        · refine f_aload_n hx hb dX5_board_0 hl 0 rfl rfl ?_
          refine f_iload_n hx hb dX5_board_1 hl 1 rfl rfl ?_
          refine q_cq (q_runV (C := RX5) (T := TX5) (N := 10) ⟨hx, hb, hml, hown, hts⟩ (c_X5_berthAt l hI (nI j)) (cwV 1 hts gX5_board_X5_berthAt rfl rfl rfl (by decide +kernel) ⟨Nat.le_of_ble_eq_true rfl, Nat.le_of_ble_eq_true rfl⟩) hK hw Ew_fq rfl rfl hl.1 rfl (by simp [Value.category, va_rf]) dX5_board_2 ⟨Nat.le_of_ble_eq_true rfl, Nat.le_of_ble_eq_true rfl⟩) hS (fun H locs hw hS => ?_)
          refine f_val (y := .ref (ad 3 j)) (by rw [hix]; rfl) ?_
          refine f_astore_n hx hb dX5_board_5 hl 3 rfl (by decide) (fun ls hl => ?_)
          refine f_aload_n hx hb dX5_board_6 hl 3 rfl rfl ?_
          refine lv_ifnull hx hb dX5_board_7 ?_
          refine f_iload_n hx hb dX5_board_10 hl 2 rfl rfl ?_
          refine lv_iconst (v := 1) hx hb dX5_board_11 (by decide) ?_
          refine lv_bipush (v := 30) hx hb dX5_board_12 (by decide) ?_
          refine q_ci (q_runS ⟨hx, hb, hml, hown, hts⟩ (c_X5_isWithin l n 1 30) (va_cwS 3 hts gX5_board_X5_isWithin rfl rfl rfl (by decide +kernel) ⟨Nat.le_of_ble_eq_true rfl, Nat.le_of_ble_eq_true rfl⟩) hK hw rfl hl.1 rfl (by simp [Value.category, va_rf]) dX5_board_14 ⟨Nat.le_of_ble_eq_true rfl, Nat.le_of_ble_eq_true rfl⟩) hS (fun H locs hw hS => ?_)
          refine f_top (y := 1) (Eq.trans (if_neg h1) (if_neg h2)) ?_
          refine lv_if_ne (tgt := 23) hx hb dX5_board_17 (by decide) (fun c17 => ?_) (fun c17 => absurd c17 (by decide))
          refine f_aload_n hx hb dX5_board_23 hl 3 rfl rfl ?_
          refine e_get (C := RX0) (T := TX0) (N := 4) hx hb hts i0 hown hK hw (Ew_berth (by assumption)) rfl 2 (by decide) (hts (.fieldLink RX5 60 "FerryQuay$Berth" "gate" "LFerryQuay$Gate;") (by decide +kernel)) rfl dX5_board_24 ?_
          refine f_val (orefN hG) ?_
          refine f_astoreN hx hb dX5_board_27 hl (by decide) (fun ls hl => ?_)
          refine f_aloadN hx hb dX5_board_29 hl rfl ?_
          refine lv_ifnonnullN hx hb dX5_board_31 ?_
          refine lv_bipush (v := (-4)) hx hb dX5_board_34 (by decide) ?_
          exact q_isp hx hb hr hlk hK hw hS dX5_board_36 (by rw [sp_board, hix]; dsimp only [Option.elim]; exact (Eq.trans (if_neg h1) (Eq.trans (if_neg h2) (if_pos hG))))
        · refine f_aload_n hx hb dX5_board_0 hl 0 rfl rfl ?_
          refine f_iload_n hx hb dX5_board_1 hl 1 rfl rfl ?_
          refine q_cq (q_runV (C := RX5) (T := TX5) (N := 10) ⟨hx, hb, hml, hown, hts⟩ (c_X5_berthAt l hI (nI j)) (cwV 1 hts gX5_board_X5_berthAt rfl rfl rfl (by decide +kernel) ⟨Nat.le_of_ble_eq_true rfl, Nat.le_of_ble_eq_true rfl⟩) hK hw Ew_fq rfl rfl hl.1 rfl (by simp [Value.category, va_rf]) dX5_board_2 ⟨Nat.le_of_ble_eq_true rfl, Nat.le_of_ble_eq_true rfl⟩) hS (fun H locs hw hS => ?_)
          refine f_val (y := .ref (ad 3 j)) (by rw [hix]; rfl) ?_
          refine f_astore_n hx hb dX5_board_5 hl 3 rfl (by decide) (fun ls hl => ?_)
          refine f_aload_n hx hb dX5_board_6 hl 3 rfl rfl ?_
          refine lv_ifnull hx hb dX5_board_7 ?_
          refine f_iload_n hx hb dX5_board_10 hl 2 rfl rfl ?_
          refine lv_iconst (v := 1) hx hb dX5_board_11 (by decide) ?_
          refine lv_bipush (v := 30) hx hb dX5_board_12 (by decide) ?_
          refine q_ci (q_runS ⟨hx, hb, hml, hown, hts⟩ (c_X5_isWithin l n 1 30) (va_cwS 3 hts gX5_board_X5_isWithin rfl rfl rfl (by decide +kernel) ⟨Nat.le_of_ble_eq_true rfl, Nat.le_of_ble_eq_true rfl⟩) hK hw rfl hl.1 rfl (by simp [Value.category, va_rf]) dX5_board_14 ⟨Nat.le_of_ble_eq_true rfl, Nat.le_of_ble_eq_true rfl⟩) hS (fun H locs hw hS => ?_)
          refine f_top (y := 1) (Eq.trans (if_neg h1) (if_neg h2)) ?_
          refine lv_if_ne (tgt := 23) hx hb dX5_board_17 (by decide) (fun c17 => ?_) (fun c17 => absurd c17 (by decide))
          refine f_aload_n hx hb dX5_board_23 hl 3 rfl rfl ?_
          refine e_get (C := RX0) (T := TX0) (N := 4) hx hb hts i0 hown hK hw (Ew_berth (by assumption)) rfl 2 (by decide) (hts (.fieldLink RX5 60 "FerryQuay$Berth" "gate" "LFerryQuay$Gate;") (by decide +kernel)) rfl dX5_board_24 ?_
          refine f_val (orefR hG (by omega)) ?_
          refine f_astore hx hb dX5_board_27 hl (by decide) (fun ls hl => ?_)
          refine f_aload hx hb dX5_board_29 hl rfl ?_
          refine lv_ifnonnull (tgt := 37) hx hb dX5_board_31 (by decide) ?_
          refine f_aload hx hb dX5_board_37 hl rfl ?_
          refine lv_dup hx hb dX5_board_39 rfl ?_
          refine e_get (C := RX2) (T := TX2) (N := 4) hx hb hts i2 hown hK hw (Ew_gate (by assumption)) rfl 2 (by decide) (hts (.fieldLink RX5 101 "FerryQuay$Gate" "taken" "I") (by decide +kernel)) rfl dX5_board_40 ?_
          refine lv_iconst (v := 1) hx hb dX5_board_43 (by decide) ?_
          refine lv_iadd hx hb dX5_board_44 ?_
          refine e_put (C := RX2) (T := TX2) (N := 4) (ty := .int) hx hb hts i2 tyX2 tyX2_ok nmX2 hown hK hw hS (Ew_gate (by assumption)) rfl 2 (by decide) (hts (.fieldLink RX5 101 "FerryQuay$Gate" "taken" "I") (by decide +kernel)) rfl (by decide +kernel) rfl rfl (Nat.le_of_ble_eq_true rfl) dX5_board_45 (fun H locs hw hS => ?_)
          have hw := hw.cast (Ep_gate2 (by assumption))
          refine f_aload hx hb dX5_board_48 hl rfl ?_
          refine e_get (C := RX2) (T := TX2) (N := 4) hx hb hts i2 hown hK hw (Ew_gate (by assumption)) rfl 1 (by decide) (hts (.fieldLink RX5 78 "FerryQuay$Gate" "isShut" "Z") (by decide +kernel)) rfl dX5_board_50 ?_
          refine lv_if_eq (tgt := 59) hx hb dX5_board_53 (by decide) (fun c53 => ?_) (fun c53 => ?_)
          · refine f_aload_n hx hb dX5_board_59 hl 0 rfl rfl ?_
            refine f_aload hx hb dX5_board_60 hl rfl ?_
            refine f_aload_n hx hb dX5_board_62 hl 3 rfl rfl ?_
            refine f_iload_n hx hb dX5_board_63 hl 2 rfl rfl ?_
            refine q_ci (q_runV (C := RX5) (T := TX5) (N := 10) ⟨hx, hb, hml, hown, hts⟩ (c_X5_boardThrough l (z := inc z 2 g) (hI.p2 hg) hj hg n) (cwV 3 hts gX5_board_X5_boardThrough rfl rfl rfl (by decide +kernel) ⟨Nat.le_of_ble_eq_true rfl, Nat.le_of_ble_eq_true rfl⟩) hK hw Ew_fq rfl rfl hl.1 rfl (by simp [Value.category, va_rf]) dX5_board_64 ⟨Nat.le_of_ble_eq_true rfl, Nat.le_of_ble_eq_true rfl⟩) hS (fun H locs hw hS => ?_)
            exact q_isp hx hb hr hlk hK hw hS dX5_board_67 (by rw [sp_board, hix]; dsimp only [Option.elim]; rw [hGt]; exact (Eq.trans (if_neg h1) (Eq.trans (if_neg h2) (Eq.trans (if_neg (notm1 hG (by omega))) (if_pos c53)))))
          · refine lv_bipush (v := (-5)) hx hb dX5_board_56 (by decide) ?_
            exact q_isp hx hb hr hlk hK hw hS dX5_board_58 (by rw [sp_board, hix]; dsimp only [Option.elim]; rw [hGt]; exact (Eq.trans (if_neg h1) (Eq.trans (if_neg h2) (Eq.trans (if_neg (notm1 hG (by omega))) (if_neg c53)))))
set_option maxHeartbeats 4000000 in
set_option maxRecDepth 100000 in
theorem c_X5_landOver (l : Launch) {G : va_G} {Y : YT} {lo : Nat} {ad : Nat → Nat → Nat} {ng nr nb : Nat} {z u : St} (hI : Inv z ng nr nb) {j r N : Nat} (hj : j < nb) (hr2 : r < nr) (hN : N ≤ 40) : Met l yX5_landOver wsX5_landOver ({ frames := 3, cells := 0, slots := 0, locals := 61 }) (va_Pc [.ref (ad 0 0), .ref (ad 2 r), .ref (ad 3 j), .int (nI N)] (cS G (tysY Y) lo (Ew Y ng nr nb z u ad) ad)) (QI G (tysY Y) lo (ll j r (fo z j) N 0 z).1 (Ew Y ng nr nb (ll j r (fo z j) N 0 z).2 u ad) ad) 0 0 (fun q => lo ≤ q) := by
  refine met_of (cc := cX5_landOver) (maxL := 8) (ret := (some .int)) (by decide) rfl (Nat.le_of_ble_eq_true rfl) rfl ?_
  intro p e s m below meth c ls hx hb hr hlk hml hts hown hnm hw hK hl hS
  have i0 : ∀ w ∈ wsX00, w ∈ wsX5_landOver := by decide +kernel
  have i1 : ∀ w ∈ wsX10, w ∈ wsX5_landOver := by decide +kernel
  have i2 : ∀ w ∈ wsX20, w ∈ wsX5_landOver := by decide +kernel
  have i3 : ∀ w ∈ wsX30, w ∈ wsX5_landOver := by decide +kernel
  have i4 : ∀ w ∈ wsX40, w ∈ wsX5_landOver := by decide +kernel
  have i5 : ∀ w ∈ wsX50, w ∈ wsX5_landOver := by decide +kernel
  have hng := hI.mg
  have hnr := hI.mr
  have hnb := hI.mb
  obtain ⟨f, hf, hF, hFt⟩ := hI.ferry hj
  rcases hI.gate hj with hG | ⟨g, hg, hG, hGt⟩
  · refine f_aload_n hx hb dX5_landOver_0 hl 2 rfl rfl ?_
    refine e_get (C := RX0) (T := TX0) (N := 4) hx hb hts i0 hown hK hw (Ew_berth (by assumption)) rfl 1 (by decide) (hts (.fieldLink RX5 125 "FerryQuay$Berth" "ferry" "LFerryQuay$Ferry;") (by decide +kernel)) rfl dX5_landOver_1 ?_
    refine f_val (congrArg (fun q => Value.ref (ad 6 q)) hFt) ?_
    refine f_astore hx hb dX5_landOver_4 hl (by decide) (fun ls hl => ?_)
    refine f_aload_n hx hb dX5_landOver_6 hl 2 rfl rfl ?_
    refine e_get (C := RX0) (T := TX0) (N := 4) hx hb hts i0 hown hK hw (Ew_berth (by assumption)) rfl 2 (by decide) (hts (.fieldLink RX5 60 "FerryQuay$Berth" "gate" "LFerryQuay$Gate;") (by decide +kernel)) rfl dX5_landOver_7 ?_
    refine f_val (orefN hG) ?_
    refine f_astoreN hx hb dX5_landOver_10 hl (by decide) (fun ls hl => ?_)
    refine lv_iconst (v := 0) hx hb dX5_landOver_12 (by decide) ?_
    refine f_istore hx hb dX5_landOver_13 hl (by decide) (fun ls hl => ?_)
    have loop : ∀ (t : Nat) (w : Int32) (k : Nat) (zc : St) (H : Heap) (locs : List Loc) (ls : Array Slot), Inv zc ng nr nb → w = nI k → k + t = N → sc zc 7 j = -1 → ll j r f t w zc = ll j r (fo z j) N 0 z → wo G lo (Ew Y ng nr nb zc u ad) ad H → va_S (fun q => lo ≤ q) s.heap H locs → lh ls 8 (fun i9 => ([(0, .ref (ad 0 0)), (1, .ref (ad 2 r)), (2, .ref (ad 3 j)), (3, .int (nI N)), (4, .ref (ad 6 f)), (5, .null), (6, .int w)].find? (fun q => q.1 == i9)).map (fun q => q.2)) → W p l e (headSpec wsX5_landOver ({ frames := 3, cells := 0, slots := 0, locals := 61 })).room s m ([.ref (ad 0 0), .ref (ad 2 r), .ref (ad 3 j), .int (nI N)] : List Value).toArray below meth c H locs 0 0 (MQ below (QI G (tysY Y) lo (ll j r (fo z j) N 0 z).1 (Ew Y ng nr nb (ll j r (fo z j) N 0 z).2 u ad) ad) ([.ref (ad 0 0), .ref (ad 2 r), .ref (ad 3 j), .int (nI N)] : List Value).toArray s 0 0 (fun q => lo ≤ q)) (F0 m 15 ls []) := by
      intro t
      induction t with
      | zero =>
        intro w k zc H locs ls hI hwk hkt hG hsp hw hS hl
        obtain ⟨hD, hDn⟩ := hI.deck hf
        refine f_iload hx hb dX5_landOver_15 hl rfl ?_
        refine f_iload_n hx hb dX5_landOver_17 hl 3 rfl rfl ?_
        refine lv_icmp_ge (tgt := 144) hx hb dX5_landOver_18 (by decide) (fun c18 => ?_) (fun c18 => absurd (by rw [hwk]; exact nI_le (by omega) (by omega)) c18)
        refine f_iload hx hb dX5_landOver_144 hl rfl ?_
        exact q_isp hx hb hr hlk hK hw hS dX5_landOver_146 hsp.symm
      | succ t ih =>
        intro w k zc H locs ls hI hwk hkt hG hsp hw hS hl
        obtain ⟨hD, hDn⟩ := hI.deck hf
        refine f_iload hx hb dX5_landOver_15 hl rfl ?_
        refine f_iload_n hx hb dX5_landOver_17 hl 3 rfl rfl ?_
        refine lv_icmp_ge (tgt := 144) hx hb dX5_landOver_18 (by decide) (fun c18 => absurd c18 (by rw [hwk]; exact nI_ge (by omega) (by omega))) (fun c18 => ?_)
        refine f_aload hx hb dX5_landOver_21 hl rfl ?_
        refine e_get (C := RX1) (T := TX1) (N := 3) hx hb hts i1 hown hK hw (Ew_ferry (by assumption)) rfl 1 (by decide) (hts (.fieldLink RX5 148 "FerryQuay$Ferry" "vehicles" "LFerryQuay$Row;") (by decide +kernel)) rfl dX5_landOver_23 ?_
        refine e_get (C := RX4) (T := TX4) (N := 2) hx hb hts i4 hown hK hw (Ew_frow (by assumption)) rfl 1 (by decide) (hts (.fieldLink RX5 98 "FerryQuay$Row" "size" "I") (by decide +kernel)) rfl dX5_landOver_26 ?_
        refine f_top (y := nI (dk zc f)) hDn ?_
        by_cases hd : dk zc f = 0
        · refine lv_if_le (tgt := 144) hx hb dX5_landOver_29 (by decide) (fun c29 => ?_) (fun c29 => absurd (by rw [hd]; decide) c29)
          refine f_iload hx hb dX5_landOver_144 hl rfl ?_
          exact q_isp hx hb hr hlk hK hw hS dX5_landOver_146 (hsp.symm.trans (by rw [ll]; exact (if_pos hd)))
        · refine lv_if_le (tgt := 144) hx hb dX5_landOver_29 (by decide) (fun c29 => absurd c29 (nI_nle (by omega) (by omega))) (fun c29 => ?_)
          refine f_aloadN hx hb dX5_landOver_32 hl rfl ?_
          refine lv_ifnonnullN hx hb dX5_landOver_34 ?_
          refine lv_bipush (v := (-4)) hx hb dX5_landOver_37 (by decide) ?_
          exact q_isp hx hb hr hlk hK hw hS dX5_landOver_39 (hsp.symm.trans (by rw [ll]; exact (Eq.trans (if_neg hd) (if_pos hG))))
    exact loop N 0 0 z _ _ _ hI rfl (by omega) hG (by rw [hFt]) hw hS (hl.list [(0, .ref (ad 0 0)), (1, .ref (ad 2 r)), (2, .ref (ad 3 j)), (3, .int (nI N)), (4, .ref (ad 6 f)), (5, .null), (6, .int 0)] (List.forall_mem_cons.mpr ⟨rfl, List.forall_mem_cons.mpr ⟨rfl, List.forall_mem_cons.mpr ⟨rfl, List.forall_mem_cons.mpr ⟨rfl, List.forall_mem_cons.mpr ⟨rfl, List.forall_mem_cons.mpr ⟨rfl, List.forall_mem_cons.mpr ⟨rfl, fun _ h => absurd h List.not_mem_nil⟩⟩⟩⟩⟩⟩⟩))
  · refine f_aload_n hx hb dX5_landOver_0 hl 2 rfl rfl ?_
    refine e_get (C := RX0) (T := TX0) (N := 4) hx hb hts i0 hown hK hw (Ew_berth (by assumption)) rfl 1 (by decide) (hts (.fieldLink RX5 125 "FerryQuay$Berth" "ferry" "LFerryQuay$Ferry;") (by decide +kernel)) rfl dX5_landOver_1 ?_
    refine f_val (congrArg (fun q => Value.ref (ad 6 q)) hFt) ?_
    refine f_astore hx hb dX5_landOver_4 hl (by decide) (fun ls hl => ?_)
    refine f_aload_n hx hb dX5_landOver_6 hl 2 rfl rfl ?_
    refine e_get (C := RX0) (T := TX0) (N := 4) hx hb hts i0 hown hK hw (Ew_berth (by assumption)) rfl 2 (by decide) (hts (.fieldLink RX5 60 "FerryQuay$Berth" "gate" "LFerryQuay$Gate;") (by decide +kernel)) rfl dX5_landOver_7 ?_
    refine f_val (orefR hG (by omega)) ?_
    refine f_astore hx hb dX5_landOver_10 hl (by decide) (fun ls hl => ?_)
    refine lv_iconst (v := 0) hx hb dX5_landOver_12 (by decide) ?_
    refine f_istore hx hb dX5_landOver_13 hl (by decide) (fun ls hl => ?_)
    have loop : ∀ (t : Nat) (w : Int32) (k : Nat) (zc : St) (H : Heap) (locs : List Loc) (ls : Array Slot), Inv zc ng nr nb → w = nI k → k + t = N → sc zc 7 j = nI g → ll j r f t w zc = ll j r (fo z j) N 0 z → wo G lo (Ew Y ng nr nb zc u ad) ad H → va_S (fun q => lo ≤ q) s.heap H locs → lh ls 8 (fun i9 => ([(0, .ref (ad 0 0)), (1, .ref (ad 2 r)), (2, .ref (ad 3 j)), (3, .int (nI N)), (4, .ref (ad 6 f)), (5, .ref (ad 1 g)), (6, .int w)].find? (fun q => q.1 == i9)).map (fun q => q.2)) → W p l e (headSpec wsX5_landOver ({ frames := 3, cells := 0, slots := 0, locals := 61 })).room s m ([.ref (ad 0 0), .ref (ad 2 r), .ref (ad 3 j), .int (nI N)] : List Value).toArray below meth c H locs 0 0 (MQ below (QI G (tysY Y) lo (ll j r (fo z j) N 0 z).1 (Ew Y ng nr nb (ll j r (fo z j) N 0 z).2 u ad) ad) ([.ref (ad 0 0), .ref (ad 2 r), .ref (ad 3 j), .int (nI N)] : List Value).toArray s 0 0 (fun q => lo ≤ q)) (F0 m 15 ls []) := by
      intro t
      induction t with
      | zero =>
        intro w k zc H locs ls hI hwk hkt hG hsp hw hS hl
        obtain ⟨hD, hDn⟩ := hI.deck hf
        have hGt : tn (sc zc 7 j) = g := by rw [hG]; exact nI_clamp (by omega)
        refine f_iload hx hb dX5_landOver_15 hl rfl ?_
        refine f_iload_n hx hb dX5_landOver_17 hl 3 rfl rfl ?_
        refine lv_icmp_ge (tgt := 144) hx hb dX5_landOver_18 (by decide) (fun c18 => ?_) (fun c18 => absurd (by rw [hwk]; exact nI_le (by omega) (by omega)) c18)
        refine f_iload hx hb dX5_landOver_144 hl rfl ?_
        exact q_isp hx hb hr hlk hK hw hS dX5_landOver_146 hsp.symm
      | succ t ih =>
        intro w k zc H locs ls hI hwk hkt hG hsp hw hS hl
        obtain ⟨hD, hDn⟩ := hI.deck hf
        have hGt : tn (sc zc 7 j) = g := by rw [hG]; exact nI_clamp (by omega)
        refine f_iload hx hb dX5_landOver_15 hl rfl ?_
        refine f_iload_n hx hb dX5_landOver_17 hl 3 rfl rfl ?_
        refine lv_icmp_ge (tgt := 144) hx hb dX5_landOver_18 (by decide) (fun c18 => absurd c18 (by rw [hwk]; exact nI_ge (by omega) (by omega))) (fun c18 => ?_)
        refine f_aload hx hb dX5_landOver_21 hl rfl ?_
        refine e_get (C := RX1) (T := TX1) (N := 3) hx hb hts i1 hown hK hw (Ew_ferry (by assumption)) rfl 1 (by decide) (hts (.fieldLink RX5 148 "FerryQuay$Ferry" "vehicles" "LFerryQuay$Row;") (by decide +kernel)) rfl dX5_landOver_23 ?_
        refine e_get (C := RX4) (T := TX4) (N := 2) hx hb hts i4 hown hK hw (Ew_frow (by assumption)) rfl 1 (by decide) (hts (.fieldLink RX5 98 "FerryQuay$Row" "size" "I") (by decide +kernel)) rfl dX5_landOver_26 ?_
        refine f_top (y := nI (dk zc f)) hDn ?_
        by_cases hd : dk zc f = 0
        · refine lv_if_le (tgt := 144) hx hb dX5_landOver_29 (by decide) (fun c29 => ?_) (fun c29 => absurd (by rw [hd]; decide) c29)
          refine f_iload hx hb dX5_landOver_144 hl rfl ?_
          exact q_isp hx hb hr hlk hK hw hS dX5_landOver_146 (hsp.symm.trans (by rw [ll]; exact (if_pos hd)))
        · refine lv_if_le (tgt := 144) hx hb dX5_landOver_29 (by decide) (fun c29 => absurd c29 (nI_nle (by omega) (by omega))) (fun c29 => ?_)
          refine f_aload hx hb dX5_landOver_32 hl rfl ?_
          refine lv_ifnonnull (tgt := 40) hx hb dX5_landOver_34 (by decide) ?_
          refine f_aload hx hb dX5_landOver_40 hl rfl ?_
          refine lv_dup hx hb dX5_landOver_42 rfl ?_
          refine e_get (C := RX2) (T := TX2) (N := 4) hx hb hts i2 hown hK hw (Ew_gate (by assumption)) rfl 2 (by decide) (hts (.fieldLink RX5 101 "FerryQuay$Gate" "taken" "I") (by decide +kernel)) rfl dX5_landOver_43 ?_
          refine lv_iconst (v := 1) hx hb dX5_landOver_46 (by decide) ?_
          refine lv_iadd hx hb dX5_landOver_47 ?_
          refine e_put (C := RX2) (T := TX2) (N := 4) (ty := .int) hx hb hts i2 tyX2 tyX2_ok nmX2 hown hK hw hS (Ew_gate (by assumption)) rfl 2 (by decide) (hts (.fieldLink RX5 101 "FerryQuay$Gate" "taken" "I") (by decide +kernel)) rfl (by decide +kernel) rfl rfl (Nat.le_of_ble_eq_true rfl) dX5_landOver_48 (fun H locs hw hS => ?_)
          have hw := hw.cast (Ep_gate2 (by assumption))
          refine f_aload hx hb dX5_landOver_51 hl rfl ?_
          refine e_get (C := RX2) (T := TX2) (N := 4) hx hb hts i2 hown hK hw (Ew_gate (by assumption)) rfl 1 (by decide) (hts (.fieldLink RX5 78 "FerryQuay$Gate" "isShut" "Z") (by decide +kernel)) rfl dX5_landOver_53 ?_
          refine lv_if_eq (tgt := 62) hx hb dX5_landOver_56 (by decide) (fun c56 => ?_) (fun c56 => ?_)
          · refine f_aload hx hb dX5_landOver_62 hl rfl ?_
            refine q_ci (q_runV (C := RX1) (T := TX1) (N := 3) ⟨hx, hb, hml, hown, hts⟩ (c_X1_weightOfLast l (Ew_ferry hf) (he_size (Ew_frow (s := inc zc 2 g) hf) hDn) (Ew_farr hf) (by decide) (by omega) hD) (cwV 0 hts gX5_landOver_X1_weightOfLast rfl rfl rfl (by decide +kernel) ⟨Nat.le_of_ble_eq_true rfl, Nat.le_of_ble_eq_true rfl⟩) hK hw (Ew_ferry (by assumption)) rfl rfl hl.1 rfl (by simp [Value.category, va_rf]) dX5_landOver_64 ⟨Nat.le_of_ble_eq_true rfl, Nat.le_of_ble_eq_true rfl⟩) hS (fun H locs hw hS => ?_)
            refine f_top (y := zc 15 f (dk zc f - 1)) rfl ?_
            refine f_istore hx hb dX5_landOver_67 hl (by decide) (fun ls hl => ?_)
            refine f_iload hx hb dX5_landOver_69 hl rfl ?_
            refine f_aload_n hx hb dX5_landOver_71 hl 1 rfl rfl ?_
            refine e_get (C := RX3) (T := TX3) (N := 4) hx hb hts i3 hown hK hw (Ew_ramp (by assumption)) rfl 1 (by decide) (hts (.fieldLink RX5 122 "FerryQuay$Ramp" "limit" "I") (by decide +kernel)) rfl dX5_landOver_72 ?_
            refine lv_icmp_le (tgt := 85) hx hb dX5_landOver_75 (by decide) (fun c75 => ?_) (fun c75 => ?_)
            · refine f_aload hx hb dX5_landOver_85 hl rfl ?_
              refine q_cv (q_runV (C := RX1) (T := TX1) (N := 3) ⟨hx, hb, hml, hown, hts⟩ (c_X1_putLastAshore l (Ew_ferry hf) (he_size (Ew_frow (s := inc zc 2 g) hf) hDn) (Ew_farr hf) (by decide) (by omega) hD) (cwV 0 hts gX5_landOver_X1_putLastAshore rfl rfl rfl (by decide +kernel) ⟨Nat.le_of_ble_eq_true rfl, Nat.le_of_ble_eq_true rfl⟩) hK hw (Ew_ferry (by assumption)) rfl rfl hl.1 rfl (by simp [Value.category, va_rf]) dX5_landOver_87 ⟨Nat.le_of_ble_eq_true rfl, Nat.le_of_ble_eq_true rfl⟩) hS (fun H locs hw hS => ?_)
              have hw := hw.cast (Ep_lnd hf rfl)
              refine f_aload_n hx hb dX5_landOver_90 hl 0 rfl rfl ?_
              refine lv_dup hx hb dX5_landOver_91 rfl ?_
              refine e_get (C := RX5) (T := TX5) (N := 10) hx hb hts i5 hown hK hw Ew_fq rfl 7 (by decide) (hts (.fieldLink RX5 157 "FerryQuay" "gone" "I") (by decide +kernel)) rfl dX5_landOver_92 ?_
              refine lv_iconst (v := 1) hx hb dX5_landOver_95 (by decide) ?_
              refine lv_iadd hx hb dX5_landOver_96 ?_
              refine e_put (C := RX5) (T := TX5) (N := 10) (ty := .int) hx hb hts i5 tyX5 tyX5_ok nmX5 hown hK hw hS Ew_fq rfl 7 (by decide) (hts (.fieldLink RX5 157 "FerryQuay" "gone" "I") (by decide +kernel)) rfl (by decide +kernel) rfl rfl (Nat.le_of_ble_eq_true rfl) dX5_landOver_97 (fun H locs hw hS => ?_)
              have hw := hw.cast Ep_fq4
              refine f_iinc (d := 1) hx hb dX5_landOver_100 hl rfl (by decide) (by decide) (fun ls hl => ?_)
              refine f_iload hx hb dX5_landOver_103 hl rfl ?_
              refine lv_if_eq (tgt := 141) hx hb dX5_landOver_105 (by decide) (fun c105 => ?_) (fun c105 => ?_)
              · refine lv_goto (tgt := 15) hx hb dX5_landOver_141 (by decide) ?_
                exact ih (w + 1) (k + 1) _ _ _ _ (((hI.p2 hg).ld hf).t4) (by rw [hwk]; exact nI_1 k) (by omega) hG (Eq.trans (Eq.symm (by rw [ll, hGt]; exact (Eq.trans (if_neg hd) (Eq.trans (if_neg (notm1 hG (by omega))) (Eq.trans (if_pos c56) (Eq.trans (if_neg (Int32.not_lt.mpr c75)) (if_pos c105))))))) hsp) hw hS (hl.list [(0, .ref (ad 0 0)), (1, .ref (ad 2 r)), (2, .ref (ad 3 j)), (3, .int (nI N)), (4, .ref (ad 6 f)), (5, .ref (ad 1 g)), (6, .int (w + 1))] (List.forall_mem_cons.mpr ⟨rfl, List.forall_mem_cons.mpr ⟨rfl, List.forall_mem_cons.mpr ⟨rfl, List.forall_mem_cons.mpr ⟨rfl, List.forall_mem_cons.mpr ⟨rfl, List.forall_mem_cons.mpr ⟨rfl, List.forall_mem_cons.mpr ⟨rfl, fun _ h => absurd h List.not_mem_nil⟩⟩⟩⟩⟩⟩⟩))
              · refine f_iload hx hb dX5_landOver_108 hl rfl ?_
                refine f_aload_n hx hb dX5_landOver_110 hl 1 rfl rfl ?_
                refine e_get (C := RX3) (T := TX3) (N := 4) hx hb hts i3 hown hK hw (Ew_ramp (by assumption)) rfl 1 (by decide) (hts (.fieldLink RX5 122 "FerryQuay$Ramp" "limit" "I") (by decide +kernel)) rfl dX5_landOver_111 ?_
                refine lv_iconst (v := 2) hx hb dX5_landOver_114 (by decide) ?_
                refine lv_idiv hx hb dX5_landOver_115 (by decide) ?_
                refine lv_icmp_gt (tgt := 141) hx hb dX5_landOver_116 (by decide) (fun c116 => ?_) (fun c116 => ?_)
                · refine lv_goto (tgt := 15) hx hb dX5_landOver_141 (by decide) ?_
                  exact ih (w + 1) (k + 1) _ _ _ _ (((hI.p2 hg).ld hf).t4) (by rw [hwk]; exact nI_1 k) (by omega) hG (Eq.trans (Eq.symm (by rw [ll, hGt]; exact (Eq.trans (if_neg hd) (Eq.trans (if_neg (notm1 hG (by omega))) (Eq.trans (if_pos c56) (Eq.trans (if_neg (Int32.not_lt.mpr c75)) (Eq.trans (if_neg c105) (if_pos c116)))))))) hsp) hw hS (hl.list [(0, .ref (ad 0 0)), (1, .ref (ad 2 r)), (2, .ref (ad 3 j)), (3, .int (nI N)), (4, .ref (ad 6 f)), (5, .ref (ad 1 g)), (6, .int (w + 1))] (List.forall_mem_cons.mpr ⟨rfl, List.forall_mem_cons.mpr ⟨rfl, List.forall_mem_cons.mpr ⟨rfl, List.forall_mem_cons.mpr ⟨rfl, List.forall_mem_cons.mpr ⟨rfl, List.forall_mem_cons.mpr ⟨rfl, List.forall_mem_cons.mpr ⟨rfl, fun _ h => absurd h List.not_mem_nil⟩⟩⟩⟩⟩⟩⟩))
                · refine f_aload hx hb dX5_landOver_119 hl rfl ?_
                  refine lv_dup hx hb dX5_landOver_121 rfl ?_
                  refine e_get (C := RX2) (T := TX2) (N := 4) hx hb hts i2 hown hK hw (Ew_gate (by assumption)) rfl 3 (by decide) (hts (.fieldLink RX5 138 "FerryQuay$Gate" "passed" "I") (by decide +kernel)) rfl dX5_landOver_122 ?_
                  refine lv_iconst (v := 1) hx hb dX5_landOver_125 (by decide) ?_
                  refine lv_iadd hx hb dX5_landOver_126 ?_
                  refine e_put (C := RX2) (T := TX2) (N := 4) (ty := .int) hx hb hts i2 tyX2 tyX2_ok nmX2 hown hK hw hS (Ew_gate (by assumption)) rfl 3 (by decide) (hts (.fieldLink RX5 138 "FerryQuay$Gate" "passed" "I") (by decide +kernel)) rfl (by decide +kernel) rfl rfl (Nat.le_of_ble_eq_true rfl) dX5_landOver_127 (fun H locs hw hS => ?_)
                  have hw := hw.cast (Ep_gate3 (by assumption))
                  refine f_aload_n hx hb dX5_landOver_130 hl 1 rfl rfl ?_
                  refine lv_dup hx hb dX5_landOver_131 rfl ?_
                  refine e_get (C := RX3) (T := TX3) (N := 4) hx hb hts i3 hown hK hw (Ew_ramp (by assumption)) rfl 3 (by decide) (hts (.fieldLink RX5 141 "FerryQuay$Ramp" "wear" "I") (by decide +kernel)) rfl dX5_landOver_132 ?_
                  refine f_iload hx hb dX5_landOver_135 hl rfl ?_
                  refine lv_iadd hx hb dX5_landOver_137 ?_
                  refine e_put (C := RX3) (T := TX3) (N := 4) (ty := .int) hx hb hts i3 tyX3 tyX3_ok nmX3 hown hK hw hS (Ew_ramp (by assumption)) rfl 3 (by decide) (hts (.fieldLink RX5 141 "FerryQuay$Ramp" "wear" "I") (by decide +kernel)) rfl (by decide +kernel) rfl rfl (Nat.le_of_ble_eq_true rfl) dX5_landOver_138 (fun H locs hw hS => ?_)
                  have hw := hw.cast (Ep_ramp3 (by assumption))
                  refine lv_goto (tgt := 15) hx hb dX5_landOver_141 (by decide) ?_
                  exact ih (w + 1) (k + 1) _ _ _ _ (((((hI.p2 hg).ld hf).t4).p3 hg).p5 hr2) (by rw [hwk]; exact nI_1 k) (by omega) hG (Eq.trans (Eq.symm (by rw [ll, hGt]; exact (Eq.trans (if_neg hd) (Eq.trans (if_neg (notm1 hG (by omega))) (Eq.trans (if_pos c56) (Eq.trans (if_neg (Int32.not_lt.mpr c75)) (Eq.trans (if_neg c105) (if_neg c116)))))))) hsp) hw hS (hl.list [(0, .ref (ad 0 0)), (1, .ref (ad 2 r)), (2, .ref (ad 3 j)), (3, .int (nI N)), (4, .ref (ad 6 f)), (5, .ref (ad 1 g)), (6, .int (w + 1))] (List.forall_mem_cons.mpr ⟨rfl, List.forall_mem_cons.mpr ⟨rfl, List.forall_mem_cons.mpr ⟨rfl, List.forall_mem_cons.mpr ⟨rfl, List.forall_mem_cons.mpr ⟨rfl, List.forall_mem_cons.mpr ⟨rfl, List.forall_mem_cons.mpr ⟨rfl, fun _ h => absurd h List.not_mem_nil⟩⟩⟩⟩⟩⟩⟩))
            · refine f_aload_n hx hb dX5_landOver_78 hl 0 rfl rfl ?_
              refine lv_bipush (v := (-6)) hx hb dX5_landOver_79 (by decide) ?_
              refine q_ci (q_runV (C := RX5) (T := TX5) (N := 10) ⟨hx, hb, hml, hown, hts⟩ (c_X5_alarm l (hI.p2 hg) (-6)) (cwV 1 hts gX5_landOver_X5_alarm rfl rfl rfl (by decide +kernel) ⟨Nat.le_of_ble_eq_true rfl, Nat.le_of_ble_eq_true rfl⟩) hK hw Ew_fq rfl rfl hl.1 rfl (by simp [Value.category, va_rf]) dX5_landOver_81 ⟨Nat.le_of_ble_eq_true rfl, Nat.le_of_ble_eq_true rfl⟩) hS (fun H locs hw hS => ?_)
              exact q_isp hx hb hr hlk hK hw hS dX5_landOver_84 (hsp.symm.trans (by rw [ll, hGt]; exact (Eq.trans (if_neg hd) (Eq.trans (if_neg (notm1 hG (by omega))) (Eq.trans (if_pos c56) (if_pos (Int32.not_le.mp c75)))))))
          · refine f_iload hx hb dX5_landOver_59 hl rfl ?_
            exact q_isp hx hb hr hlk hK hw hS dX5_landOver_61 (hsp.symm.trans (by rw [ll, hGt]; exact (Eq.trans (if_neg hd) (Eq.trans (if_neg (notm1 hG (by omega))) (if_neg c56)))))
    exact loop N 0 0 z _ _ _ hI rfl (by omega) hG (by rw [hFt]) hw hS (hl.list [(0, .ref (ad 0 0)), (1, .ref (ad 2 r)), (2, .ref (ad 3 j)), (3, .int (nI N)), (4, .ref (ad 6 f)), (5, .ref (ad 1 g)), (6, .int 0)] (List.forall_mem_cons.mpr ⟨rfl, List.forall_mem_cons.mpr ⟨rfl, List.forall_mem_cons.mpr ⟨rfl, List.forall_mem_cons.mpr ⟨rfl, List.forall_mem_cons.mpr ⟨rfl, List.forall_mem_cons.mpr ⟨rfl, List.forall_mem_cons.mpr ⟨rfl, fun _ h => absurd h List.not_mem_nil⟩⟩⟩⟩⟩⟩⟩))
set_option maxHeartbeats 4000000 in
set_option maxRecDepth 100000 in
theorem c_X5_land (l : Launch) {G : va_G} {Y : YT} {lo : Nat} {ad : Nat → Nat → Nat} {ng nr nb : Nat} {z u : St} (hI : Inv z ng nr nb) (x n : Int32) : Met l yX5_land wsX5_land ({ frames := 4, cells := 0, slots := 0, locals := 88 }) (va_Pc [.ref (ad 0 0), .int x, .int n] (cS G (tysY Y) lo (Ew Y ng nr nb z u ad) ad)) (QI G (tysY Y) lo (sp_land nb z x n).1 (Ew Y ng nr nb (sp_land nb z x n).2 u ad) ad) 0 0 (fun q => lo ≤ q) := by
  refine met_of (cc := cX5_land) (maxL := 5) (ret := (some .int)) (by decide) rfl (Nat.le_of_ble_eq_true rfl) rfl ?_
  intro p e s m below meth c ls hx hb hr hlk hml hts hown hnm hw hK hl hS
  have i0 : ∀ w ∈ wsX00, w ∈ wsX5_land := by decide +kernel
  have i3 : ∀ w ∈ wsX30, w ∈ wsX5_land := by decide +kernel
  have i5 : ∀ w ∈ wsX50, w ∈ wsX5_land := by decide +kernel
  have hng := hI.mg
  have hnr := hI.mr
  have hnb := hI.mb
  rcases ix_cases x hI.nb2 with ⟨hix, hbad⟩ | ⟨j, hj, rfl, hix⟩
  · refine f_aload_n hx hb dX5_land_0 hl 0 rfl rfl ?_
    refine f_iload_n hx hb dX5_land_1 hl 1 rfl rfl ?_
    refine q_cq (q_runV (C := RX5) (T := TX5) (N := 10) ⟨hx, hb, hml, hown, hts⟩ (c_X5_berthAt l hI x) (cwV 1 hts gX5_land_X5_berthAt rfl rfl rfl (by decide +kernel) ⟨Nat.le_of_ble_eq_true rfl, Nat.le_of_ble_eq_true rfl⟩) hK hw Ew_fq rfl rfl hl.1 rfl (by simp [Value.category, va_rf]) dX5_land_2 ⟨Nat.le_of_ble_eq_true rfl, Nat.le_of_ble_eq_true rfl⟩) hS (fun H locs hw hS => ?_)
    refine f_val (y := .null) (by rw [hix]; rfl) ?_
    refine f_astore_nN hx hb dX5_land_5 hl 3 rfl (by decide) (fun ls hl => ?_)
    refine f_aload_nN hx hb dX5_land_6 hl 3 rfl rfl ?_
    refine lv_ifnullN (tgt := 20) hx hb dX5_land_7 (by decide) ?_
    refine lv_bipush (v := (-2)) hx hb dX5_land_20 (by decide) ?_
    exact q_isp hx hb hr hlk hK hw hS dX5_land_22 (by rw [sp_land, hix]; exact rfl)
  · by_cases h1 : n < 1
    · refine f_aload_n hx hb dX5_land_0 hl 0 rfl rfl ?_
      refine f_iload_n hx hb dX5_land_1 hl 1 rfl rfl ?_
      refine q_cq (q_runV (C := RX5) (T := TX5) (N := 10) ⟨hx, hb, hml, hown, hts⟩ (c_X5_berthAt l hI (nI j)) (cwV 1 hts gX5_land_X5_berthAt rfl rfl rfl (by decide +kernel) ⟨Nat.le_of_ble_eq_true rfl, Nat.le_of_ble_eq_true rfl⟩) hK hw Ew_fq rfl rfl hl.1 rfl (by simp [Value.category, va_rf]) dX5_land_2 ⟨Nat.le_of_ble_eq_true rfl, Nat.le_of_ble_eq_true rfl⟩) hS (fun H locs hw hS => ?_)
      refine f_val (y := .ref (ad 3 j)) (by rw [hix]; rfl) ?_
      refine f_astore_n hx hb dX5_land_5 hl 3 rfl (by decide) (fun ls hl => ?_)
      refine f_aload_n hx hb dX5_land_6 hl 3 rfl rfl ?_
      refine lv_ifnull hx hb dX5_land_7 ?_
      refine f_iload_n hx hb dX5_land_10 hl 2 rfl rfl ?_
      refine lv_iconst (v := 1) hx hb dX5_land_11 (by decide) ?_
      refine lv_bipush (v := 40) hx hb dX5_land_12 (by decide) ?_
      refine q_ci (q_runS ⟨hx, hb, hml, hown, hts⟩ (c_X5_isWithin l n 1 40) (va_cwS 3 hts gX5_land_X5_isWithin rfl rfl rfl (by decide +kernel) ⟨Nat.le_of_ble_eq_true rfl, Nat.le_of_ble_eq_true rfl⟩) hK hw rfl hl.1 rfl (by simp [Value.category, va_rf]) dX5_land_14 ⟨Nat.le_of_ble_eq_true rfl, Nat.le_of_ble_eq_true rfl⟩) hS (fun H locs hw hS => ?_)
      refine f_top (y := 0) (if_pos h1) ?_
      refine lv_if_ne (tgt := 23) hx hb dX5_land_17 (by decide) (fun c17 => absurd (by decide) c17) (fun c17 => ?_)
      refine lv_bipush (v := (-2)) hx hb dX5_land_20 (by decide) ?_
      exact q_isp hx hb hr hlk hK hw hS dX5_land_22 (by rw [sp_land, hix]; dsimp only [Option.elim]; exact (if_pos h1))
    · by_cases h2 : 40 < n
      · refine f_aload_n hx hb dX5_land_0 hl 0 rfl rfl ?_
        refine f_iload_n hx hb dX5_land_1 hl 1 rfl rfl ?_
        refine q_cq (q_runV (C := RX5) (T := TX5) (N := 10) ⟨hx, hb, hml, hown, hts⟩ (c_X5_berthAt l hI (nI j)) (cwV 1 hts gX5_land_X5_berthAt rfl rfl rfl (by decide +kernel) ⟨Nat.le_of_ble_eq_true rfl, Nat.le_of_ble_eq_true rfl⟩) hK hw Ew_fq rfl rfl hl.1 rfl (by simp [Value.category, va_rf]) dX5_land_2 ⟨Nat.le_of_ble_eq_true rfl, Nat.le_of_ble_eq_true rfl⟩) hS (fun H locs hw hS => ?_)
        refine f_val (y := .ref (ad 3 j)) (by rw [hix]; rfl) ?_
        refine f_astore_n hx hb dX5_land_5 hl 3 rfl (by decide) (fun ls hl => ?_)
        refine f_aload_n hx hb dX5_land_6 hl 3 rfl rfl ?_
        refine lv_ifnull hx hb dX5_land_7 ?_
        refine f_iload_n hx hb dX5_land_10 hl 2 rfl rfl ?_
        refine lv_iconst (v := 1) hx hb dX5_land_11 (by decide) ?_
        refine lv_bipush (v := 40) hx hb dX5_land_12 (by decide) ?_
        refine q_ci (q_runS ⟨hx, hb, hml, hown, hts⟩ (c_X5_isWithin l n 1 40) (va_cwS 3 hts gX5_land_X5_isWithin rfl rfl rfl (by decide +kernel) ⟨Nat.le_of_ble_eq_true rfl, Nat.le_of_ble_eq_true rfl⟩) hK hw rfl hl.1 rfl (by simp [Value.category, va_rf]) dX5_land_14 ⟨Nat.le_of_ble_eq_true rfl, Nat.le_of_ble_eq_true rfl⟩) hS (fun H locs hw hS => ?_)
        refine f_top (y := 0) (Eq.trans (if_neg h1) (if_pos h2)) ?_
        refine lv_if_ne (tgt := 23) hx hb dX5_land_17 (by decide) (fun c17 => absurd (by decide) c17) (fun c17 => ?_)
        refine lv_bipush (v := (-2)) hx hb dX5_land_20 (by decide) ?_
        exact q_isp hx hb hr hlk hK hw hS dX5_land_22 (by rw [sp_land, hix]; dsimp only [Option.elim]; exact (Eq.trans (if_neg h1) (if_pos h2)))
      · obtain ⟨N, hN, rfl⟩ := rng_of (M := 40) (m := 40) (by decide) h1 h2
        rcases hI.ramp hj with hR | ⟨r, hr2, hR, hRt⟩
        · refine f_aload_n hx hb dX5_land_0 hl 0 rfl rfl ?_
          refine f_iload_n hx hb dX5_land_1 hl 1 rfl rfl ?_
          refine q_cq (q_runV (C := RX5) (T := TX5) (N := 10) ⟨hx, hb, hml, hown, hts⟩ (c_X5_berthAt l hI (nI j)) (cwV 1 hts gX5_land_X5_berthAt rfl rfl rfl (by decide +kernel) ⟨Nat.le_of_ble_eq_true rfl, Nat.le_of_ble_eq_true rfl⟩) hK hw Ew_fq rfl rfl hl.1 rfl (by simp [Value.category, va_rf]) dX5_land_2 ⟨Nat.le_of_ble_eq_true rfl, Nat.le_of_ble_eq_true rfl⟩) hS (fun H locs hw hS => ?_)
          refine f_val (y := .ref (ad 3 j)) (by rw [hix]; rfl) ?_
          refine f_astore_n hx hb dX5_land_5 hl 3 rfl (by decide) (fun ls hl => ?_)
          refine f_aload_n hx hb dX5_land_6 hl 3 rfl rfl ?_
          refine lv_ifnull hx hb dX5_land_7 ?_
          refine f_iload_n hx hb dX5_land_10 hl 2 rfl rfl ?_
          refine lv_iconst (v := 1) hx hb dX5_land_11 (by decide) ?_
          refine lv_bipush (v := 40) hx hb dX5_land_12 (by decide) ?_
          refine q_ci (q_runS ⟨hx, hb, hml, hown, hts⟩ (c_X5_isWithin l (nI N) 1 40) (va_cwS 3 hts gX5_land_X5_isWithin rfl rfl rfl (by decide +kernel) ⟨Nat.le_of_ble_eq_true rfl, Nat.le_of_ble_eq_true rfl⟩) hK hw rfl hl.1 rfl (by simp [Value.category, va_rf]) dX5_land_14 ⟨Nat.le_of_ble_eq_true rfl, Nat.le_of_ble_eq_true rfl⟩) hS (fun H locs hw hS => ?_)
          refine f_top (y := 1) (Eq.trans (if_neg h1) (if_neg h2)) ?_
          refine lv_if_ne (tgt := 23) hx hb dX5_land_17 (by decide) (fun c17 => ?_) (fun c17 => absurd c17 (by decide))
          refine f_aload_n hx hb dX5_land_23 hl 3 rfl rfl ?_
          refine e_get (C := RX0) (T := TX0) (N := 4) hx hb hts i0 hown hK hw (Ew_berth (by assumption)) rfl 3 (by decide) (hts (.fieldLink RX5 71 "FerryQuay$Berth" "ramp" "LFerryQuay$Ramp;") (by decide +kernel)) rfl dX5_land_24 ?_
          refine f_val (orefN hR) ?_
          refine f_astoreN hx hb dX5_land_27 hl (by decide) (fun ls hl => ?_)
          refine f_aloadN hx hb dX5_land_29 hl rfl ?_
          refine lv_ifnonnullN hx hb dX5_land_31 ?_
          refine lv_bipush (v := (-4)) hx hb dX5_land_34 (by decide) ?_
          exact q_isp hx hb hr hlk hK hw hS dX5_land_36 (by rw [sp_land, hix]; dsimp only [Option.elim]; exact (Eq.trans (if_neg h1) (Eq.trans (if_neg h2) (if_pos hR))))
        · refine f_aload_n hx hb dX5_land_0 hl 0 rfl rfl ?_
          refine f_iload_n hx hb dX5_land_1 hl 1 rfl rfl ?_
          refine q_cq (q_runV (C := RX5) (T := TX5) (N := 10) ⟨hx, hb, hml, hown, hts⟩ (c_X5_berthAt l hI (nI j)) (cwV 1 hts gX5_land_X5_berthAt rfl rfl rfl (by decide +kernel) ⟨Nat.le_of_ble_eq_true rfl, Nat.le_of_ble_eq_true rfl⟩) hK hw Ew_fq rfl rfl hl.1 rfl (by simp [Value.category, va_rf]) dX5_land_2 ⟨Nat.le_of_ble_eq_true rfl, Nat.le_of_ble_eq_true rfl⟩) hS (fun H locs hw hS => ?_)
          refine f_val (y := .ref (ad 3 j)) (by rw [hix]; rfl) ?_
          refine f_astore_n hx hb dX5_land_5 hl 3 rfl (by decide) (fun ls hl => ?_)
          refine f_aload_n hx hb dX5_land_6 hl 3 rfl rfl ?_
          refine lv_ifnull hx hb dX5_land_7 ?_
          refine f_iload_n hx hb dX5_land_10 hl 2 rfl rfl ?_
          refine lv_iconst (v := 1) hx hb dX5_land_11 (by decide) ?_
          refine lv_bipush (v := 40) hx hb dX5_land_12 (by decide) ?_
          refine q_ci (q_runS ⟨hx, hb, hml, hown, hts⟩ (c_X5_isWithin l (nI N) 1 40) (va_cwS 3 hts gX5_land_X5_isWithin rfl rfl rfl (by decide +kernel) ⟨Nat.le_of_ble_eq_true rfl, Nat.le_of_ble_eq_true rfl⟩) hK hw rfl hl.1 rfl (by simp [Value.category, va_rf]) dX5_land_14 ⟨Nat.le_of_ble_eq_true rfl, Nat.le_of_ble_eq_true rfl⟩) hS (fun H locs hw hS => ?_)
          refine f_top (y := 1) (Eq.trans (if_neg h1) (if_neg h2)) ?_
          refine lv_if_ne (tgt := 23) hx hb dX5_land_17 (by decide) (fun c17 => ?_) (fun c17 => absurd c17 (by decide))
          refine f_aload_n hx hb dX5_land_23 hl 3 rfl rfl ?_
          refine e_get (C := RX0) (T := TX0) (N := 4) hx hb hts i0 hown hK hw (Ew_berth (by assumption)) rfl 3 (by decide) (hts (.fieldLink RX5 71 "FerryQuay$Berth" "ramp" "LFerryQuay$Ramp;") (by decide +kernel)) rfl dX5_land_24 ?_
          refine f_val (orefR hR (by omega)) ?_
          refine f_astore hx hb dX5_land_27 hl (by decide) (fun ls hl => ?_)
          refine f_aload hx hb dX5_land_29 hl rfl ?_
          refine lv_ifnonnull (tgt := 37) hx hb dX5_land_31 (by decide) ?_
          refine f_aload hx hb dX5_land_37 hl rfl ?_
          refine lv_dup hx hb dX5_land_39 rfl ?_
          refine e_get (C := RX3) (T := TX3) (N := 4) hx hb hts i3 hown hK hw (Ew_ramp (by assumption)) rfl 2 (by decide) (hts (.fieldLink RX5 108 "FerryQuay$Ramp" "taken" "I") (by decide +kernel)) rfl dX5_land_40 ?_
          refine lv_iconst (v := 1) hx hb dX5_land_43 (by decide) ?_
          refine lv_iadd hx hb dX5_land_44 ?_
          refine e_put (C := RX3) (T := TX3) (N := 4) (ty := .int) hx hb hts i3 tyX3 tyX3_ok nmX3 hown hK hw hS (Ew_ramp (by assumption)) rfl 2 (by decide) (hts (.fieldLink RX5 108 "FerryQuay$Ramp" "taken" "I") (by decide +kernel)) rfl (by decide +kernel) rfl rfl (Nat.le_of_ble_eq_true rfl) dX5_land_45 (fun H locs hw hS => ?_)
          have hw := hw.cast (Ep_ramp2 (by assumption))
          refine f_aload_n hx hb dX5_land_48 hl 0 rfl rfl ?_
          refine f_aload hx hb dX5_land_49 hl rfl ?_
          refine f_aload_n hx hb dX5_land_51 hl 3 rfl rfl ?_
          refine f_iload_n hx hb dX5_land_52 hl 2 rfl rfl ?_
          refine q_ci (q_runV (C := RX5) (T := TX5) (N := 10) ⟨hx, hb, hml, hown, hts⟩ (c_X5_landOver l (z := inc z 6 r) (hI.p6 hr2) hj hr2 hN) (cwV 3 hts gX5_land_X5_landOver rfl rfl rfl (by decide +kernel) ⟨Nat.le_of_ble_eq_true rfl, Nat.le_of_ble_eq_true rfl⟩) hK hw Ew_fq rfl rfl hl.1 rfl (by simp [Value.category, va_rf]) dX5_land_53 ⟨Nat.le_of_ble_eq_true rfl, Nat.le_of_ble_eq_true rfl⟩) hS (fun H locs hw hS => ?_)
          exact q_isp hx hb hr hlk hK hw hS dX5_land_56 (by rw [sp_land, hix]; dsimp only [Option.elim]; rw [hRt, show tn (nI N) = N from nI_clamp (by omega)]; exact (Eq.trans (if_neg h1) (Eq.trans (if_neg h2) (if_neg (notm1 hR (by omega))))))
