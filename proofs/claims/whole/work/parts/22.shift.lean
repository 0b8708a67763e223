set_option maxHeartbeats 4000000 in
set_option maxRecDepth 100000 in
theorem c_X5_shiftThrough (l : Launch) {G : va_G} {Y : YT} {lo : Nat} {ad : Nat → Nat → Nat} {ng nr nb : Nat} {z u : St} (hI : Inv z ng nr nb) {i j g N : Nat} (hi : i < nb) (hj : j < nb) (hij : i ≠ j) (hg : g < ng) (hN : N ≤ 30) : Met l yX5_shiftThrough wsX5_shiftThrough ({ frames := 2, cells := 0, slots := 0, locals := 50 }) (va_Pc [.ref (ad 0 0), .ref (ad 1 g), .ref (ad 4 i), .ref (ad 3 j), .int (nI N)] (cS G (tysY Y) lo (Ew Y ng nr nb z u ad) ad)) (QI G (tysY Y) lo (sl i j g (nI N) N 0 z).1 (Ew Y ng nr nb (sl i j g (nI N) N 0 z).2 u ad) ad) 0 0 (fun q => lo ≤ q) := by
  refine met_of (cc := cX5_shiftThrough) (maxL := 7) (ret := (some .int)) (by decide) rfl (Nat.le_of_ble_eq_true rfl) rfl ?_
  intro p e s m below meth c ls hx hb hr hlk hml hts hown hnm hw hK hl hS
  have i0 : ∀ w ∈ wsX00, w ∈ wsX5_shiftThrough := by decide +kernel
  have i2 : ∀ w ∈ wsX20, w ∈ wsX5_shiftThrough := by decide +kernel
  have i4 : ∀ w ∈ wsX40, w ∈ wsX5_shiftThrough := by decide +kernel
  have hng := hI.mg
  have hnr := hI.mr
  have hnb := hI.mb
  rcases hI.gate hj with hG | ⟨h, hh, hG, hGt⟩
  · refine f_aload_n hx hb dX5_shiftThrough_0 hl 3 rfl rfl ?_
    refine e_get (C := RX0) (T := TX0) (N := 4) hx hb hts i0 hown hK hw (Ew_berth (by assumption)) rfl 2 (by decide) (hts (.fieldLink RX5 60 "FerryQuay$Berth" "gate" "LFerryQuay$Gate;") (by decide +kernel)) rfl dX5_shiftThrough_1 ?_
    refine f_val (orefN hG) ?_
    refine f_astoreN hx hb dX5_shiftThrough_4 hl (by decide) (fun ls hl => ?_)
    refine lv_iconst (v := 0) hx hb dX5_shiftThrough_6 (by decide) ?_
    refine f_istore hx hb dX5_shiftThrough_7 hl (by decide) (fun ls hl => ?_)
    have loop : ∀ (t : Nat) (w : Int32) (k : Nat) (zc : St) (H : Heap) (locs : List Loc) (ls : Array Slot), Inv zc ng nr nb → w = nI k → k + t = N → sc zc 7 j = -1 → sl i j g (nI N) t w zc = sl i j g (nI N) N 0 z → wo G lo (Ew Y ng nr nb zc u ad) ad H → va_S (fun q => lo ≤ q) s.heap H locs → lh ls 7 (fun i9 => ([(0, .ref (ad 0 0)), (1, .ref (ad 1 g)), (2, .ref (ad 4 i)), (3, .ref (ad 3 j)), (4, .int (nI N)), (5, .null), (6, .int w)].find? (fun q => q.1 == i9)).map (fun q => q.2)) → W p l e (headSpec wsX5_shiftThrough ({ frames := 2, cells := 0, slots := 0, locals := 50 })).room s m ([.ref (ad 0 0), .ref (ad 1 g), .ref (ad 4 i), .ref (ad 3 j), .int (nI N)] : List Value).toArray below meth c H locs 0 0 (MQ below (QI G (tysY Y) lo (sl i j g (nI N) N 0 z).1 (Ew Y ng nr nb (sl i j g (nI N) N 0 z).2 u ad) ad) ([.ref (ad 0 0), .ref (ad 1 g), .ref (ad 4 i), .ref (ad 3 j), .int (nI N)] : List Value).toArray s 0 0 (fun q => lo ≤ q)) (F0 m 9 ls []) := by
      intro t
      induction t with
      | zero =>
        intro w k zc H locs ls hI hwk hkt hG hsp hw hS hl
        obtain ⟨hL, hLn⟩ := hI.lane hj
        obtain ⟨hM, hMn⟩ := hI.lane hi
        refine f_iload hx hb dX5_shiftThrough_9 hl rfl ?_
        refine f_iload hx hb dX5_shiftThrough_11 hl rfl ?_
        refine lv_icmp_ge (tgt := 106) hx hb dX5_shiftThrough_13 (by decide) (fun c13 => ?_) (fun c13 => absurd (by rw [hwk]; exact nI_le (by omega) (by omega)) c13)
        refine f_iload hx hb dX5_shiftThrough_106 hl rfl ?_
        exact q_isp hx hb hr hlk hK hw hS dX5_shiftThrough_108 hsp.symm
      | succ t ih =>
        intro w k zc H locs ls hI hwk hkt hG hsp hw hS hl
        obtain ⟨hL, hLn⟩ := hI.lane hj
        obtain ⟨hM, hMn⟩ := hI.lane hi
        refine f_iload hx hb dX5_shiftThrough_9 hl rfl ?_
        refine f_iload hx hb dX5_shiftThrough_11 hl rfl ?_
        refine lv_icmp_ge (tgt := 106) hx hb dX5_shiftThrough_13 (by decide) (fun c13 => absurd c13 (by rw [hwk]; exact nI_ge (by omega) (by omega))) (fun c13 => ?_)
        refine f_aloadN hx hb dX5_shiftThrough_16 hl rfl ?_
        refine lv_ifnonnullN hx hb dX5_shiftThrough_18 ?_
        refine lv_bipush (v := (-4)) hx hb dX5_shiftThrough_21 (by decide) ?_
        exact q_isp hx hb hr hlk hK hw hS dX5_shiftThrough_23 (hsp.symm.trans (by rw [sl]; exact (if_pos hG)))
    exact loop N 0 0 z _ _ _ hI rfl (by omega) hG rfl hw hS (hl.list [(0, .ref (ad 0 0)), (1, .ref (ad 1 g)), (2, .ref (ad 4 i)), (3, .ref (ad 3 j)), (4, .int (nI N)), (5, .null), (6, .int 0)] (List.forall_mem_cons.mpr ⟨rfl, List.forall_mem_cons.mpr ⟨rfl, List.forall_mem_cons.mpr ⟨rfl, List.forall_mem_cons.mpr ⟨rfl, List.forall_mem_cons.mpr ⟨rfl, List.forall_mem_cons.mpr ⟨rfl, List.forall_mem_cons.mpr ⟨rfl, fun _ h => absurd h List.not_mem_nil⟩⟩⟩⟩⟩⟩⟩))
  · refine f_aload_n hx hb dX5_shiftThrough_0 hl 3 rfl rfl ?_
    refine e_get (C := RX0) (T := TX0) (N := 4) hx hb hts i0 hown hK hw (Ew_berth (by assumption)) rfl 2 (by decide) (hts (.fieldLink RX5 60 "FerryQuay$Berth" "gate" "LFerryQuay$Gate;") (by decide +kernel)) rfl dX5_shiftThrough_1 ?_
    refine f_val (orefR hG (by omega)) ?_
    refine f_astore hx hb dX5_shiftThrough_4 hl (by decide) (fun ls hl => ?_)
    refine lv_iconst (v := 0) hx hb dX5_shiftThrough_6 (by decide) ?_
    refine f_istore hx hb dX5_shiftThrough_7 hl (by decide) (fun ls hl => ?_)
    have loop : ∀ (t : Nat) (w : Int32) (k : Nat) (zc : St) (H : Heap) (locs : List Loc) (ls : Array Slot), Inv zc ng nr nb → w = nI k → k + t = N → sc zc 7 j = nI h → sl i j g (nI N) t w zc = sl i j g (nI N) N 0 z → wo G lo (Ew Y ng nr nb zc u ad) ad H → va_S (fun q => lo ≤ q) s.heap H locs → lh ls 7 (fun i9 => ([(0, .ref (ad 0 0)), (1, .ref (ad 1 g)), (2, .ref (ad 4 i)), (3, .ref (ad 3 j)), (4, .int (nI N)), (5, .ref (ad 1 h)), (6, .int w)].find? (fun q => q.1 == i9)).map (fun q => q.2)) → W p l e (headSpec wsX5_shiftThrough ({ frames := 2, cells := 0, slots := 0, locals := 50 })).room s m ([.ref (ad 0 0), .ref (ad 1 g), .ref (ad 4 i), .ref (ad 3 j), .int (nI N)] : List Value).toArray below meth c H locs 0 0 (MQ below (QI G (tysY Y) lo (sl i j g (nI N) N 0 z).1 (Ew Y ng nr nb (sl i j g (nI N) N 0 z).2 u ad) ad) ([.ref (ad 0 0), .ref (ad 1 g), .ref (ad 4 i), .ref (ad 3 j), .int (nI N)] : List Value).toArray s 0 0 (fun q => lo ≤ q)) (F0 m 9 ls []) := by
      intro t
      induction t with
      | zero =>
        intro w k zc H locs ls hI hwk hkt hG hsp hw hS hl
        obtain ⟨hL, hLn⟩ := hI.lane hj
        obtain ⟨hM, hMn⟩ := hI.lane hi
        have hGt : tn (sc zc 7 j) = h := by rw [hG]; exact nI_clamp (by omega)
        refine f_iload hx hb dX5_shiftThrough_9 hl rfl ?_
        refine f_iload hx hb dX5_shiftThrough_11 hl rfl ?_
        refine lv_icmp_ge (tgt := 106) hx hb dX5_shiftThrough_13 (by decide) (fun c13 => ?_) (fun c13 => absurd (by rw [hwk]; exact nI_le (by omega) (by omega)) c13)
        refine f_iload hx hb dX5_shiftThrough_106 hl rfl ?_
        exact q_isp hx hb hr hlk hK hw hS dX5_shiftThrough_108 hsp.symm
      | succ t ih =>
        intro w k zc H locs ls hI hwk hkt hG hsp hw hS hl
        obtain ⟨hL, hLn⟩ := hI.lane hj
        obtain ⟨hM, hMn⟩ := hI.lane hi
        have hGt : tn (sc zc 7 j) = h := by rw [hG]; exact nI_clamp (by omega)
        refine f_iload hx hb dX5_shiftThrough_9 hl rfl ?_
        refine f_iload hx hb dX5_shiftThrough_11 hl rfl ?_
        refine lv_icmp_ge (tgt := 106) hx hb dX5_shiftThrough_13 (by decide) (fun c13 => absurd c13 (by rw [hwk]; exact nI_ge (by omega) (by omega))) (fun c13 => ?_)
        refine f_aload hx hb dX5_shiftThrough_16 hl rfl ?_
        refine lv_ifnonnull (tgt := 24) hx hb dX5_shiftThrough_18 (by decide) ?_
        refine f_aload hx hb dX5_shiftThrough_24 hl rfl ?_
        refine lv_dup hx hb dX5_shiftThrough_26 rfl ?_
        refine e_get (C := RX2) (T := TX2) (N := 4) hx hb hts i2 hown hK hw (Ew_gate (by assumption)) rfl 2 (by decide) (hts (.fieldLink RX5 101 "FerryQuay$Gate" "taken" "I") (by decide +kernel)) rfl dX5_shiftThrough_27 ?_
        refine lv_iconst (v := 1) hx hb dX5_shiftThrough_30 (by decide) ?_
        refine lv_iadd hx hb dX5_shiftThrough_31 ?_
        refine e_put (C := RX2) (T := TX2) (N := 4) (ty := .int) hx hb hts i2 tyX2 tyX2_ok nmX2 hown hK hw hS (Ew_gate (by assumption)) rfl 2 (by decide) (hts (.fieldLink RX5 101 "FerryQuay$Gate" "taken" "I") (by decide +kernel)) rfl (by decide +kernel) rfl rfl (Nat.le_of_ble_eq_true rfl) dX5_shiftThrough_32 (fun H locs hw hS => ?_)
        have hw := hw.cast (Ep_gate2 (by assumption))
        refine f_aload hx hb dX5_shiftThrough_35 hl rfl ?_
        refine e_get (C := RX2) (T := TX2) (N := 4) hx hb hts i2 hown hK hw (Ew_gate (by assumption)) rfl 1 (by decide) (hts (.fieldLink RX5 78 "FerryQuay$Gate" "isShut" "Z") (by decide +kernel)) rfl dX5_shiftThrough_37 ?_
        refine lv_if_ne (tgt := 60) hx hb dX5_shiftThrough_40 (by decide) (fun c40 => ?_) (fun c40 => ?_)
        · refine f_iload hx hb dX5_shiftThrough_60 hl rfl ?_
          exact q_isp hx hb hr hlk hK hw hS dX5_shiftThrough_62 (hsp.symm.trans (by rw [sl, hGt]; exact (Eq.trans (if_neg (notm1 hG (by omega))) (if_neg c40))))
        · refine f_aload_n hx hb dX5_shiftThrough_43 hl 3 rfl rfl ?_
          refine e_get (C := RX0) (T := TX0) (N := 4) hx hb hts i0 hown hK hw (Ew_berth (by assumption)) rfl 0 (by decide) (hts (.fieldLink RX5 82 "FerryQuay$Berth" "lane" "LFerryQuay$Row;") (by decide +kernel)) rfl dX5_shiftThrough_44 ?_
          refine q_ci (q_runV (C := RX4) (T := TX4) (N := 2) ⟨hx, hb, hml, hown, hts⟩ (c_X4_isFull l (he_size (Ew_lane (s := inc zc 2 h) hj) hLn) (Ew_larr hj) (by decide) hL) (cwV 0 hts gX5_shiftThrough_X4_isFull rfl rfl rfl (by decide +kernel) ⟨Nat.le_of_ble_eq_true rfl, Nat.le_of_ble_eq_true rfl⟩) hK hw (Ew_lane (by assumption)) rfl rfl hl.1 rfl (by simp [Value.category, va_rf]) dX5_shiftThrough_47 ⟨Nat.le_of_ble_eq_true rfl, Nat.le_of_ble_eq_true rfl⟩) hS (fun H locs hw hS => ?_)
          by_cases hq : ln zc j = 30
          · refine f_top (y := 1) (if_neg (by omega)) ?_
            refine lv_if_ne (tgt := 60) hx hb dX5_shiftThrough_50 (by decide) (fun c50 => ?_) (fun c50 => absurd c50 (by decide))
            refine f_iload hx hb dX5_shiftThrough_60 hl rfl ?_
            exact q_isp hx hb hr hlk hK hw hS dX5_shiftThrough_62 (hsp.symm.trans (by rw [sl, hGt]; exact (Eq.trans (if_neg (notm1 hG (by omega))) (Eq.trans (if_pos c40) (if_pos hq)))))
          · refine f_top (y := 0) (if_pos (by omega)) ?_
            refine lv_if_ne (tgt := 60) hx hb dX5_shiftThrough_50 (by decide) (fun c50 => absurd (by decide) c50) (fun c50 => ?_)
            refine f_aload_n hx hb dX5_shiftThrough_53 hl 2 rfl rfl ?_
            refine e_get (C := RX4) (T := TX4) (N := 2) hx hb hts i4 hown hK hw (Ew_lane (by assumption)) rfl 1 (by decide) (hts (.fieldLink RX5 98 "FerryQuay$Row" "size" "I") (by decide +kernel)) rfl dX5_shiftThrough_54 ?_
            refine f_top (y := nI (ln zc i)) hMn ?_
            by_cases he : ln zc i = 0
            · refine lv_if_ne (tgt := 63) hx hb dX5_shiftThrough_57 (by decide) (fun c57 => absurd (by rw [he]; rfl) c57) (fun c57 => ?_)
              refine f_iload hx hb dX5_shiftThrough_60 hl rfl ?_
              exact q_isp hx hb hr hlk hK hw hS dX5_shiftThrough_62 (hsp.symm.trans (by rw [sl, hGt]; exact (Eq.trans (if_neg (notm1 hG (by omega))) (Eq.trans (if_pos c40) (Eq.trans (if_neg hq) (if_pos he))))))
            · refine lv_if_ne (tgt := 63) hx hb dX5_shiftThrough_57 (by decide) (fun c57 => ?_) (fun c57 => absurd c57 (nI_ne0 (by omega) (by omega)))
              refine f_aload_n hx hb dX5_shiftThrough_63 hl 3 rfl rfl ?_
              refine e_get (C := RX0) (T := TX0) (N := 4) hx hb hts i0 hown hK hw (Ew_berth (by assumption)) rfl 0 (by decide) (hts (.fieldLink RX5 82 "FerryQuay$Berth" "lane" "LFerryQuay$Row;") (by decide +kernel)) rfl dX5_shiftThrough_64 ?_
              refine f_aload_n hx hb dX5_shiftThrough_67 hl 2 rfl rfl ?_
              refine lv_iconst (v := 0) hx hb dX5_shiftThrough_68 (by decide) ?_
              refine f_top (y := nI 0) rfl ?_
              refine q_ci (q_runV (C := RX4) (T := TX4) (N := 2) ⟨hx, hb, hml, hown, hts⟩ (c_X4_weightAt l (he_size (Ew_lane (s := inc zc 2 h) hi) hMn) (Ew_larr hi) (by decide) (nI 0)) (cwV 1 hts gX5_shiftThrough_X4_weightAt rfl rfl rfl (by decide +kernel) ⟨Nat.le_of_ble_eq_true rfl, Nat.le_of_ble_eq_true rfl⟩) hK hw (Ew_lane (by assumption)) rfl rfl hl.1 rfl (by simp [Value.category, va_rf]) dX5_shiftThrough_69 ⟨Nat.le_of_ble_eq_true rfl, Nat.le_of_ble_eq_true rfl⟩) hS (fun H locs hw hS => ?_)
              refine f_top (y := zc 11 i 0) (wAt_in (by omega) hM (by decide)) ?_
              refine q_cv (q_runV (C := RX4) (T := TX4) (N := 2) ⟨hx, hb, hml, hown, hts⟩ (c_X4_addLast l (he_size (Ew_lane (s := inc zc 2 h) hj) hLn) (Ew_larr hj) (by decide) (zc 11 i 0) (by omega)) (cwV 1 hts gX5_shiftThrough_X4_addLast rfl rfl rfl (by decide +kernel) ⟨Nat.le_of_ble_eq_true rfl, Nat.le_of_ble_eq_true rfl⟩) hK hw (Ew_lane (by assumption)) rfl rfl hl.1 rfl (by simp [Value.category, va_rf]) dX5_shiftThrough_72 ⟨Nat.le_of_ble_eq_true rfl, Nat.le_of_ble_eq_true rfl⟩) hS (fun H locs hw hS => ?_)
              have hw := hw.cast (Ep_comes hj rfl)
              refine f_aload_n hx hb dX5_shiftThrough_75 hl 2 rfl rfl ?_
              refine q_cv (q_runV (C := RX4) (T := TX4) (N := 2) ⟨hx, hb, hml, hown, hts⟩ (c_X4_removeFirst l (he_size (Ew_lane (s := comes (inc zc 2 h) j (zc 11 i 0)) hi) ((sc_i hij).trans hMn)) (Ew_larr hi) (by decide) (by omega) hM) (cwV 0 hts gX5_shiftThrough_X4_removeFirst rfl rfl rfl (by decide +kernel) ⟨Nat.le_of_ble_eq_true rfl, Nat.le_of_ble_eq_true rfl⟩) hK hw (Ew_lane (by assumption)) rfl rfl hl.1 rfl (by simp [Value.category, va_rf]) dX5_shiftThrough_76 ⟨Nat.le_of_ble_eq_true rfl, Nat.le_of_ble_eq_true rfl⟩) hS (fun H locs hw hS => ?_)
              have hw := hw.cast (Ep_goes hi (show tn (sc (comes (inc zc 2 h) j (zc 11 i 0)) 10 i) = _ from congrArg tn (sc_i hij)))
              rw [goes_comes hij] at hw
              have lj : ln (goes (inc zc 2 h) i) j = ln zc j := congrArg tn (show sc (us (inc zc 2 h) 10 i (nI (ln (inc zc 2 h) i - 1))) 10 j = _ from sc_i (fun q => hij q.symm))
              refine f_aload_n hx hb dX5_shiftThrough_79 hl 1 rfl rfl ?_
              refine lv_dup hx hb dX5_shiftThrough_80 rfl ?_
              refine e_get (C := RX2) (T := TX2) (N := 4) hx hb hts i2 hown hK hw (Ew_gate (by assumption)) rfl 3 (by decide) (hts (.fieldLink RX5 138 "FerryQuay$Gate" "passed" "I") (by decide +kernel)) rfl dX5_shiftThrough_81 ?_
              refine lv_iconst (v := 1) hx hb dX5_shiftThrough_84 (by decide) ?_
              refine lv_iadd hx hb dX5_shiftThrough_85 ?_
              refine e_put (C := RX2) (T := TX2) (N := 4) (ty := .int) hx hb hts i2 tyX2 tyX2_ok nmX2 hown hK hw hS (Ew_gate (by assumption)) rfl 3 (by decide) (hts (.fieldLink RX5 138 "FerryQuay$Gate" "passed" "I") (by decide +kernel)) rfl (by decide +kernel) rfl rfl (Nat.le_of_ble_eq_true rfl) dX5_shiftThrough_86 (fun H locs hw hS => ?_)
              have hw := hw.cast (Ep_gate3 (by assumption))
              refine f_aload hx hb dX5_shiftThrough_89 hl rfl ?_
              refine lv_dup hx hb dX5_shiftThrough_91 rfl ?_
              refine e_get (C := RX2) (T := TX2) (N := 4) hx hb hts i2 hown hK hw (Ew_gate (by assumption)) rfl 3 (by decide) (hts (.fieldLink RX5 138 "FerryQuay$Gate" "passed" "I") (by decide +kernel)) rfl dX5_shiftThrough_92 ?_
              refine lv_iconst (v := 1) hx hb dX5_shiftThrough_95 (by decide) ?_
              refine lv_iadd hx hb dX5_shiftThrough_96 ?_
              refine e_put (C := RX2) (T := TX2) (N := 4) (ty := .int) hx hb hts i2 tyX2 tyX2_ok nmX2 hown hK hw hS (Ew_gate (by assumption)) rfl 3 (by decide) (hts (.fieldLink RX5 138 "FerryQuay$Gate" "passed" "I") (by decide +kernel)) rfl (by decide +kernel) rfl rfl (Nat.le_of_ble_eq_true rfl) dX5_shiftThrough_97 (fun H locs hw hS => ?_)
              have hw := hw.cast (Ep_gate3 (by assumption))
              refine f_iinc (d := 1) hx hb dX5_shiftThrough_100 hl rfl (by decide) (by decide) (fun ls hl => ?_)
              refine lv_goto (tgt := 9) hx hb dX5_shiftThrough_103 (by decide) ?_
              exact ih (w + 1) (k + 1) _ _ _ _ ((((((hI.p2 hh).gs hi).cm hj (by show ln (goes (inc zc 2 h) i) j < 30; rw [lj]; omega)).p3 hg).p3 hh)) (by rw [hwk]; exact nI_1 k) (by omega) hG (Eq.trans (Eq.symm (by rw [sl, hGt]; exact (Eq.trans (if_neg (notm1 hG (by omega))) (Eq.trans (if_pos c40) (Eq.trans (if_neg hq) (if_neg he)))))) hsp) hw hS (hl.list [(0, .ref (ad 0 0)), (1, .ref (ad 1 g)), (2, .ref (ad 4 i)), (3, .ref (ad 3 j)), (4, .int (nI N)), (5, .ref (ad 1 h)), (6, .int (w + 1))] (List.forall_mem_cons.mpr ⟨rfl, List.forall_mem_cons.mpr ⟨rfl, List.forall_mem_cons.mpr ⟨rfl, List.forall_mem_cons.mpr ⟨rfl, List.forall_mem_cons.mpr ⟨rfl, List.forall_mem_cons.mpr ⟨rfl, List.forall_mem_cons.mpr ⟨rfl, fun _ h => absurd h List.not_mem_nil⟩⟩⟩⟩⟩⟩⟩))
    exact loop N 0 0 z _ _ _ hI rfl (by omega) hG rfl hw hS (hl.list [(0, .ref (ad 0 0)), (1, .ref (ad 1 g)), (2, .ref (ad 4 i)), (3, .ref (ad 3 j)), (4, .int (nI N)), (5, .ref (ad 1 h)), (6, .int 0)] (List.forall_mem_cons.mpr ⟨rfl, List.forall_mem_cons.mpr ⟨rfl, List.forall_mem_cons.mpr ⟨rfl, List.forall_mem_cons.mpr ⟨rfl, List.forall_mem_cons.mpr ⟨rfl, List.forall_mem_cons.mpr ⟨rfl, List.forall_mem_cons.mpr ⟨rfl, fun _ h => absurd h List.not_mem_nil⟩⟩⟩⟩⟩⟩⟩))
set_option maxHeartbeats 4000000 in
set_option maxRecDepth 100000 in
theorem c_X5_shift (l : Launch) {G : va_G} {Y : YT} {lo : Nat} {ad : Nat → Nat → Nat} {ng nr nb : Nat} {z u : St} (hI : Inv z ng nr nb) (x y n : Int32) : Met l yX5_shift wsX5_shift ({ frames := 3, cells := 0, slots := 0, locals := 76 }) (va_Pc [.ref (ad 0 0), .int x, .int y, .int n] (cS G (tysY Y) lo (Ew Y ng nr nb z u ad) ad)) (QI G (tysY Y) lo (sp_shift nb z x y n).1 (Ew Y ng nr nb (sp_shift nb z x y n).2 u ad) ad) 0 0 (fun q => lo ≤ q) := by
  refine met_of (cc := cX5_shift) (maxL := 7) (ret := (some .int)) (by decide) rfl (Nat.le_of_ble_eq_true rfl) rfl ?_
  intro p e s m below meth c ls hx hb hr hlk hml hts hown hnm hw hK hl hS
  have i0 : ∀ w ∈ wsX00, w ∈ wsX5_shift := by decide +kernel
  have i2 : ∀ w ∈ wsX20, w ∈ wsX5_shift := by decide +kernel
  have i5 : ∀ w ∈ wsX50, w ∈ wsX5_shift := by decide +kernel
  have hng := hI.mg
  have hnr := hI.mr
  have hnb := hI.mb
  rcases ix_cases x hI.nb2 with ⟨hix, hbad⟩ | ⟨i, hi, rfl, hix⟩
  · rcases ix_cases y hI.nb2 with ⟨hiy, hbad2⟩ | ⟨j, hj, rfl, hiy⟩
    · refine f_aload_n hx hb dX5_shift_0 hl 0 rfl rfl ?_
      refine f_iload_n hx hb dX5_shift_1 hl 1 rfl rfl ?_
      refine q_cq (q_runV (C := RX5) (T := TX5) (N := 10) ⟨hx, hb, hml, hown, hts⟩ (c_X5_berthAt l hI x) (cwV 1 hts gX5_shift_X5_berthAt rfl rfl rfl (by decide +kernel) ⟨Nat.le_of_ble_eq_true rfl, Nat.le_of_ble_eq_true rfl⟩) hK hw Ew_fq rfl rfl hl.1 rfl (by simp [Value.category, va_rf]) dX5_shift_2 ⟨Nat.le_of_ble_eq_true rfl, Nat.le_of_ble_eq_true rfl⟩) hS (fun H locs hw hS => ?_)
      refine f_val (y := .null) (by rw [hix]; rfl) ?_
      refine f_astoreN hx hb dX5_shift_5 hl (by decide) (fun ls hl => ?_)
      refine f_aload_n hx hb dX5_shift_7 hl 0 rfl rfl ?_
      refine f_iload_n hx hb dX5_shift_8 hl 2 rfl rfl ?_
      refine q_cq (q_runV (C := RX5) (T := TX5) (N := 10) ⟨hx, hb, hml, hown, hts⟩ (c_X5_berthAt l hI y) (cwV 1 hts gX5_shift_X5_berthAt rfl rfl rfl (by decide +kernel) ⟨Nat.le_of_ble_eq_true rfl, Nat.le_of_ble_eq_true rfl⟩) hK hw Ew_fq rfl rfl hl.1 rfl (by simp [Value.category, va_rf]) dX5_shift_9 ⟨Nat.le_of_ble_eq_true rfl, Nat.le_of_ble_eq_true rfl⟩) hS (fun H locs hw hS => ?_)
      refine f_val (y := .null) (by rw [hiy]; rfl) ?_
      refine f_astoreN hx hb dX5_shift_12 hl (by decide) (fun ls hl => ?_)
      refine f_aloadN hx hb dX5_shift_14 hl rfl ?_
      refine lv_ifnullN (tgt := 39) hx hb dX5_shift_16 (by decide) ?_
      refine lv_bipush (v := (-2)) hx hb dX5_shift_39 (by decide) ?_
      exact q_isp hx hb hr hlk hK hw hS dX5_shift_41 (by rw [sp_shift, hix]; rfl)
    · refine f_aload_n hx hb dX5_shift_0 hl 0 rfl rfl ?_
      refine f_iload_n hx hb dX5_shift_1 hl 1 rfl rfl ?_
      refine q_cq (q_runV (C := RX5) (T := TX5) (N := 10) ⟨hx, hb, hml, hown, hts⟩ (c_X5_berthAt l hI x) (cwV 1 hts gX5_shift_X5_berthAt rfl rfl rfl (by decide +kernel) ⟨Nat.le_of_ble_eq_true rfl, Nat.le_of_ble_eq_true rfl⟩) hK hw Ew_fq rfl rfl hl.1 rfl (by simp [Value.category, va_rf]) dX5_shift_2 ⟨Nat.le_of_ble_eq_true rfl, Nat.le_of_ble_eq_true rfl⟩) hS (fun H locs hw hS => ?_)
      refine f_val (y := .null) (by rw [hix]; rfl) ?_
      refine f_astoreN hx hb dX5_shift_5 hl (by decide) (fun ls hl => ?_)
      refine f_aload_n hx hb dX5_shift_7 hl 0 rfl rfl ?_
      refine f_iload_n hx hb dX5_shift_8 hl 2 rfl rfl ?_
      refine q_cq (q_runV (C := RX5) (T := TX5) (N := 10) ⟨hx, hb, hml, hown, hts⟩ (c_X5_berthAt l hI (nI j)) (cwV 1 hts gX5_shift_X5_berthAt rfl rfl rfl (by decide +kernel) ⟨Nat.le_of_ble_eq_true rfl, Nat.le_of_ble_eq_true rfl⟩) hK hw Ew_fq rfl rfl hl.1 rfl (by simp [Value.category, va_rf]) dX5_shift_9 ⟨Nat.le_of_ble_eq_true rfl, Nat.le_of_ble_eq_true rfl⟩) hS (fun H locs hw hS => ?_)
      refine f_val (y := .ref (ad 3 j)) (by rw [hiy]; rfl) ?_
      refine f_astore hx hb dX5_shift_12 hl (by decide) (fun ls hl => ?_)
      refine f_aloadN hx hb dX5_shift_14 hl rfl ?_
      refine lv_ifnullN (tgt := 39) hx hb dX5_shift_16 (by decide) ?_
      refine lv_bipush (v := (-2)) hx hb dX5_shift_39 (by decide) ?_
      exact q_isp hx hb hr hlk hK hw hS dX5_shift_41 (by rw [sp_shift, hix]; rfl)
  · rcases ix_cases y hI.nb2 with ⟨hiy, hbad2⟩ | ⟨j, hj, rfl, hiy⟩
    · refine f_aload_n hx hb dX5_shift_0 hl 0 rfl rfl ?_
      refine f_iload_n hx hb dX5_shift_1 hl 1 rfl rfl ?_
      refine q_cq (q_runV (C := RX5) (T := TX5) (N := 10) ⟨hx, hb, hml, hown, hts⟩ (c_X5_berthAt l hI (nI i)) (cwV 1 hts gX5_shift_X5_berthAt rfl rfl rfl (by decide +kernel) ⟨Nat.le_of_ble_eq_true rfl, Nat.le_of_ble_eq_true rfl⟩) hK hw Ew_fq rfl rfl hl.1 rfl (by simp [Value.category, va_rf]) dX5_shift_2 ⟨Nat.le_of_ble_eq_true rfl, Nat.le_of_ble_eq_true rfl⟩) hS (fun H locs hw hS => ?_)
      refine f_val (y := .ref (ad 3 i)) (by rw [hix]; rfl) ?_
      refine f_astore hx hb dX5_shift_5 hl (by decide) (fun ls hl => ?_)
      refine f_aload_n hx hb dX5_shift_7 hl 0 rfl rfl ?_
      refine f_iload_n hx hb dX5_shift_8 hl 2 rfl rfl ?_
      refine q_cq (q_runV (C := RX5) (T := TX5) (N := 10) ⟨hx, hb, hml, hown, hts⟩ (c_X5_berthAt l hI y) (cwV 1 hts gX5_shift_X5_berthAt rfl rfl rfl (by decide +kernel) ⟨Nat.le_of_ble_eq_true rfl, Nat.le_of_ble_eq_true rfl⟩) hK hw Ew_fq rfl rfl hl.1 rfl (by simp [Value.category, va_rf]) dX5_shift_9 ⟨Nat.le_of_ble_eq_true rfl, Nat.le_of_ble_eq_true rfl⟩) hS (fun H locs hw hS => ?_)
      refine f_val (y := .null) (by rw [hiy]; rfl) ?_
      refine f_astoreN hx hb dX5_shift_12 hl (by decide) (fun ls hl => ?_)
      refine f_aload hx hb dX5_shift_14 hl rfl ?_
      refine lv_ifnull hx hb dX5_shift_16 ?_
      refine f_aloadN hx hb dX5_shift_19 hl rfl ?_
      refine lv_ifnullN (tgt := 39) hx hb dX5_shift_21 (by decide) ?_
      refine lv_bipush (v := (-2)) hx hb dX5_shift_39 (by decide) ?_
      exact q_isp hx hb hr hlk hK hw hS dX5_shift_41 (by rw [sp_shift, hix, hiy]; rfl)
    · by_cases hij : i = j
      · refine f_aload_n hx hb dX5_shift_0 hl 0 rfl rfl ?_
        refine f_iload_n hx hb dX5_shift_1 hl 1 rfl rfl ?_
        refine q_cq (q_runV (C := RX5) (T := TX5) (N := 10) ⟨hx, hb, hml, hown, hts⟩ (c_X5_berthAt l hI (nI i)) (cwV 1 hts gX5_shift_X5_berthAt rfl rfl rfl (by decide +kernel) ⟨Nat.le_of_ble_eq_true rfl, Nat.le_of_ble_eq_true rfl⟩) hK hw Ew_fq rfl rfl hl.1 rfl (by simp [Value.category, va_rf]) dX5_shift_2 ⟨Nat.le_of_ble_eq_true rfl, Nat.le_of_ble_eq_true rfl⟩) hS (fun H locs hw hS => ?_)
        refine f_val (y := .ref (ad 3 i)) (by rw [hix]; rfl) ?_
        refine f_astore hx hb dX5_shift_5 hl (by decide) (fun ls hl => ?_)
        refine f_aload_n hx hb dX5_shift_7 hl 0 rfl rfl ?_
        refine f_iload_n hx hb dX5_shift_8 hl 2 rfl rfl ?_
        refine q_cq (q_runV (C := RX5) (T := TX5) (N := 10) ⟨hx, hb, hml, hown, hts⟩ (c_X5_berthAt l hI (nI j)) (cwV 1 hts gX5_shift_X5_berthAt rfl rfl rfl (by decide +kernel) ⟨Nat.le_of_ble_eq_true rfl, Nat.le_of_ble_eq_true rfl⟩) hK hw Ew_fq rfl rfl hl.1 rfl (by simp [Value.category, va_rf]) dX5_shift_9 ⟨Nat.le_of_ble_eq_true rfl, Nat.le_of_ble_eq_true rfl⟩) hS (fun H locs hw hS => ?_)
        refine f_val (y := .ref (ad 3 j)) (by rw [hiy]; rfl) ?_
        refine f_astore hx hb dX5_shift_12 hl (by decide) (fun ls hl => ?_)
        refine f_aload hx hb dX5_shift_14 hl rfl ?_
        refine lv_ifnull hx hb dX5_shift_16 ?_
        refine f_aload hx hb dX5_shift_19 hl rfl ?_
        refine lv_ifnull hx hb dX5_shift_21 ?_
        refine f_iload_n hx hb dX5_shift_24 hl 1 rfl rfl ?_
        refine f_iload_n hx hb dX5_shift_25 hl 2 rfl rfl ?_
        refine lv_icmp_eq (tgt := 39) hx hb dX5_shift_26 (by decide) (fun c26 => ?_) (fun c26 => absurd (by rw [hij]) c26)
        refine lv_bipush (v := (-2)) hx hb dX5_shift_39 (by decide) ?_
        exact q_isp hx hb hr hlk hK hw hS dX5_shift_41 (by rw [sp_shift, hix, hiy]; dsimp only [Option.elim]; exact (if_pos hij))
      · by_cases h1 : n < 1
        · refine f_aload_n hx hb dX5_shift_0 hl 0 rfl rfl ?_
          refine f_iload_n hx hb dX5_shift_1 hl 1 rfl rfl ?_
          refine q_cq (q_runV (C := RX5) (T := TX5) (N := 10) ⟨hx, hb, hml, hown, hts⟩ (c_X5_berthAt l hI (nI i)) (cwV 1 hts gX5_shift_X5_berthAt rfl rfl rfl (by decide +kernel) ⟨Nat.le_of_ble_eq_true rfl, Nat.le_of_ble_eq_true rfl⟩) hK hw Ew_fq rfl rfl hl.1 rfl (by simp [Value.category, va_rf]) dX5_shift_2 ⟨Nat.le_of_ble_eq_true rfl, Nat.le_of_ble_eq_true rfl⟩) hS (fun H locs hw hS => ?_)
          refine f_val (y := .ref (ad 3 i)) (by rw [hix]; rfl) ?_
          refine f_astore hx hb dX5_shift_5 hl (by decide) (fun ls hl => ?_)
          refine f_aload_n hx hb dX5_shift_7 hl 0 rfl rfl ?_
          refine f_iload_n hx hb dX5_shift_8 hl 2 rfl rfl ?_
          refine q_cq (q_runV (C := RX5) (T := TX5) (N := 10) ⟨hx, hb, hml, hown, hts⟩ (c_X5_berthAt l hI (nI j)) (cwV 1 hts gX5_shift_X5_berthAt rfl rfl rfl (by decide +kernel) ⟨Nat.le_of_ble_eq_true rfl, Nat.le_of_ble_eq_true rfl⟩) hK hw Ew_fq rfl rfl hl.1 rfl (by simp [Value.category, va_rf]) dX5_shift_9 ⟨Nat.le_of_ble_eq_true rfl, Nat.le_of_ble_eq_true rfl⟩) hS (fun H locs hw hS => ?_)
          refine f_val (y := .ref (ad 3 j)) (by rw [hiy]; rfl) ?_
          refine f_astore hx hb dX5_shift_12 hl (by decide) (fun ls hl => ?_)
          refine f_aload hx hb dX5_shift_14 hl rfl ?_
          refine lv_ifnull hx hb dX5_shift_16 ?_
          refine f_aload hx hb dX5_shift_19 hl rfl ?_
          refine lv_ifnull hx hb dX5_shift_21 ?_
          refine f_iload_n hx hb dX5_shift_24 hl 1 rfl rfl ?_
          refine f_iload_n hx hb dX5_shift_25 hl 2 rfl rfl ?_
          refine lv_icmp_eq (tgt := 39) hx hb dX5_shift_26 (by decide) (fun c26 => absurd c26 (fun q => hij ((nI_eq (by omega) (by omega)).mp q))) (fun c26 => ?_)
          refine f_iload_n hx hb dX5_shift_29 hl 3 rfl rfl ?_
          refine lv_iconst (v := 1) hx hb dX5_shift_30 (by decide) ?_
          refine lv_bipush (v := 30) hx hb dX5_shift_31 (by decide) ?_
          refine q_ci (q_runS ⟨hx, hb, hml, hown, hts⟩ (c_X5_isWithin l n 1 30) (va_cwS 3 hts gX5_shift_X5_isWithin rfl rfl rfl (by decide +kernel) ⟨Nat.le_of_ble_eq_true rfl, Nat.le_of_ble_eq_true rfl⟩) hK hw rfl hl.1 rfl (by simp [Value.category, va_rf]) dX5_shift_33 ⟨Nat.le_of_ble_eq_true rfl, Nat.le_of_ble_eq_true rfl⟩) hS (fun H locs hw hS => ?_)
          refine f_top (y := 0) (if_pos h1) ?_
          refine lv_if_ne (tgt := 42) hx hb dX5_shift_36 (by decide) (fun c36 => absurd (by decide) c36) (fun c36 => ?_)
          refine lv_bipush (v := (-2)) hx hb dX5_shift_39 (by decide) ?_
          exact q_isp hx hb hr hlk hK hw hS dX5_shift_41 (by rw [sp_shift, hix, hiy]; dsimp only [Option.elim]; exact (Eq.trans (if_neg hij) (if_pos h1)))
        · by_cases h2 : 30 < n
          · refine f_aload_n hx hb dX5_shift_0 hl 0 rfl rfl ?_
            refine f_iload_n hx hb dX5_shift_1 hl 1 rfl rfl ?_
            refine q_cq (q_runV (C := RX5) (T := TX5) (N := 10) ⟨hx, hb, hml, hown, hts⟩ (c_X5_berthAt l hI (nI i)) (cwV 1 hts gX5_shift_X5_berthAt rfl rfl rfl (by decide +kernel) ⟨Nat.le_of_ble_eq_true rfl, Nat.le_of_ble_eq_true rfl⟩) hK hw Ew_fq rfl rfl hl.1 rfl (by simp [Value.category, va_rf]) dX5_shift_2 ⟨Nat.le_of_ble_eq_true rfl, Nat.le_of_ble_eq_true rfl⟩) hS (fun H locs hw hS => ?_)
            refine f_val (y := .ref (ad 3 i)) (by rw [hix]; rfl) ?_
            refine f_astore hx hb dX5_shift_5 hl (by decide) (fun ls hl => ?_)
            refine f_aload_n hx hb dX5_shift_7 hl 0 rfl rfl ?_
            refine f_iload_n hx hb dX5_shift_8 hl 2 rfl rfl ?_
            refine q_cq (q_runV (C := RX5) (T := TX5) (N := 10) ⟨hx, hb, hml, hown, hts⟩ (c_X5_berthAt l hI (nI j)) (cwV 1 hts gX5_shift_X5_berthAt rfl rfl rfl (by decide +kernel) ⟨Nat.le_of_ble_eq_true rfl, Nat.le_of_ble_eq_true rfl⟩) hK hw Ew_fq rfl rfl hl.1 rfl (by simp [Value.category, va_rf]) dX5_shift_9 ⟨Nat.le_of_ble_eq_true rfl, Nat.le_of_ble_eq_true rfl⟩) hS (fun H locs hw hS => ?_)
            refine f_val (y := .ref (ad 3 j)) (by rw [hiy]; rfl) ?_
            refine f_astore hx hb dX5_shift_12 hl (by decide) (fun ls hl => ?_)
            refine f_aload hx hb dX5_shift_14 hl rfl ?_
            refine lv_ifnull hx hb dX5_shift_16 ?_
            refine f_aload hx hb dX5_shift_19 hl rfl ?_
            refine lv_ifnull hx hb dX5_shift_21 ?_
            refine f_iload_n hx hb dX5_shift_24 hl 1 rfl rfl ?_
            refine f_iload_n hx hb dX5_shift_25 hl 2 rfl rfl ?_
            refine lv_icmp_eq (tgt := 39) hx hb dX5_shift_26 (by decide) (fun c26 => absurd c26 (fun q => hij ((nI_eq (by omega) (by omega)).mp q))) (fun c26 => ?_)
            refine f_iload_n hx hb dX5_shift_29 hl 3 rfl rfl ?_
            refine lv_iconst (v := 1) hx hb dX5_shift_30 (by decide) ?_
            refine lv_bipush (v := 30) hx hb dX5_shift_31 (by decide) ?_
            refine q_ci (q_runS ⟨hx, hb, hml, hown, hts⟩ (c_X5_isWithin l n 1 30) (va_cwS 3 hts gX5_shift_X5_isWithin rfl rfl rfl (by decide +kernel) ⟨Nat.le_of_ble_eq_true rfl, Nat.le_of_ble_eq_true rfl⟩) hK hw rfl hl.1 rfl (by simp [Value.category, va_rf]) dX5_shift_33 ⟨Nat.le_of_ble_eq_true rfl, Nat.le_of_ble_eq_true rfl⟩) hS (fun H locs hw hS => ?_)
            refine f_top (y := 0) (Eq.trans (if_neg h1) (if_pos h2)) ?_
            refine lv_if_ne (tgt := 42) hx hb dX5_shift_36 (by decide) (fun c36 => absurd (by decide) c36) (fun c36 => ?_)
            refine lv_bipush (v := (-2)) hx hb dX5_shift_39 (by decide) ?_
            exact q_isp hx hb hr hlk hK hw hS dX5_shift_41 (by rw [sp_shift, hix, hiy]; dsimp only [Option.elim]; exact (Eq.trans (if_neg hij) (Eq.trans (if_neg h1) (if_pos h2))))
          · obtain ⟨N, hN, rfl⟩ := rng_of (M := 30) (m := 30) (by decide) h1 h2
            rcases hI.gate hi with hG | ⟨g, hg, hG, hGt⟩
            · refine f_aload_n hx hb dX5_shift_0 hl 0 rfl rfl ?_
              refine f_iload_n hx hb dX5_shift_1 hl 1 rfl rfl ?_
              refine q_cq (q_runV (C := RX5) (T := TX5) (N := 10) ⟨hx, hb, hml, hown, hts⟩ (c_X5_berthAt l hI (nI i)) (cwV 1 hts gX5_shift_X5_berthAt rfl rfl rfl (by decide +kernel) ⟨Nat.le_of_ble_eq_true rfl, Nat.le_of_ble_eq_true rfl⟩) hK hw Ew_fq rfl rfl hl.1 rfl (by simp [Value.category, va_rf]) dX5_shift_2 ⟨Nat.le_of_ble_eq_true rfl, Nat.le_of_ble_eq_true rfl⟩) hS (fun H locs hw hS => ?_)
              refine f_val (y := .ref (ad 3 i)) (by rw [hix]; rfl) ?_
              refine f_astore hx hb dX5_shift_5 hl (by decide) (fun ls hl => ?_)
              refine f_aload_n hx hb dX5_shift_7 hl 0 rfl rfl ?_
              refine f_iload_n hx hb dX5_shift_8 hl 2 rfl rfl ?_
              refine q_cq (q_runV (C := RX5) (T := TX5) (N := 10) ⟨hx, hb, hml, hown, hts⟩ (c_X5_berthAt l hI (nI j)) (cwV 1 hts gX5_shift_X5_berthAt rfl rfl rfl (by decide +kernel) ⟨Nat.le_of_ble_eq_true rfl, Nat.le_of_ble_eq_true rfl⟩) hK hw Ew_fq rfl rfl hl.1 rfl (by simp [Value.category, va_rf]) dX5_shift_9 ⟨Nat.le_of_ble_eq_true rfl, Nat.le_of_ble_eq_true rfl⟩) hS (fun H locs hw hS => ?_)
              refine f_val (y := .ref (ad 3 j)) (by rw [hiy]; rfl) ?_
              refine f_astore hx hb dX5_shift_12 hl (by decide) (fun ls hl => ?_)
              refine f_aload hx hb dX5_shift_14 hl rfl ?_
              refine lv_ifnull hx hb dX5_shift_16 ?_
              refine f_aload hx hb dX5_shift_19 hl rfl ?_
              refine lv_ifnull hx hb dX5_shift_21 ?_
              refine f_iload_n hx hb dX5_shift_24 hl 1 rfl rfl ?_
              refine f_iload_n hx hb dX5_shift_25 hl 2 rfl rfl ?_
              refine lv_icmp_eq (tgt := 39) hx hb dX5_shift_26 (by decide) (fun c26 => absurd c26 (fun q => hij ((nI_eq (by omega) (by omega)).mp q))) (fun c26 => ?_)
              refine f_iload_n hx hb dX5_shift_29 hl 3 rfl rfl ?_
              refine lv_iconst (v := 1) hx hb dX5_shift_30 (by decide) ?_
              refine lv_bipush (v := 30) hx hb dX5_shift_31 (by decide) ?_
              refine q_ci (q_runS ⟨hx, hb, hml, hown, hts⟩ (c_X5_isWithin l (nI N) 1 30) (va_cwS 3 hts gX5_shift_X5_isWithin rfl rfl rfl (by decide +kernel) ⟨Nat.le_of_ble_eq_true rfl, Nat.le_of_ble_eq_true rfl⟩) hK hw rfl hl.1 rfl (by simp [Value.category, va_rf]) dX5_shift_33 ⟨Nat.le_of_ble_eq_true rfl, Nat.le_of_ble_eq_true rfl⟩) hS (fun H locs hw hS => ?_)
              refine f_top (y := 1) (Eq.trans (if_neg h1) (if_neg h2)) ?_
              refine lv_if_ne (tgt := 42) hx hb dX5_shift_36 (by decide) (fun c36 => ?_) (fun c36 => absurd c36 (by decide))
              refine f_aload hx hb dX5_shift_42 hl rfl ?_
              refine e_get (C := RX0) (T := TX0) (N := 4) hx hb hts i0 hown hK hw (Ew_berth (by assumption)) rfl 2 (by decide) (hts (.fieldLink RX5 60 "FerryQuay$Berth" "gate" "LFerryQuay$Gate;") (by decide +kernel)) rfl dX5_shift_44 ?_
              refine f_val (orefN hG) ?_
              refine f_astoreN hx hb dX5_shift_47 hl (by decide) (fun ls hl => ?_)
              refine f_aloadN hx hb dX5_shift_49 hl rfl ?_
              refine lv_ifnonnullN hx hb dX5_shift_51 ?_
              refine lv_bipush (v := (-4)) hx hb dX5_shift_54 (by decide) ?_
              exact q_isp hx hb hr hlk hK hw hS dX5_shift_56 (by rw [sp_shift, hix, hiy]; dsimp only [Option.elim]; exact (Eq.trans (if_neg hij) (Eq.trans (if_neg h1) (Eq.trans (if_neg h2) (if_pos hG)))))
            · refine f_aload_n hx hb dX5_shift_0 hl 0 rfl rfl ?_
              refine f_iload_n hx hb dX5_shift_1 hl 1 rfl rfl ?_
              refine q_cq (q_runV (C := RX5) (T := TX5) (N := 10) ⟨hx, hb, hml, hown, hts⟩ (c_X5_berthAt l hI (nI i)) (cwV 1 hts gX5_shift_X5_berthAt rfl rfl rfl (by decide +kernel) ⟨Nat.le_of_ble_eq_true rfl, Nat.le_of_ble_eq_true rfl⟩) hK hw Ew_fq rfl rfl hl.1 rfl (by simp [Value.category, va_rf]) dX5_shift_2 ⟨Nat.le_of_ble_eq_true rfl, Nat.le_of_ble_eq_true rfl⟩) hS (fun H locs hw hS => ?_)
              refine f_val (y := .ref (ad 3 i)) (by rw [hix]; rfl) ?_
              refine f_astore hx hb dX5_shift_5 hl (by decide) (fun ls hl => ?_)
              refine f_aload_n hx hb dX5_shift_7 hl 0 rfl rfl ?_
              refine f_iload_n hx hb dX5_shift_8 hl 2 rfl rfl ?_
              refine q_cq (q_runV (C := RX5) (T := TX5) (N := 10) ⟨hx, hb, hml, hown, hts⟩ (c_X5_berthAt l hI (nI j)) (cwV 1 hts gX5_shift_X5_berthAt rfl rfl rfl (by decide +kernel) ⟨Nat.le_of_ble_eq_true rfl, Nat.le_of_ble_eq_true rfl⟩) hK hw Ew_fq rfl rfl hl.1 rfl (by simp [Value.category, va_rf]) dX5_shift_9 ⟨Nat.le_of_ble_eq_true rfl, Nat.le_of_ble_eq_true rfl⟩) hS (fun H locs hw hS => ?_)
              refine f_val (y := .ref (ad 3 j)) (by rw [hiy]; rfl) ?_
              refine f_astore hx hb dX5_shift_12 hl (by decide) (fun ls hl => ?_)
              refine f_aload hx hb dX5_shift_14 hl rfl ?_
              refine lv_ifnull hx hb dX5_shift_16 ?_
              refine f_aload hx hb dX5_shift_19 hl rfl ?_
              refine lv_ifnull hx hb dX5_shift_21 ?_
              refine f_iload_n hx hb dX5_shift_24 hl 1 rfl rfl ?_
              refine f_iload_n hx hb dX5_shift_25 hl 2 rfl rfl ?_
              refine lv_icmp_eq (tgt := 39) hx hb dX5_shift_26 (by decide) (fun c26 => absurd c26 (fun q => hij ((nI_eq (by omega) (by omega)).mp q))) (fun c26 => ?_)
              refine f_iload_n hx hb dX5_shift_29 hl 3 rfl rfl ?_
              refine lv_iconst (v := 1) hx hb dX5_shift_30 (by decide) ?_
              refine lv_bipush (v := 30) hx hb dX5_shift_31 (by decide) ?_
              refine q_ci (q_runS ⟨hx, hb, hml, hown, hts⟩ (c_X5_isWithin l (nI N) 1 30) (va_cwS 3 hts gX5_shift_X5_isWithin rfl rfl rfl (by decide +kernel) ⟨Nat.le_of_ble_eq_true rfl, Nat.le_of_ble_eq_true rfl⟩) hK hw rfl hl.1 rfl (by simp [Value.category, va_rf]) dX5_shift_33 ⟨Nat.le_of_ble_eq_true rfl, Nat.le_of_ble_eq_true rfl⟩) hS (fun H locs hw hS => ?_)
              refine f_top (y := 1) (Eq.trans (if_neg h1) (if_neg h2)) ?_
              refine lv_if_ne (tgt := 42) hx hb dX5_shift_36 (by decide) (fun c36 => ?_) (fun c36 => absurd c36 (by decide))
              refine f_aload hx hb dX5_shift_42 hl rfl ?_
              refine e_get (C := RX0) (T := TX0) (N := 4) hx hb hts i0 hown hK hw (Ew_berth (by assumption)) rfl 2 (by decide) (hts (.fieldLink RX5 60 "FerryQuay$Berth" "gate" "LFerryQuay$Gate;") (by decide +kernel)) rfl dX5_shift_44 ?_
              refine f_val (orefR hG (by omega)) ?_
              refine f_astore hx hb dX5_shift_47 hl (by decide) (fun ls hl => ?_)
              refine f_aload hx hb dX5_shift_49 hl rfl ?_
              refine lv_ifnonnull (tgt := 57) hx hb dX5_shift_51 (by decide) ?_
              refine f_aload hx hb dX5_shift_57 hl rfl ?_
              refine lv_dup hx hb dX5_shift_59 rfl ?_
              refine e_get (C := RX2) (T := TX2) (N := 4) hx hb hts i2 hown hK hw (Ew_gate (by assumption)) rfl 2 (by decide) (hts (.fieldLink RX5 101 "FerryQuay$Gate" "taken" "I") (by decide +kernel)) rfl dX5_shift_60 ?_
              refine lv_iconst (v := 1) hx hb dX5_shift_63 (by decide) ?_
              refine lv_iadd hx hb dX5_shift_64 ?_
              refine e_put (C := RX2) (T := TX2) (N := 4) (ty := .int) hx hb hts i2 tyX2 tyX2_ok nmX2 hown hK hw hS (Ew_gate (by assumption)) rfl 2 (by decide) (hts (.fieldLink RX5 101 "FerryQuay$Gate" "taken" "I") (by decide +kernel)) rfl (by decide +kernel) rfl rfl (Nat.le_of_ble_eq_true rfl) dX5_shift_65 (fun H locs hw hS => ?_)
              have hw := hw.cast (Ep_gate2 (by assumption))
              refine f_aload hx hb dX5_shift_68 hl rfl ?_
              refine e_get (C := RX2) (T := TX2) (N := 4) hx hb hts i2 hown hK hw (Ew_gate (by assumption)) rfl 1 (by decide) (hts (.fieldLink RX5 78 "FerryQuay$Gate" "isShut" "Z") (by decide +kernel)) rfl dX5_shift_70 ?_
              refine lv_if_eq (tgt := 79) hx hb dX5_shift_73 (by decide) (fun c73 => ?_) (fun c73 => ?_)
              · refine f_aload_n hx hb dX5_shift_79 hl 0 rfl rfl ?_
                refine f_aload hx hb dX5_shift_80 hl rfl ?_
                refine f_aload hx hb dX5_shift_82 hl rfl ?_
                refine e_get (C := RX0) (T := TX0) (N := 4) hx hb hts i0 hown hK hw (Ew_berth (by assumption)) rfl 0 (by decide) (hts (.fieldLink RX5 82 "FerryQuay$Berth" "lane" "LFerryQuay$Row;") (by decide +kernel)) rfl dX5_shift_84 ?_
                refine f_aload hx hb dX5_shift_87 hl rfl ?_
                refine f_iload_n hx hb dX5_shift_89 hl 3 rfl rfl ?_
                refine q_ci (q_runV (C := RX5) (T := TX5) (N := 10) ⟨hx, hb, hml, hown, hts⟩ (c_X5_shiftThrough l (z := inc z 2 g) (hI.p2 hg) hi hj hij hg hN) (cwV 4 hts gX5_shift_X5_shiftThrough rfl rfl rfl (by decide +kernel) ⟨Nat.le_of_ble_eq_true rfl, Nat.le_of_ble_eq_true rfl⟩) hK hw Ew_fq rfl rfl hl.1 rfl (by simp [Value.category, va_rf]) dX5_shift_90 ⟨Nat.le_of_ble_eq_true rfl, Nat.le_of_ble_eq_true rfl⟩) hS (fun H locs hw hS => ?_)
                exact q_isp hx hb hr hlk hK hw hS dX5_shift_93 (by rw [sp_shift, hix, hiy]; dsimp only [Option.elim]; rw [hGt, show tn (nI N) = N from nI_clamp (by omega)]; exact (Eq.trans (if_neg hij) (Eq.trans (if_neg h1) (Eq.trans (if_neg h2) (Eq.trans (if_neg (notm1 hG (by omega))) (if_pos c73))))))
              · refine lv_bipush (v := (-5)) hx hb dX5_shift_76 (by decide) ?_
                exact q_isp hx hb hr hlk hK hw hS dX5_shift_78 (by rw [sp_shift, hix, hiy]; dsimp only [Option.elim]; rw [hGt, show tn (nI N) = N from nI_clamp (by omega)]; exact (Eq.trans (if_neg hij) (Eq.trans (if_neg h1) (Eq.trans (if_neg h2) (Eq.trans (if_neg (notm1 hG (by omega))) (if_neg c73))))))
set_option maxHeartbeats 4000000 in
set_option maxRecDepth 100000 in
theorem c_X5_swap (l : Launch) {G : va_G} {Y : YT} {lo : Nat} {ad : Nat → Nat → Nat} {ng nr nb : Nat} {z u : St} (hI : Inv z ng nr nb) (x y : Int32) : Met l yX5_swap wsX5_swap ({ frames := 1, cells := 0, slots := 0, locals := 21 }) (va_Pc [.ref (ad 0 0), .int x, .int y] (cS G (tysY Y) lo (Ew Y ng nr nb z u ad) ad)) (QI G (tysY Y) lo (sp_swap nb z x y).1 (Ew Y ng nr nb (sp_swap nb z x y).2 u ad) ad) 0 0 (fun q => lo ≤ q) := by
  refine met_of (cc := cX5_swap) (maxL := 8) (ret := (some .int)) (by decide) rfl (Nat.le_of_ble_eq_true rfl) rfl ?_
  intro p e s m below meth c ls hx hb hr hlk hml hts hown hnm hw hK hl hS
  have i0 : ∀ w ∈ wsX00, w ∈ wsX5_swap := by decide +kernel
  have i1 : ∀ w ∈ wsX10, w ∈ wsX5_swap := by decide +kernel
  have i2 : ∀ w ∈ wsX20, w ∈ wsX5_swap := by decide +kernel
  have i5 : ∀ w ∈ wsX50, w ∈ wsX5_swap := by decide +kernel
  have hng := hI.mg
  have hnr := hI.mr
  have hnb := hI.mb
  rcases ix_cases x hI.nb2 with ⟨hix, hbad⟩ | ⟨i, hi, rfl, hix⟩
  · rcases ix_cases y hI.nb2 with ⟨hiy, hbad2⟩ | ⟨j, hj, rfl, hiy⟩
    · refine f_aload_n hx hb dX5_swap_0 hl 0 rfl rfl ?_
      refine f_iload_n hx hb dX5_swap_1 hl 1 rfl rfl ?_
      refine q_cq (q_runV (C := RX5) (T := TX5) (N := 10) ⟨hx, hb, hml, hown, hts⟩ (c_X5_berthAt l hI x) (cwV 1 hts gX5_swap_X5_berthAt rfl rfl rfl (by decide +kernel) ⟨Nat.le_of_ble_eq_true rfl, Nat.le_of_ble_eq_true rfl⟩) hK hw Ew_fq rfl rfl hl.1 rfl (by simp [Value.category, va_rf]) dX5_swap_2 ⟨Nat.le_of_ble_eq_true rfl, Nat.le_of_ble_eq_true rfl⟩) hS (fun H locs hw hS => ?_)
      refine f_val (y := .null) (by rw [hix]; rfl) ?_
      refine f_astore_nN hx hb dX5_swap_5 hl 3 rfl (by decide) (fun ls hl => ?_)
      refine f_aload_n hx hb dX5_swap_6 hl 0 rfl rfl ?_
      refine f_iload_n hx hb dX5_swap_7 hl 2 rfl rfl ?_
      refine q_cq (q_runV (C := RX5) (T := TX5) (N := 10) ⟨hx, hb, hml, hown, hts⟩ (c_X5_berthAt l hI y) (cwV 1 hts gX5_swap_X5_berthAt rfl rfl rfl (by decide +kernel) ⟨Nat.le_of_ble_eq_true rfl, Nat.le_of_ble_eq_true rfl⟩) hK hw Ew_fq rfl rfl hl.1 rfl (by simp [Value.category, va_rf]) dX5_swap_8 ⟨Nat.le_of_ble_eq_true rfl, Nat.le_of_ble_eq_true rfl⟩) hS (fun H locs hw hS => ?_)
      refine f_val (y := .null) (by rw [hiy]; rfl) ?_
      refine f_astoreN hx hb dX5_swap_11 hl (by decide) (fun ls hl => ?_)
      refine f_aload_nN hx hb dX5_swap_13 hl 3 rfl rfl ?_
      refine lv_ifnullN (tgt := 22) hx hb dX5_swap_14 (by decide) ?_
      refine lv_bipush (v := (-2)) hx hb dX5_swap_22 (by decide) ?_
      exact q_isp hx hb hr hlk hK hw hS dX5_swap_24 (by rw [sp_swap, hix]; rfl)
    · refine f_aload_n hx hb dX5_swap_0 hl 0 rfl rfl ?_
      refine f_iload_n hx hb dX5_swap_1 hl 1 rfl rfl ?_
      refine q_cq (q_runV (C := RX5) (T := TX5) (N := 10) ⟨hx, hb, hml, hown, hts⟩ (c_X5_berthAt l hI x) (cwV 1 hts gX5_swap_X5_berthAt rfl rfl rfl (by decide +kernel) ⟨Nat.le_of_ble_eq_true rfl, Nat.le_of_ble_eq_true rfl⟩) hK hw Ew_fq rfl rfl hl.1 rfl (by simp [Value.category, va_rf]) dX5_swap_2 ⟨Nat.le_of_ble_eq_true rfl, Nat.le_of_ble_eq_true rfl⟩) hS (fun H locs hw hS => ?_)
      refine f_val (y := .null) (by rw [hix]; rfl) ?_
      refine f_astore_nN hx hb dX5_swap_5 hl 3 rfl (by decide) (fun ls hl => ?_)
      refine f_aload_n hx hb dX5_swap_6 hl 0 rfl rfl ?_
      refine f_iload_n hx hb dX5_swap_7 hl 2 rfl rfl ?_
      refine q_cq (q_runV (C := RX5) (T := TX5) (N := 10) ⟨hx, hb, hml, hown, hts⟩ (c_X5_berthAt l hI (nI j)) (cwV 1 hts gX5_swap_X5_berthAt rfl rfl rfl (by decide +kernel) ⟨Nat.le_of_ble_eq_true rfl, Nat.le_of_ble_eq_true rfl⟩) hK hw Ew_fq rfl rfl hl.1 rfl (by simp [Value.category, va_rf]) dX5_swap_8 ⟨Nat.le_of_ble_eq_true rfl, Nat.le_of_ble_eq_true rfl⟩) hS (fun H locs hw hS => ?_)
      refine f_val (y := .ref (ad 3 j)) (by rw [hiy]; rfl) ?_
      refine f_astore hx hb dX5_swap_11 hl (by decide) (fun ls hl => ?_)
      refine f_aload_nN hx hb dX5_swap_13 hl 3 rfl rfl ?_
      refine lv_ifnullN (tgt := 22) hx hb dX5_swap_14 (by decide) ?_
      refine lv_bipush (v := (-2)) hx hb dX5_swap_22 (by decide) ?_
      exact q_isp hx hb hr hlk hK hw hS dX5_swap_24 (by rw [sp_swap, hix]; rfl)
  · rcases ix_cases y hI.nb2 with ⟨hiy, hbad2⟩ | ⟨j, hj, rfl, hiy⟩
    · refine f_aload_n hx hb dX5_swap_0 hl 0 rfl rfl ?_
      refine f_iload_n hx hb dX5_swap_1 hl 1 rfl rfl ?_
      refine q_cq (q_runV (C := RX5) (T := TX5) (N := 10) ⟨hx, hb, hml, hown, hts⟩ (c_X5_berthAt l hI (nI i)) (cwV 1 hts gX5_swap_X5_berthAt rfl rfl rfl (by decide +kernel) ⟨Nat.le_of_ble_eq_true rfl, Nat.le_of_ble_eq_true rfl⟩) hK hw Ew_fq rfl rfl hl.1 rfl (by simp [Value.category, va_rf]) dX5_swap_2 ⟨Nat.le_of_ble_eq_true rfl, Nat.le_of_ble_eq_true rfl⟩) hS (fun H locs hw hS => ?_)
      refine f_val (y := .ref (ad 3 i)) (by rw [hix]; rfl) ?_
      refine f_astore_n hx hb dX5_swap_5 hl 3 rfl (by decide) (fun ls hl => ?_)
      refine f_aload_n hx hb dX5_swap_6 hl 0 rfl rfl ?_
      refine f_iload_n hx hb dX5_swap_7 hl 2 rfl rfl ?_
      refine q_cq (q_runV (C := RX5) (T := TX5) (N := 10) ⟨hx, hb, hml, hown, hts⟩ (c_X5_berthAt l hI y) (cwV 1 hts gX5_swap_X5_berthAt rfl rfl rfl (by decide +kernel) ⟨Nat.le_of_ble_eq_true rfl, Nat.le_of_ble_eq_true rfl⟩) hK hw Ew_fq rfl rfl hl.1 rfl (by simp [Value.category, va_rf]) dX5_swap_8 ⟨Nat.le_of_ble_eq_true rfl, Nat.le_of_ble_eq_true rfl⟩) hS (fun H locs hw hS => ?_)
      refine f_val (y := .null) (by rw [hiy]; rfl) ?_
      refine f_astoreN hx hb dX5_swap_11 hl (by decide) (fun ls hl => ?_)
      refine f_aload_n hx hb dX5_swap_13 hl 3 rfl rfl ?_
      refine lv_ifnull hx hb dX5_swap_14 ?_
      refine f_aloadN hx hb dX5_swap_17 hl rfl ?_
      refine lv_ifnonnullN hx hb dX5_swap_19 ?_
      refine lv_bipush (v := (-2)) hx hb dX5_swap_22 (by decide) ?_
      exact q_isp hx hb hr hlk hK hw hS dX5_swap_24 (by rw [sp_swap, hix, hiy]; rfl)
    · rcases hI.gate hi with hG | ⟨g, hg, hG, hGt⟩
      · refine f_aload_n hx hb dX5_swap_0 hl 0 rfl rfl ?_
        refine f_iload_n hx hb dX5_swap_1 hl 1 rfl rfl ?_
        refine q_cq (q_runV (C := RX5) (T := TX5) (N := 10) ⟨hx, hb, hml, hown, hts⟩ (c_X5_berthAt l hI (nI i)) (cwV 1 hts gX5_swap_X5_berthAt rfl rfl rfl (by decide +kernel) ⟨Nat.le_of_ble_eq_true rfl, Nat.le_of_ble_eq_true rfl⟩) hK hw Ew_fq rfl rfl hl.1 rfl (by simp [Value.category, va_rf]) dX5_swap_2 ⟨Nat.le_of_ble_eq_true rfl, Nat.le_of_ble_eq_true rfl⟩) hS (fun H locs hw hS => ?_)
        refine f_val (y := .ref (ad 3 i)) (by rw [hix]; rfl) ?_
        refine f_astore_n hx hb dX5_swap_5 hl 3 rfl (by decide) (fun ls hl => ?_)
        refine f_aload_n hx hb dX5_swap_6 hl 0 rfl rfl ?_
        refine f_iload_n hx hb dX5_swap_7 hl 2 rfl rfl ?_
        refine q_cq (q_runV (C := RX5) (T := TX5) (N := 10) ⟨hx, hb, hml, hown, hts⟩ (c_X5_berthAt l hI (nI j)) (cwV 1 hts gX5_swap_X5_berthAt rfl rfl rfl (by decide +kernel) ⟨Nat.le_of_ble_eq_true rfl, Nat.le_of_ble_eq_true rfl⟩) hK hw Ew_fq rfl rfl hl.1 rfl (by simp [Value.category, va_rf]) dX5_swap_8 ⟨Nat.le_of_ble_eq_true rfl, Nat.le_of_ble_eq_true rfl⟩) hS (fun H locs hw hS => ?_)
        refine f_val (y := .ref (ad 3 j)) (by rw [hiy]; rfl) ?_
        refine f_astore hx hb dX5_swap_11 hl (by decide) (fun ls hl => ?_)
        refine f_aload_n hx hb dX5_swap_13 hl 3 rfl rfl ?_
        refine lv_ifnull hx hb dX5_swap_14 ?_
        refine f_aload hx hb dX5_swap_17 hl rfl ?_
        refine lv_ifnonnull (tgt := 25) hx hb dX5_swap_19 (by decide) ?_
        refine f_aload_n hx hb dX5_swap_25 hl 3 rfl rfl ?_
        refine e_get (C := RX0) (T := TX0) (N := 4) hx hb hts i0 hown hK hw (Ew_berth (by assumption)) rfl 2 (by decide) (hts (.fieldLink RX5 60 "FerryQuay$Berth" "gate" "LFerryQuay$Gate;") (by decide +kernel)) rfl dX5_swap_26 ?_
        refine f_val (orefN hG) ?_
        refine f_astoreN hx hb dX5_swap_29 hl (by decide) (fun ls hl => ?_)
        refine f_aloadN hx hb dX5_swap_31 hl rfl ?_
        refine lv_ifnonnullN hx hb dX5_swap_33 ?_
        refine lv_bipush (v := (-4)) hx hb dX5_swap_36 (by decide) ?_
        exact q_isp hx hb hr hlk hK hw hS dX5_swap_38 (by rw [sp_swap, hix, hiy]; dsimp only [Option.elim]; exact (if_pos hG))
      · rcases hI.gate hj with hE | ⟨h, hh, hE, hEt⟩
        · refine f_aload_n hx hb dX5_swap_0 hl 0 rfl rfl ?_
          refine f_iload_n hx hb dX5_swap_1 hl 1 rfl rfl ?_
          refine q_cq (q_runV (C := RX5) (T := TX5) (N := 10) ⟨hx, hb, hml, hown, hts⟩ (c_X5_berthAt l hI (nI i)) (cwV 1 hts gX5_swap_X5_berthAt rfl rfl rfl (by decide +kernel) ⟨Nat.le_of_ble_eq_true rfl, Nat.le_of_ble_eq_true rfl⟩) hK hw Ew_fq rfl rfl hl.1 rfl (by simp [Value.category, va_rf]) dX5_swap_2 ⟨Nat.le_of_ble_eq_true rfl, Nat.le_of_ble_eq_true rfl⟩) hS (fun H locs hw hS => ?_)
          refine f_val (y := .ref (ad 3 i)) (by rw [hix]; rfl) ?_
          refine f_astore_n hx hb dX5_swap_5 hl 3 rfl (by decide) (fun ls hl => ?_)
          refine f_aload_n hx hb dX5_swap_6 hl 0 rfl rfl ?_
          refine f_iload_n hx hb dX5_swap_7 hl 2 rfl rfl ?_
          refine q_cq (q_runV (C := RX5) (T := TX5) (N := 10) ⟨hx, hb, hml, hown, hts⟩ (c_X5_berthAt l hI (nI j)) (cwV 1 hts gX5_swap_X5_berthAt rfl rfl rfl (by decide +kernel) ⟨Nat.le_of_ble_eq_true rfl, Nat.le_of_ble_eq_true rfl⟩) hK hw Ew_fq rfl rfl hl.1 rfl (by simp [Value.category, va_rf]) dX5_swap_8 ⟨Nat.le_of_ble_eq_true rfl, Nat.le_of_ble_eq_true rfl⟩) hS (fun H locs hw hS => ?_)
          refine f_val (y := .ref (ad 3 j)) (by rw [hiy]; rfl) ?_
          refine f_astore hx hb dX5_swap_11 hl (by decide) (fun ls hl => ?_)
          refine f_aload_n hx hb dX5_swap_13 hl 3 rfl rfl ?_
          refine lv_ifnull hx hb dX5_swap_14 ?_
          refine f_aload hx hb dX5_swap_17 hl rfl ?_
          refine lv_ifnonnull (tgt := 25) hx hb dX5_swap_19 (by decide) ?_
          refine f_aload_n hx hb dX5_swap_25 hl 3 rfl rfl ?_
          refine e_get (C := RX0) (T := TX0) (N := 4) hx hb hts i0 hown hK hw (Ew_berth (by assumption)) rfl 2 (by decide) (hts (.fieldLink RX5 60 "FerryQuay$Berth" "gate" "LFerryQuay$Gate;") (by decide +kernel)) rfl dX5_swap_26 ?_
          refine f_val (orefR hG (by omega)) ?_
          refine f_astore hx hb dX5_swap_29 hl (by decide) (fun ls hl => ?_)
          refine f_aload hx hb dX5_swap_31 hl rfl ?_
          refine lv_ifnonnull (tgt := 39) hx hb dX5_swap_33 (by decide) ?_
          refine f_aload hx hb dX5_swap_39 hl rfl ?_
          refine lv_dup hx hb dX5_swap_41 rfl ?_
          refine e_get (C := RX2) (T := TX2) (N := 4) hx hb hts i2 hown hK hw (Ew_gate (by assumption)) rfl 2 (by decide) (hts (.fieldLink RX5 101 "FerryQuay$Gate" "taken" "I") (by decide +kernel)) rfl dX5_swap_42 ?_
          refine lv_iconst (v := 1) hx hb dX5_swap_45 (by decide) ?_
          refine lv_iadd hx hb dX5_swap_46 ?_
          refine e_put (C := RX2) (T := TX2) (N := 4) (ty := .int) hx hb hts i2 tyX2 tyX2_ok nmX2 hown hK hw hS (Ew_gate (by assumption)) rfl 2 (by decide) (hts (.fieldLink RX5 101 "FerryQuay$Gate" "taken" "I") (by decide +kernel)) rfl (by decide +kernel) rfl rfl (Nat.le_of_ble_eq_true rfl) dX5_swap_47 (fun H locs hw hS => ?_)
          have hw := hw.cast (Ep_gate2 (by assumption))
          refine f_aload hx hb dX5_swap_50 hl rfl ?_
          refine e_get (C := RX0) (T := TX0) (N := 4) hx hb hts i0 hown hK hw (Ew_berth (by assumption)) rfl 2 (by decide) (hts (.fieldLink RX5 60 "FerryQuay$Berth" "gate" "LFerryQuay$Gate;") (by decide +kernel)) rfl dX5_swap_52 ?_
          refine f_val (orefN hE) ?_
          refine f_astoreN hx hb dX5_swap_55 hl (by decide) (fun ls hl => ?_)
          refine f_aloadN hx hb dX5_swap_57 hl rfl ?_
          refine lv_ifnonnullN hx hb dX5_swap_59 ?_
          refine lv_bipush (v := (-4)) hx hb dX5_swap_62 (by decide) ?_
          exact q_isp hx hb hr hlk hK hw hS dX5_swap_64 (by rw [sp_swap, hix, hiy]; dsimp only [Option.elim]; rw [hGt]; exact (Eq.trans (if_neg (notm1 hG (by omega))) (if_pos hE)))
        · obtain ⟨f1, hf1, hF1, hFt1⟩ := hI.ferry hi
          obtain ⟨f2, hf2, hF2, hFt2⟩ := hI.ferry hj
          refine f_aload_n hx hb dX5_swap_0 hl 0 rfl rfl ?_
          refine f_iload_n hx hb dX5_swap_1 hl 1 rfl rfl ?_
          refine q_cq (q_runV (C := RX5) (T := TX5) (N := 10) ⟨hx, hb, hml, hown, hts⟩ (c_X5_berthAt l hI (nI i)) (cwV 1 hts gX5_swap_X5_berthAt rfl rfl rfl (by decide +kernel) ⟨Nat.le_of_ble_eq_true rfl, Nat.le_of_ble_eq_true rfl⟩) hK hw Ew_fq rfl rfl hl.1 rfl (by simp [Value.category, va_rf]) dX5_swap_2 ⟨Nat.le_of_ble_eq_true rfl, Nat.le_of_ble_eq_true rfl⟩) hS (fun H locs hw hS => ?_)
          refine f_val (y := .ref (ad 3 i)) (by rw [hix]; rfl) ?_
          refine f_astore_n hx hb dX5_swap_5 hl 3 rfl (by decide) (fun ls hl => ?_)
          refine f_aload_n hx hb dX5_swap_6 hl 0 rfl rfl ?_
          refine f_iload_n hx hb dX5_swap_7 hl 2 rfl rfl ?_
          refine q_cq (q_runV (C := RX5) (T := TX5) (N := 10) ⟨hx, hb, hml, hown, hts⟩ (c_X5_berthAt l hI (nI j)) (cwV 1 hts gX5_swap_X5_berthAt rfl rfl rfl (by decide +kernel) ⟨Nat.le_of_ble_eq_true rfl, Nat.le_of_ble_eq_true rfl⟩) hK hw Ew_fq rfl rfl hl.1 rfl (by simp [Value.category, va_rf]) dX5_swap_8 ⟨Nat.le_of_ble_eq_true rfl, Nat.le_of_ble_eq_true rfl⟩) hS (fun H locs hw hS => ?_)
          refine f_val (y := .ref (ad 3 j)) (by rw [hiy]; rfl) ?_
          refine f_astore hx hb dX5_swap_11 hl (by decide) (fun ls hl => ?_)
          refine f_aload_n hx hb dX5_swap_13 hl 3 rfl rfl ?_
          refine lv_ifnull hx hb dX5_swap_14 ?_
          refine f_aload hx hb dX5_swap_17 hl rfl ?_
          refine lv_ifnonnull (tgt := 25) hx hb dX5_swap_19 (by decide) ?_
          refine f_aload_n hx hb dX5_swap_25 hl 3 rfl rfl ?_
          refine e_get (C := RX0) (T := TX0) (N := 4) hx hb hts i0 hown hK hw (Ew_berth (by assumption)) rfl 2 (by decide) (hts (.fieldLink RX5 60 "FerryQuay$Berth" "gate" "LFerryQuay$Gate;") (by decide +kernel)) rfl dX5_swap_26 ?_
          refine f_val (orefR hG (by omega)) ?_
          refine f_astore hx hb dX5_swap_29 hl (by decide) (fun ls hl => ?_)
          refine f_aload hx hb dX5_swap_31 hl rfl ?_
          refine lv_ifnonnull (tgt := 39) hx hb dX5_swap_33 (by decide) ?_
          refine f_aload hx hb dX5_swap_39 hl rfl ?_
          refine lv_dup hx hb dX5_swap_41 rfl ?_
          refine e_get (C := RX2) (T := TX2) (N := 4) hx hb hts i2 hown hK hw (Ew_gate (by assumption)) rfl 2 (by decide) (hts (.fieldLink RX5 101 "FerryQuay$Gate" "taken" "I") (by decide +kernel)) rfl dX5_swap_42 ?_
          refine lv_iconst (v := 1) hx hb dX5_swap_45 (by decide) ?_
          refine lv_iadd hx hb dX5_swap_46 ?_
          refine e_put (C := RX2) (T := TX2) (N := 4) (ty := .int) hx hb hts i2 tyX2 tyX2_ok nmX2 hown hK hw hS (Ew_gate (by assumption)) rfl 2 (by decide) (hts (.fieldLink RX5 101 "FerryQuay$Gate" "taken" "I") (by decide +kernel)) rfl (by decide +kernel) rfl rfl (Nat.le_of_ble_eq_true rfl) dX5_swap_47 (fun H locs hw hS => ?_)
          have hw := hw.cast (Ep_gate2 (by assumption))
          refine f_aload hx hb dX5_swap_50 hl rfl ?_
          refine e_get (C := RX0) (T := TX0) (N := 4) hx hb hts i0 hown hK hw (Ew_berth (by assumption)) rfl 2 (by decide) (hts (.fieldLink RX5 60 "FerryQuay$Berth" "gate" "LFerryQuay$Gate;") (by decide +kernel)) rfl dX5_swap_52 ?_
          refine f_val (orefR hE (by omega)) ?_
          refine f_astore hx hb dX5_swap_55 hl (by decide) (fun ls hl => ?_)
          refine f_aload hx hb dX5_swap_57 hl rfl ?_
          refine lv_ifnonnull (tgt := 65) hx hb dX5_swap_59 (by decide) ?_
          refine f_aload hx hb dX5_swap_65 hl rfl ?_
          refine lv_dup hx hb dX5_swap_67 rfl ?_
          refine e_get (C := RX2) (T := TX2) (N := 4) hx hb hts i2 hown hK hw (Ew_gate (by assumption)) rfl 2 (by decide) (hts (.fieldLink RX5 101 "FerryQuay$Gate" "taken" "I") (by decide +kernel)) rfl dX5_swap_68 ?_
          refine lv_iconst (v := 1) hx hb dX5_swap_71 (by decide) ?_
          refine lv_iadd hx hb dX5_swap_72 ?_
          refine e_put (C := RX2) (T := TX2) (N := 4) (ty := .int) hx hb hts i2 tyX2 tyX2_ok nmX2 hown hK hw hS (Ew_gate (by assumption)) rfl 2 (by decide) (hts (.fieldLink RX5 101 "FerryQuay$Gate" "taken" "I") (by decide +kernel)) rfl (by decide +kernel) rfl rfl (Nat.le_of_ble_eq_true rfl) dX5_swap_73 (fun H locs hw hS => ?_)
          have hw := hw.cast (Ep_gate2 (by assumption))
          refine f_aload hx hb dX5_swap_76 hl rfl ?_
          refine e_get (C := RX2) (T := TX2) (N := 4) hx hb hts i2 hown hK hw (Ew_gate (by assumption)) rfl 1 (by decide) (hts (.fieldLink RX5 78 "FerryQuay$Gate" "isShut" "Z") (by decide +kernel)) rfl dX5_swap_78 ?_
          refine lv_if_ne (tgt := 92) hx hb dX5_swap_81 (by decide) (fun c81 => ?_) (fun c81 => ?_)
          · refine lv_bipush (v := (-5)) hx hb dX5_swap_92 (by decide) ?_
            exact q_isp hx hb hr hlk hK hw hS dX5_swap_94 (by rw [sp_swap, hix, hiy]; dsimp only [Option.elim]; rw [hGt, hEt]; exact (Eq.trans (if_neg (notm1 hG (by omega))) (Eq.trans (if_neg (notm1 hE (by omega))) (if_neg c81))))
          · refine f_aload hx hb dX5_swap_84 hl rfl ?_
            refine e_get (C := RX2) (T := TX2) (N := 4) hx hb hts i2 hown hK hw (Ew_gate (by assumption)) rfl 1 (by decide) (hts (.fieldLink RX5 78 "FerryQuay$Gate" "isShut" "Z") (by decide +kernel)) rfl dX5_swap_86 ?_
            refine lv_if_eq (tgt := 95) hx hb dX5_swap_89 (by decide) (fun c89 => ?_) (fun c89 => ?_)
            · refine f_aload_n hx hb dX5_swap_95 hl 3 rfl rfl ?_
              refine e_get (C := RX0) (T := TX0) (N := 4) hx hb hts i0 hown hK hw (Ew_berth (by assumption)) rfl 1 (by decide) (hts (.fieldLink RX5 125 "FerryQuay$Berth" "ferry" "LFerryQuay$Ferry;") (by decide +kernel)) rfl dX5_swap_96 ?_
              refine f_val (congrArg (fun q => Value.ref (ad 6 q)) hFt1) ?_
              refine f_astore hx hb dX5_swap_99 hl (by decide) (fun ls hl => ?_)
              refine f_aload_n hx hb dX5_swap_101 hl 3 rfl rfl ?_
              refine f_aload hx hb dX5_swap_102 hl rfl ?_
              refine e_get (C := RX0) (T := TX0) (N := 4) hx hb hts i0 hown hK hw (Ew_berth (by assumption)) rfl 1 (by decide) (hts (.fieldLink RX5 125 "FerryQuay$Berth" "ferry" "LFerryQuay$Ferry;") (by decide +kernel)) rfl dX5_swap_104 ?_
              refine f_val (congrArg (fun q => Value.ref (ad 6 q)) hFt2) ?_
              refine e_put (C := RX0) (T := TX0) (N := 4) (ty := .object "FerryQuay$Ferry") hx hb hts i0 tyX0 tyX0_ok nmX0 hown hK hw hS (Ew_berth (by assumption)) rfl 1 (by decide) (hts (.fieldLink RX5 125 "FerryQuay$Berth" "ferry" "LFerryQuay$Ferry;") (by decide +kernel)) rfl (by decide +kernel) rfl rfl (Nat.le_of_ble_eq_true rfl) dX5_swap_107 (fun H locs hw hS => ?_)
              have hw := hw.cast (Ep_bfR (by assumption) (by omega))
              refine f_aload hx hb dX5_swap_110 hl rfl ?_
              refine f_aload hx hb dX5_swap_112 hl rfl ?_
              refine e_put (C := RX0) (T := TX0) (N := 4) (ty := .object "FerryQuay$Ferry") hx hb hts i0 tyX0 tyX0_ok nmX0 hown hK hw hS (Ew_berth (by assumption)) rfl 1 (by decide) (hts (.fieldLink RX5 125 "FerryQuay$Berth" "ferry" "LFerryQuay$Ferry;") (by decide +kernel)) rfl (by decide +kernel) rfl rfl (Nat.le_of_ble_eq_true rfl) dX5_swap_114 (fun H locs hw hS => ?_)
              have hw := hw.cast (Ep_bfR (by assumption) (by omega))
              refine f_aload_n hx hb dX5_swap_117 hl 3 rfl rfl ?_
              refine e_get (C := RX0) (T := TX0) (N := 4) hx hb hts i0 hown hK hw (Ew_berth (by assumption)) rfl 1 (by decide) (hts (.fieldLink RX5 125 "FerryQuay$Berth" "ferry" "LFerryQuay$Ferry;") (by decide +kernel)) rfl dX5_swap_118 ?_
              refine f_val (congrArg (fun q => Value.ref (ad 6 q)) (swp_fo (z := inc (inc z 2 g) 2 h) hF1 hF2 (by omega) (by omega))) ?_
              refine e_get (C := RX1) (T := TX1) (N := 3) hx hb hts i1 hown hK hw (Ew_ferry (by assumption)) rfl 2 (by decide) (hts (.fieldLink RX5 160 "FerryQuay$Ferry" "load" "I") (by decide +kernel)) rfl dX5_swap_121 ?_
              exact q_isp hx hb hr hlk hK hw hS dX5_swap_124 (by rw [sp_swap, hix, hiy]; dsimp only [Option.elim]; rw [hGt, hEt]; exact (Eq.trans (if_neg (notm1 hG (by omega))) (Eq.trans (if_neg (notm1 hE (by omega))) (Eq.trans (if_pos c81) (Eq.trans (if_pos c89) (by show (sc z 13 (fo z j), us (us (inc (inc z 2 g) 2 h) 9 i (sc z 9 j)) 9 j (sc z 9 i)) = _; rw [hFt2, hF1, hF2]; rfl))))))
            · refine lv_bipush (v := (-5)) hx hb dX5_swap_92 (by decide) ?_
              exact q_isp hx hb hr hlk hK hw hS dX5_swap_94 (by rw [sp_swap, hix, hiy]; dsimp only [Option.elim]; rw [hGt, hEt]; exact (Eq.trans (if_neg (notm1 hG (by omega))) (Eq.trans (if_neg (notm1 hE (by omega))) (Eq.trans (if_pos c81) (if_neg c89)))))
set_option maxHeartbeats 4000000 in
set_option maxRecDepth 100000 in
theorem c_X5_round (l : Launch) {G : va_G} {Y : YT} {lo : Nat} {ad : Nat → Nat → Nat} {ng nr nb : Nat} {z u : St} (hI : Inv z ng nr nb) (x n : Int32) : Met l yX5_round wsX5_round ({ frames := 1, cells := 0, slots := 0, locals := 22 }) (va_Pc [.ref (ad 0 0), .int x, .int n] (cS G (tysY Y) lo (Ew Y ng nr nb z u ad) ad)) (QI G (tysY Y) lo (sp_round nb z x n).1 (Ew Y ng nr nb (sp_round nb z x n).2 u ad) ad) 0 0 (fun q => lo ≤ q) := by
  refine met_of (cc := cX5_round) (maxL := 7) (ret := (some .int)) (by decide) rfl (Nat.le_of_ble_eq_true rfl) rfl ?_
  intro p e s m below meth c ls hx hb hr hlk hml hts hown hnm hw hK hl hS
  have i0 : ∀ w ∈ wsX00, w ∈ wsX5_round := by decide +kernel
  have i1 : ∀ w ∈ wsX10, w ∈ wsX5_round := by decide +kernel
  have i2 : ∀ w ∈ wsX20, w ∈ wsX5_round := by decide +kernel
  have i5 : ∀ w ∈ wsX50, w ∈ wsX5_round := by decide +kernel
  have hng := hI.mg
  have hnr := hI.mr
  have hnb := hI.mb
  rcases ix_cases x hI.nb2 with ⟨hix, hbad⟩ | ⟨j, hj, rfl, hix⟩
  · refine f_aload_n hx hb dX5_round_0 hl 0 rfl rfl ?_
    refine f_iload_n hx hb dX5_round_1 hl 1 rfl rfl ?_
    refine q_cq (q_runV (C := RX5) (T := TX5) (N := 10) ⟨hx, hb, hml, hown, hts⟩ (c_X5_berthAt l hI x) (cwV 1 hts gX5_round_X5_berthAt rfl rfl rfl (by decide +kernel) ⟨Nat.le_of_ble_eq_true rfl, Nat.le_of_ble_eq_true rfl⟩) hK hw Ew_fq rfl rfl hl.1 rfl (by simp [Value.category, va_rf]) dX5_round_2 ⟨Nat.le_of_ble_eq_true rfl, Nat.le_of_ble_eq_true rfl⟩) hS (fun H locs hw hS => ?_)
    refine f_val (y := .null) (by rw [hix]; rfl) ?_
    refine lv_ifnullN (tgt := 18) hx hb dX5_round_5 (by decide) ?_
    refine lv_bipush (v := (-2)) hx hb dX5_round_18 (by decide) ?_
    exact q_isp hx hb hr hlk hK hw hS dX5_round_20 (by rw [sp_round, hix]; exact rfl)
  · by_cases h1 : n < 1
    · refine f_aload_n hx hb dX5_round_0 hl 0 rfl rfl ?_
      refine f_iload_n hx hb dX5_round_1 hl 1 rfl rfl ?_
      refine q_cq (q_runV (C := RX5) (T := TX5) (N := 10) ⟨hx, hb, hml, hown, hts⟩ (c_X5_berthAt l hI (nI j)) (cwV 1 hts gX5_round_X5_berthAt rfl rfl rfl (by decide +kernel) ⟨Nat.le_of_ble_eq_true rfl, Nat.le_of_ble_eq_true rfl⟩) hK hw Ew_fq rfl rfl hl.1 rfl (by simp [Value.category, va_rf]) dX5_round_2 ⟨Nat.le_of_ble_eq_true rfl, Nat.le_of_ble_eq_true rfl⟩) hS (fun H locs hw hS => ?_)
      refine f_val (y := .ref (ad 3 j)) (by rw [hix]; rfl) ?_
      refine lv_ifnull hx hb dX5_round_5 ?_
      refine f_iload_n hx hb dX5_round_8 hl 2 rfl rfl ?_
      refine lv_iconst (v := 1) hx hb dX5_round_9 (by decide) ?_
      refine lv_bipush (v := 8) hx hb dX5_round_10 (by decide) ?_
      refine q_ci (q_runS ⟨hx, hb, hml, hown, hts⟩ (c_X5_isWithin l n 1 8) (va_cwS 3 hts gX5_round_X5_isWithin rfl rfl rfl (by decide +kernel) ⟨Nat.le_of_ble_eq_true rfl, Nat.le_of_ble_eq_true rfl⟩) hK hw rfl hl.1 rfl (by simp [Value.category, va_rf]) dX5_round_12 ⟨Nat.le_of_ble_eq_true rfl, Nat.le_of_ble_eq_true rfl⟩) hS (fun H locs hw hS => ?_)
      refine f_top (y := 0) (if_pos h1) ?_
      refine lv_if_ne (tgt := 21) hx hb dX5_round_15 (by decide) (fun c15 => absurd (by decide) c15) (fun c15 => ?_)
      refine lv_bipush (v := (-2)) hx hb dX5_round_18 (by decide) ?_
      exact q_isp hx hb hr hlk hK hw hS dX5_round_20 (by rw [sp_round, hix]; dsimp only [Option.elim]; exact (if_pos h1))
    · by_cases h2 : 8 < n
      · refine f_aload_n hx hb dX5_round_0 hl 0 rfl rfl ?_
        refine f_iload_n hx hb dX5_round_1 hl 1 rfl rfl ?_
        refine q_cq (q_runV (C := RX5) (T := TX5) (N := 10) ⟨hx, hb, hml, hown, hts⟩ (c_X5_berthAt l hI (nI j)) (cwV 1 hts gX5_round_X5_berthAt rfl rfl rfl (by decide +kernel) ⟨Nat.le_of_ble_eq_true rfl, Nat.le_of_ble_eq_true rfl⟩) hK hw Ew_fq rfl rfl hl.1 rfl (by simp [Value.category, va_rf]) dX5_round_2 ⟨Nat.le_of_ble_eq_true rfl, Nat.le_of_ble_eq_true rfl⟩) hS (fun H locs hw hS => ?_)
        refine f_val (y := .ref (ad 3 j)) (by rw [hix]; rfl) ?_
        refine lv_ifnull hx hb dX5_round_5 ?_
        refine f_iload_n hx hb dX5_round_8 hl 2 rfl rfl ?_
        refine lv_iconst (v := 1) hx hb dX5_round_9 (by decide) ?_
        refine lv_bipush (v := 8) hx hb dX5_round_10 (by decide) ?_
        refine q_ci (q_runS ⟨hx, hb, hml, hown, hts⟩ (c_X5_isWithin l n 1 8) (va_cwS 3 hts gX5_round_X5_isWithin rfl rfl rfl (by decide +kernel) ⟨Nat.le_of_ble_eq_true rfl, Nat.le_of_ble_eq_true rfl⟩) hK hw rfl hl.1 rfl (by simp [Value.category, va_rf]) dX5_round_12 ⟨Nat.le_of_ble_eq_true rfl, Nat.le_of_ble_eq_true rfl⟩) hS (fun H locs hw hS => ?_)
        refine f_top (y := 0) (Eq.trans (if_neg h1) (if_pos h2)) ?_
        refine lv_if_ne (tgt := 21) hx hb dX5_round_15 (by decide) (fun c15 => absurd (by decide) c15) (fun c15 => ?_)
        refine lv_bipush (v := (-2)) hx hb dX5_round_18 (by decide) ?_
        exact q_isp hx hb hr hlk hK hw hS dX5_round_20 (by rw [sp_round, hix]; dsimp only [Option.elim]; exact (Eq.trans (if_neg h1) (if_pos h2)))
      · obtain ⟨N, hN, rfl⟩ := rng_of (M := 8) (m := 8) (by decide) h1 h2
        refine f_aload_n hx hb dX5_round_0 hl 0 rfl rfl ?_
        refine f_iload_n hx hb dX5_round_1 hl 1 rfl rfl ?_
        refine q_cq (q_runV (C := RX5) (T := TX5) (N := 10) ⟨hx, hb, hml, hown, hts⟩ (c_X5_berthAt l hI (nI j)) (cwV 1 hts gX5_round_X5_berthAt rfl rfl rfl (by decide +kernel) ⟨Nat.le_of_ble_eq_true rfl, Nat.le_of_ble_eq_true rfl⟩) hK hw Ew_fq rfl rfl hl.1 rfl (by simp [Value.category, va_rf]) dX5_round_2 ⟨Nat.le_of_ble_eq_true rfl, Nat.le_of_ble_eq_true rfl⟩) hS (fun H locs hw hS => ?_)
        refine f_val (y := .ref (ad 3 j)) (by rw [hix]; rfl) ?_
        refine lv_ifnull hx hb dX5_round_5 ?_
        refine f_iload_n hx hb dX5_round_8 hl 2 rfl rfl ?_
        refine lv_iconst (v := 1) hx hb dX5_round_9 (by decide) ?_
        refine lv_bipush (v := 8) hx hb dX5_round_10 (by decide) ?_
        refine q_ci (q_runS ⟨hx, hb, hml, hown, hts⟩ (c_X5_isWithin l (nI N) 1 8) (va_cwS 3 hts gX5_round_X5_isWithin rfl rfl rfl (by decide +kernel) ⟨Nat.le_of_ble_eq_true rfl, Nat.le_of_ble_eq_true rfl⟩) hK hw rfl hl.1 rfl (by simp [Value.category, va_rf]) dX5_round_12 ⟨Nat.le_of_ble_eq_true rfl, Nat.le_of_ble_eq_true rfl⟩) hS (fun H locs hw hS => ?_)
        refine f_top (y := 1) (Eq.trans (if_neg h1) (if_neg h2)) ?_
        refine lv_if_ne (tgt := 21) hx hb dX5_round_15 (by decide) (fun c15 => ?_) (fun c15 => absurd c15 (by decide))
        refine lv_iconst (v := 0) hx hb dX5_round_21 (by decide) ?_
        refine f_istore_n hx hb dX5_round_22 hl 3 rfl (by decide) (fun ls hl => ?_)
        refine lv_iconst (v := 0) hx hb dX5_round_23 (by decide) ?_
        refine f_top (y := nI 0) rfl ?_
        refine f_istore hx hb dX5_round_24 hl (by decide) (fun ls hl => ?_)
        have loop : ∀ (t : Nat) (w : Int32) (k : Nat) (zc : St) (H : Heap) (locs : List Loc) (ls : Array Slot), Inv zc ng nr nb → k + t = N → rl nb t (j + k) w zc = sp_round nb z (nI j) (nI N) → wo G lo (Ew Y ng nr nb zc u ad) ad H → va_S (fun q => lo ≤ q) s.heap H locs → lh ls 7 (fun i9 => ([(0, .ref (ad 0 0)), (1, .int (nI j)), (2, .int (nI N)), (3, .int w), (4, .int (nI k))].find? (fun q => q.1 == i9)).map (fun q => q.2)) → W p l e (headSpec wsX5_round ({ frames := 1, cells := 0, slots := 0, locals := 22 })).room s m ([.ref (ad 0 0), .int (nI j), .int (nI N)] : List Value).toArray below meth c H locs 0 0 (MQ below (QI G (tysY Y) lo (sp_round nb z (nI j) (nI N)).1 (Ew Y ng nr nb (sp_round nb z (nI j) (nI N)).2 u ad) ad) ([.ref (ad 0 0), .int (nI j), .int (nI N)] : List Value).toArray s 0 0 (fun q => lo ≤ q)) (F0 m 26 ls []) := by
          intro t
          induction t with
          | zero =>
            intro w k zc H locs ls hI hkt hsp hw hS hl
            refine f_iload hx hb dX5_round_26 hl rfl ?_
            refine f_iload_n hx hb dX5_round_28 hl 2 rfl rfl ?_
            refine lv_icmp_ge (tgt := 106) hx hb dX5_round_29 (by decide) (fun c29 => ?_) (fun c29 => absurd (nI_le (by omega) (by omega)) c29)
            refine f_iload_n hx hb dX5_round_106 hl 3 rfl rfl ?_
            exact q_isp hx hb hr hlk hK hw hS dX5_round_107 hsp.symm
          | succ t ih =>
            intro w k zc H locs ls hI hkt hsp hw hS hl
            refine f_iload hx hb dX5_round_26 hl rfl ?_
            refine f_iload_n hx hb dX5_round_28 hl 2 rfl rfl ?_
            refine lv_icmp_ge (tgt := 106) hx hb dX5_round_29 (by decide) (fun c29 => absurd c29 (nI_ge (by omega) (by omega))) (fun c29 => ?_)
            refine f_aload_n hx hb dX5_round_32 hl 0 rfl rfl ?_
            refine f_iload_n hx hb dX5_round_33 hl 1 rfl rfl ?_
            refine f_iload hx hb dX5_round_34 hl rfl ?_
            refine lv_iadd hx hb dX5_round_36 ?_
            refine f_top (y := nI (j + k)) (nI_add j k) ?_
            by_cases hk2 : nb ≤ j + k
            · have hiy := ix_no (n := nb) (show j + k < 2 ^ 31 by omega) hk2
              refine q_cq (q_runV (C := RX5) (T := TX5) (N := 10) ⟨hx, hb, hml, hown, hts⟩ (c_X5_berthAt l hI (nI (j + k))) (cwV 1 hts gX5_round_X5_berthAt rfl rfl rfl (by decide +kernel) ⟨Nat.le_of_ble_eq_true rfl, Nat.le_of_ble_eq_true rfl⟩) hK hw Ew_fq rfl rfl hl.1 rfl (by simp [Value.category, va_rf]) dX5_round_37 ⟨Nat.le_of_ble_eq_true rfl, Nat.le_of_ble_eq_true rfl⟩) hS (fun H locs hw hS => ?_)
              refine f_val (y := .null) (by rw [hiy]; rfl) ?_
              refine f_astoreN hx hb dX5_round_40 hl (by decide) (fun ls hl => ?_)
              refine f_aloadN hx hb dX5_round_42 hl rfl ?_
              refine lv_ifnonnullN hx hb dX5_round_44 ?_
              refine f_iload_n hx hb dX5_round_47 hl 3 rfl rfl ?_
              exact q_isp hx hb hr hlk hK hw hS dX5_round_48 (hsp.symm.trans (by rw [rl]; exact (if_pos hk2)))
            · have hk3 : j + k < nb := by omega
              have hiy := ix_in hI.nb2 hk3
              rcases hI.gate hk3 with hG | ⟨g, hg, hG, hGt⟩
              · refine q_cq (q_runV (C := RX5) (T := TX5) (N := 10) ⟨hx, hb, hml, hown, hts⟩ (c_X5_berthAt l hI (nI (j + k))) (cwV 1 hts gX5_round_X5_berthAt rfl rfl rfl (by decide +kernel) ⟨Nat.le_of_ble_eq_true rfl, Nat.le_of_ble_eq_true rfl⟩) hK hw Ew_fq rfl rfl hl.1 rfl (by simp [Value.category, va_rf]) dX5_round_37 ⟨Nat.le_of_ble_eq_true rfl, Nat.le_of_ble_eq_true rfl⟩) hS (fun H locs hw hS => ?_)
                refine f_val (y := .ref (ad 3 (j + k))) (by rw [hiy]; rfl) ?_
                refine f_astore hx hb dX5_round_40 hl (by decide) (fun ls hl => ?_)
                refine f_aload hx hb dX5_round_42 hl rfl ?_
                refine lv_ifnonnull (tgt := 49) hx hb dX5_round_44 (by decide) ?_
                refine f_aload hx hb dX5_round_49 hl rfl ?_
                refine e_get (C := RX0) (T := TX0) (N := 4) hx hb hts i0 hown hK hw (Ew_berth (by assumption)) rfl 2 (by decide) (hts (.fieldLink RX5 60 "FerryQuay$Berth" "gate" "LFerryQuay$Gate;") (by decide +kernel)) rfl dX5_round_51 ?_
                refine f_val (orefN hG) ?_
                refine f_astoreN hx hb dX5_round_54 hl (by decide) (fun ls hl => ?_)
                refine f_aloadN hx hb dX5_round_56 hl rfl ?_
                refine lv_ifnonnullN hx hb dX5_round_58 ?_
                refine f_iload_n hx hb dX5_round_61 hl 3 rfl rfl ?_
                exact q_isp hx hb hr hlk hK hw hS dX5_round_62 (hsp.symm.trans (by rw [rl]; exact (Eq.trans (if_neg hk2) (if_pos hG))))
              · obtain ⟨f, hf, hF, hFt⟩ := hI.ferry hk3
                refine q_cq (q_runV (C := RX5) (T := TX5) (N := 10) ⟨hx, hb, hml, hown, hts⟩ (c_X5_berthAt l hI (nI (j + k))) (cwV 1 hts gX5_round_X5_berthAt rfl rfl rfl (by decide +kernel) ⟨Nat.le_of_ble_eq_true rfl, Nat.le_of_ble_eq_true rfl⟩) hK hw Ew_fq rfl rfl hl.1 rfl (by simp [Value.category, va_rf]) dX5_round_37 ⟨Nat.le_of_ble_eq_true rfl, Nat.le_of_ble_eq_true rfl⟩) hS (fun H locs hw hS => ?_)
                refine f_val (y := .ref (ad 3 (j + k))) (by rw [hiy]; rfl) ?_
                refine f_astore hx hb dX5_round_40 hl (by decide) (fun ls hl => ?_)
                refine f_aload hx hb dX5_round_42 hl rfl ?_
                refine lv_ifnonnull (tgt := 49) hx hb dX5_round_44 (by decide) ?_
                refine f_aload hx hb dX5_round_49 hl rfl ?_
                refine e_get (C := RX0) (T := TX0) (N := 4) hx hb hts i0 hown hK hw (Ew_berth (by assumption)) rfl 2 (by decide) (hts (.fieldLink RX5 60 "FerryQuay$Berth" "gate" "LFerryQuay$Gate;") (by decide +kernel)) rfl dX5_round_51 ?_
                refine f_val (orefR hG (by omega)) ?_
                refine f_astore hx hb dX5_round_54 hl (by decide) (fun ls hl => ?_)
                refine f_aload hx hb dX5_round_56 hl rfl ?_
                refine lv_ifnonnull (tgt := 63) hx hb dX5_round_58 (by decide) ?_
                refine f_aload hx hb dX5_round_63 hl rfl ?_
                refine lv_dup hx hb dX5_round_65 rfl ?_
                refine e_get (C := RX2) (T := TX2) (N := 4) hx hb hts i2 hown hK hw (Ew_gate (by assumption)) rfl 2 (by decide) (hts (.fieldLink RX5 101 "FerryQuay$Gate" "taken" "I") (by decide +kernel)) rfl dX5_round_66 ?_
                refine lv_iconst (v := 1) hx hb dX5_round_69 (by decide) ?_
                refine lv_iadd hx hb dX5_round_70 ?_
                refine e_put (C := RX2) (T := TX2) (N := 4) (ty := .int) hx hb hts i2 tyX2 tyX2_ok nmX2 hown hK hw hS (Ew_gate (by assumption)) rfl 2 (by decide) (hts (.fieldLink RX5 101 "FerryQuay$Gate" "taken" "I") (by decide +kernel)) rfl (by decide +kernel) rfl rfl (Nat.le_of_ble_eq_true rfl) dX5_round_71 (fun H locs hw hS => ?_)
                have hw := hw.cast (Ep_gate2 (by assumption))
                refine f_aload hx hb dX5_round_74 hl rfl ?_
                refine e_get (C := RX2) (T := TX2) (N := 4) hx hb hts i2 hown hK hw (Ew_gate (by assumption)) rfl 1 (by decide) (hts (.fieldLink RX5 78 "FerryQuay$Gate" "isShut" "Z") (by decide +kernel)) rfl dX5_round_76 ?_
                refine lv_if_eq (tgt := 89) hx hb dX5_round_79 (by decide) (fun c79 => ?_) (fun c79 => ?_)
                · refine f_iload_n hx hb dX5_round_89 hl 3 rfl rfl ?_
                  refine f_aload hx hb dX5_round_90 hl rfl ?_
                  refine e_get (C := RX0) (T := TX0) (N := 4) hx hb hts i0 hown hK hw (Ew_berth (by assumption)) rfl 1 (by decide) (hts (.fieldLink RX5 125 "FerryQuay$Berth" "ferry" "LFerryQuay$Ferry;") (by decide +kernel)) rfl dX5_round_92 ?_
                  refine f_val (congrArg (fun q => Value.ref (ad 6 q)) hFt) ?_
                  refine e_get (C := RX1) (T := TX1) (N := 3) hx hb hts i1 hown hK hw (Ew_ferry (by assumption)) rfl 2 (by decide) (hts (.fieldLink RX5 160 "FerryQuay$Ferry" "load" "I") (by decide +kernel)) rfl dX5_round_95 ?_
                  refine lv_iadd hx hb dX5_round_98 ?_
                  refine f_istore_n hx hb dX5_round_99 hl 3 rfl (by decide) (fun ls hl => ?_)
                  refine f_iinc (d := 1) hx hb dX5_round_100 hl rfl (by decide) (by decide) (fun ls hl => ?_)
                  rw [nI_1] at hl
                  refine lv_goto (tgt := 26) hx hb dX5_round_103 (by decide) ?_
                  exact ih (w + sc zc 13 f) (k + 1) _ _ _ _ (hI.p2 hg) (by omega) (Eq.trans (Eq.symm (by rw [rl, hGt, hFt]; exact (Eq.trans (if_neg hk2) (Eq.trans (if_neg (notm1 hG (by omega))) (if_pos c79))))) hsp) hw hS (hl.list [(0, .ref (ad 0 0)), (1, .int (nI j)), (2, .int (nI N)), (3, .int (w + sc zc 13 f)), (4, .int (nI (k + 1)))] (List.forall_mem_cons.mpr ⟨rfl, List.forall_mem_cons.mpr ⟨rfl, List.forall_mem_cons.mpr ⟨rfl, List.forall_mem_cons.mpr ⟨rfl, List.forall_mem_cons.mpr ⟨rfl, fun _ h => absurd h List.not_mem_nil⟩⟩⟩⟩⟩))
                · refine f_aload_n hx hb dX5_round_82 hl 0 rfl rfl ?_
                  refine lv_bipush (v := (-5)) hx hb dX5_round_83 (by decide) ?_
                  refine q_ci (q_runV (C := RX5) (T := TX5) (N := 10) ⟨hx, hb, hml, hown, hts⟩ (c_X5_alarm l (hI.p2 hg) (-5)) (cwV 1 hts gX5_round_X5_alarm rfl rfl rfl (by decide +kernel) ⟨Nat.le_of_ble_eq_true rfl, Nat.le_of_ble_eq_true rfl⟩) hK hw Ew_fq rfl rfl hl.1 rfl (by simp [Value.category, va_rf]) dX5_round_85 ⟨Nat.le_of_ble_eq_true rfl, Nat.le_of_ble_eq_true rfl⟩) hS (fun H locs hw hS => ?_)
                  exact q_isp hx hb hr hlk hK hw hS dX5_round_88 (hsp.symm.trans (by rw [rl, hGt]; exact (Eq.trans (if_neg hk2) (Eq.trans (if_neg (notm1 hG (by omega))) (if_neg c79)))))
        exact loop N 0 0 z _ _ _ hI (by omega) (by rw [sp_round, hix]; dsimp only [Option.elim]; rw [show tn (nI N) = N from nI_clamp (by omega)]; exact (Eq.symm (Eq.trans (if_neg h1) (if_neg h2)))) hw hS (hl.list [(0, .ref (ad 0 0)), (1, .int (nI j)), (2, .int (nI N)), (3, .int 0), (4, .int (nI 0))] (List.forall_mem_cons.mpr ⟨rfl, List.forall_mem_cons.mpr ⟨rfl, List.forall_mem_cons.mpr ⟨rfl, List.forall_mem_cons.mpr ⟨rfl, List.forall_mem_cons.mpr ⟨rfl, fun _ h => absurd h List.not_mem_nil⟩⟩⟩⟩⟩))
