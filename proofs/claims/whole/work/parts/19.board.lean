set_option maxHeartbeats 4000000 in
set_option maxRecDepth 100000 in
theorem c_X5_boardThrough (l : Launch) {G : va_G} {Y : YT} {lo : Nat} {ad : Nat → Nat → Nat} {ng nr nb : Nat} {z u : St} (hI : Inv z ng nr nb) {j g : Nat} (hj : j < nb) (hg : g < ng) (n : Int32) : Met l yX5_boardThrough wsX5_boardThrough ({ frames := 2, cells := 0, slots := 0, locals := 50 }) (va_Pc [.ref (ad 0 0), .ref (ad 1 g), .ref (ad 3 j), .int n] (cS G (tysY Y) lo (Ew Y ng nr nb z u ad) ad)) (QI G (tysY Y) lo (bl j g n (ln z j) 0 z).1 (Ew Y ng nr nb (bl j g n (ln z j) 0 z).2 u ad) ad) 0 0 (fun q => lo ≤ q) := by
  refine met_of (cc := cX5_boardThrough) (maxL := 10) (ret := (some .int)) (by decide) rfl (Nat.le_of_ble_eq_true rfl) rfl ?_
  intro p e s m below meth c ls hx hb hr hlk hml hts hown hnm hw hK hl hS
  have i0 : ∀ w ∈ wsX00, w ∈ wsX5_boardThrough := by decide +kernel
  have i1 : ∀ w ∈ wsX10, w ∈ wsX5_boardThrough := by decide +kernel
  have i2 : ∀ w ∈ wsX20, w ∈ wsX5_boardThrough := by decide +kernel
  have i3 : ∀ w ∈ wsX30, w ∈ wsX5_boardThrough := by decide +kernel
  have i4 : ∀ w ∈ wsX40, w ∈ wsX5_boardThrough := by decide +kernel
  have i5 : ∀ w ∈ wsX50, w ∈ wsX5_boardThrough := by decide +kernel
  have hng := hI.mg
  have hnr := hI.mr
  have hnb := hI.mb
  obtain ⟨hL, hLn⟩ := hI.lane hj
  rcases hI.ramp hj with hR | ⟨r, hr2, hR, hRt⟩
  · refine f_aload_n hx hb dX5_boardThrough_0 hl 2 rfl rfl ?_
    refine e_get (C := RX0) (T := TX0) (N := 4) hx hb hts i0 hown hK hw (Ew_berth (by assumption)) rfl 0 (by decide) (hts (.fieldLink RX5 82 "FerryQuay$Berth" "lane" "LFerryQuay$Row;") (by decide +kernel)) rfl dX5_boardThrough_1 ?_
    refine f_astore hx hb dX5_boardThrough_4 hl (by decide) (fun ls hl => ?_)
    refine f_aload_n hx hb dX5_boardThrough_6 hl 2 rfl rfl ?_
    refine e_get (C := RX0) (T := TX0) (N := 4) hx hb hts i0 hown hK hw (Ew_berth (by assumption)) rfl 3 (by decide) (hts (.fieldLink RX5 71 "FerryQuay$Berth" "ramp" "LFerryQuay$Ramp;") (by decide +kernel)) rfl dX5_boardThrough_7 ?_
    refine f_val (orefN hR) ?_
    refine f_astoreN hx hb dX5_boardThrough_10 hl (by decide) (fun ls hl => ?_)
    refine f_aload hx hb dX5_boardThrough_12 hl rfl ?_
    refine e_get (C := RX4) (T := TX4) (N := 2) hx hb hts i4 hown hK hw (Ew_lane (by assumption)) rfl 1 (by decide) (hts (.fieldLink RX5 98 "FerryQuay$Row" "size" "I") (by decide +kernel)) rfl dX5_boardThrough_14 ?_
    refine f_top (y := nI (ln z j)) hLn ?_
    refine f_istore hx hb dX5_boardThrough_17 hl (by decide) (fun ls hl => ?_)
    refine lv_iconst (v := 0) hx hb dX5_boardThrough_19 (by decide) ?_
    refine f_istore hx hb dX5_boardThrough_20 hl (by decide) (fun ls hl => ?_)
    refine lv_iconst (v := 0) hx hb dX5_boardThrough_22 (by decide) ?_
    refine f_top (y := nI 0) rfl ?_
    refine f_istore hx hb dX5_boardThrough_23 hl (by decide) (fun ls hl => ?_)
    have loop : ∀ (t : Nat) (w : Int32) (k : Nat) (zc : St) (H : Heap) (locs : List Loc) (ls : Array Slot), Inv zc ng nr nb → t ≤ ln zc j → k + t = ln z j → sc zc 8 j = -1 → bl j g n t w zc = bl j g n (ln z j) 0 z → wo G lo (Ew Y ng nr nb zc u ad) ad H → va_S (fun q => lo ≤ q) s.heap H locs → lh ls 10 (fun i => ([(0, .ref (ad 0 0)), (1, .ref (ad 1 g)), (2, .ref (ad 3 j)), (3, .int n), (4, .ref (ad 4 j)), (5, .null), (6, .int (nI (ln z j))), (7, .int w), (8, .int (nI k))].find? (fun q => q.1 == i)).map (fun q => q.2)) → W p l e (headSpec wsX5_boardThrough ({ frames := 2, cells := 0, slots := 0, locals := 50 })).room s m ([.ref (ad 0 0), .ref (ad 1 g), .ref (ad 3 j), .int n] : List Value).toArray below meth c H locs 0 0 (MQ below (QI G (tysY Y) lo (bl j g n (ln z j) 0 z).1 (Ew Y ng nr nb (bl j g n (ln z j) 0 z).2 u ad) ad) ([.ref (ad 0 0), .ref (ad 1 g), .ref (ad 3 j), .int n] : List Value).toArray s 0 0 (fun q => lo ≤ q)) (F0 m 25 ls []) := by
      intro t
      induction t with
      | zero =>
        intro w k zc H locs ls hI hle hkt hR hsp hw hS hl
        obtain ⟨hL, hLn⟩ := hI.lane hj
        obtain ⟨f, hf, hF, hFt⟩ := hI.ferry hj
        obtain ⟨hD, hDn⟩ := hI.deck hf
        refine f_iload hx hb dX5_boardThrough_25 hl rfl ?_
        refine f_iload hx hb dX5_boardThrough_27 hl rfl ?_
        refine lv_icmp_ge (tgt := 180) hx hb dX5_boardThrough_29 (by decide) (fun c29 => ?_) (fun c29 => absurd (nI_le (by omega) (by omega)) c29)
        refine f_iload hx hb dX5_boardThrough_180 hl rfl ?_
        exact q_isp hx hb hr hlk hK hw hS dX5_boardThrough_182 hsp.symm
      | succ t ih =>
        intro w k zc H locs ls hI hle hkt hR hsp hw hS hl
        obtain ⟨hL, hLn⟩ := hI.lane hj
        obtain ⟨f, hf, hF, hFt⟩ := hI.ferry hj
        obtain ⟨hD, hDn⟩ := hI.deck hf
        refine f_iload hx hb dX5_boardThrough_25 hl rfl ?_
        refine f_iload hx hb dX5_boardThrough_27 hl rfl ?_
        refine lv_icmp_ge (tgt := 180) hx hb dX5_boardThrough_29 (by decide) (fun c29 => absurd c29 (nI_ge (by omega) (by omega))) (fun c29 => ?_)
        refine f_aloadN hx hb dX5_boardThrough_32 hl rfl ?_
        refine lv_ifnonnullN hx hb dX5_boardThrough_34 ?_
        refine lv_bipush (v := (-4)) hx hb dX5_boardThrough_37 (by decide) ?_
        exact q_isp hx hb hr hlk hK hw hS dX5_boardThrough_39 (hsp.symm.trans (by rw [bl]; exact (if_pos hR)))
    exact loop (ln z j) 0 0 z _ _ _ hI (Nat.le_refl _) (by omega) hR rfl hw hS (hl.list [(0, .ref (ad 0 0)), (1, .ref (ad 1 g)), (2, .ref (ad 3 j)), (3, .int n), (4, .ref (ad 4 j)), (5, .null), (6, .int (nI (ln z j))), (7, .int 0), (8, .int (nI 0))] (List.forall_mem_cons.mpr ⟨rfl, List.forall_mem_cons.mpr ⟨rfl, List.forall_mem_cons.mpr ⟨rfl, List.forall_mem_cons.mpr ⟨rfl, List.forall_mem_cons.mpr ⟨rfl, List.forall_mem_cons.mpr ⟨rfl, List.forall_mem_cons.mpr ⟨rfl, List.forall_mem_cons.mpr ⟨rfl, List.forall_mem_cons.mpr ⟨rfl, fun _ h => absurd h List.not_mem_nil⟩⟩⟩⟩⟩⟩⟩⟩⟩))
  · refine f_aload_n hx hb dX5_boardThrough_0 hl 2 rfl rfl ?_
    refine e_get (C := RX0) (T := TX0) (N := 4) hx hb hts i0 hown hK hw (Ew_berth (by assumption)) rfl 0 (by decide) (hts (.fieldLink RX5 82 "FerryQuay$Berth" "lane" "LFerryQuay$Row;") (by decide +kernel)) rfl dX5_boardThrough_1 ?_
    refine f_astore hx hb dX5_boardThrough_4 hl (by decide) (fun ls hl => ?_)
    refine f_aload_n hx hb dX5_boardThrough_6 hl 2 rfl rfl ?_
    refine e_get (C := RX0) (T := TX0) (N := 4) hx hb hts i0 hown hK hw (Ew_berth (by assumption)) rfl 3 (by decide) (hts (.fieldLink RX5 71 "FerryQuay$Berth" "ramp" "LFerryQuay$Ramp;") (by decide +kernel)) rfl dX5_boardThrough_7 ?_
    refine f_val (orefR hR (by omega)) ?_
    refine f_astore hx hb dX5_boardThrough_10 hl (by decide) (fun ls hl => ?_)
    refine f_aload hx hb dX5_boardThrough_12 hl rfl ?_
    refine e_get (C := RX4) (T := TX4) (N := 2) hx hb hts i4 hown hK hw (Ew_lane (by assumption)) rfl 1 (by decide) (hts (.fieldLink RX5 98 "FerryQuay$Row" "size" "I") (by decide +kernel)) rfl dX5_boardThrough_14 ?_
    refine f_top (y := nI (ln z j)) hLn ?_
    refine f_istore hx hb dX5_boardThrough_17 hl (by decide) (fun ls hl => ?_)
    refine lv_iconst (v := 0) hx hb dX5_boardThrough_19 (by decide) ?_
    refine f_istore hx hb dX5_boardThrough_20 hl (by decide) (fun ls hl => ?_)
    refine lv_iconst (v := 0) hx hb dX5_boardThrough_22 (by decide) ?_
    refine f_top (y := nI 0) rfl ?_
    refine f_istore hx hb dX5_boardThrough_23 hl (by decide) (fun ls hl => ?_)
    have loop : ∀ (t : Nat) (w : Int32) (k : Nat) (zc : St) (H : Heap) (locs : List Loc) (ls : Array Slot), Inv zc ng nr nb → t ≤ ln zc j → k + t = ln z j → sc zc 8 j = nI r → bl j g n t w zc = bl j g n (ln z j) 0 z → wo G lo (Ew Y ng nr nb zc u ad) ad H → va_S (fun q => lo ≤ q) s.heap H locs → lh ls 10 (fun i => ([(0, .ref (ad 0 0)), (1, .ref (ad 1 g)), (2, .ref (ad 3 j)), (3, .int n), (4, .ref (ad 4 j)), (5, .ref (ad 2 r)), (6, .int (nI (ln z j))), (7, .int w), (8, .int (nI k))].find? (fun q => q.1 == i)).map (fun q => q.2)) → W p l e (headSpec wsX5_boardThrough ({ frames := 2, cells := 0, slots := 0, locals := 50 })).room s m ([.ref (ad 0 0), .ref (ad 1 g), .ref (ad 3 j), .int n] : List Value).toArray below meth c H locs 0 0 (MQ below (QI G (tysY Y) lo (bl j g n (ln z j) 0 z).1 (Ew Y ng nr nb (bl j g n (ln z j) 0 z).2 u ad) ad) ([.ref (ad 0 0), .ref (ad 1 g), .ref (ad 3 j), .int n] : List Value).toArray s 0 0 (fun q => lo ≤ q)) (F0 m 25 ls []) := by
      intro t
      induction t with
      | zero =>
        intro w k zc H locs ls hI hle hkt hR hsp hw hS hl
        obtain ⟨hL, hLn⟩ := hI.lane hj
        obtain ⟨f, hf, hF, hFt⟩ := hI.ferry hj
        obtain ⟨hD, hDn⟩ := hI.deck hf
        have hRt : tn (sc zc 8 j) = r := by rw [hR]; exact nI_clamp (by omega)
        have lg : ln (goes (inc zc 6 r) j) j = ln zc j - 1 := ln_goes (z := inc zc 6 r) (by show ln zc j < 2 ^ 31; omega)
        have lc : ∀ x, ln (comes (goes (inc zc 6 r) j) j x) j = ln zc j - 1 + 1 := fun x => (ln_comes (by rw [lg]; omega)).trans (by rw [lg])
        refine f_iload hx hb dX5_boardThrough_25 hl rfl ?_
        refine f_iload hx hb dX5_boardThrough_27 hl rfl ?_
        refine lv_icmp_ge (tgt := 180) hx hb dX5_boardThrough_29 (by decide) (fun c29 => ?_) (fun c29 => absurd (nI_le (by omega) (by omega)) c29)
        refine f_iload hx hb dX5_boardThrough_180 hl rfl ?_
        exact q_isp hx hb hr hlk hK hw hS dX5_boardThrough_182 hsp.symm
      | succ t ih =>
        intro w k zc H locs ls hI hle hkt hR hsp hw hS hl
        obtain ⟨hL, hLn⟩ := hI.lane hj
        obtain ⟨f, hf, hF, hFt⟩ := hI.ferry hj
        obtain ⟨hD, hDn⟩ := hI.deck hf
        have hRt : tn (sc zc 8 j) = r := by rw [hR]; exact nI_clamp (by omega)
        have lg : ln (goes (inc zc 6 r) j) j = ln zc j - 1 := ln_goes (z := inc zc 6 r) (by show ln zc j < 2 ^ 31; omega)
        have lc : ∀ x, ln (comes (goes (inc zc 6 r) j) j x) j = ln zc j - 1 + 1 := fun x => (ln_comes (by rw [lg]; omega)).trans (by rw [lg])
        refine f_iload hx hb dX5_boardThrough_25 hl rfl ?_
        refine f_iload hx hb dX5_boardThrough_27 hl rfl ?_
        refine lv_icmp_ge (tgt := 180) hx hb dX5_boardThrough_29 (by decide) (fun c29 => absurd c29 (nI_ge (by omega) (by omega))) (fun c29 => ?_)
        refine f_aload hx hb dX5_boardThrough_32 hl rfl ?_
        refine lv_ifnonnull (tgt := 40) hx hb dX5_boardThrough_34 (by decide) ?_
        refine f_aload hx hb dX5_boardThrough_40 hl rfl ?_
        refine lv_dup hx hb dX5_boardThrough_42 rfl ?_
        refine e_get (C := RX3) (T := TX3) (N := 4) hx hb hts i3 hown hK hw (Ew_ramp (by assumption)) rfl 2 (by decide) (hts (.fieldLink RX5 108 "FerryQuay$Ramp" "taken" "I") (by decide +kernel)) rfl dX5_boardThrough_43 ?_
        refine lv_iconst (v := 1) hx hb dX5_boardThrough_46 (by decide) ?_
        refine lv_iadd hx hb dX5_boardThrough_47 ?_
        refine e_put (C := RX3) (T := TX3) (N := 4) (ty := .int) hx hb hts i3 tyX3 tyX3_ok nmX3 hown hK hw hS (Ew_ramp (by assumption)) rfl 2 (by decide) (hts (.fieldLink RX5 108 "FerryQuay$Ramp" "taken" "I") (by decide +kernel)) rfl (by decide +kernel) rfl rfl (Nat.le_of_ble_eq_true rfl) dX5_boardThrough_48 (fun H locs hw hS => ?_)
        have hw := hw.cast (Ep_ramp2 (by assumption))
        refine f_aload hx hb dX5_boardThrough_51 hl rfl ?_
        refine lv_iconst (v := 0) hx hb dX5_boardThrough_53 (by decide) ?_
        refine f_top (y := nI 0) rfl ?_
        refine q_ci (q_runV (C := RX4) (T := TX4) (N := 2) ⟨hx, hb, hml, hown, hts⟩ (c_X4_weightAt l (he_size (Ew_lane (s := inc zc 6 r) hj) hLn) (Ew_larr hj) (by decide) (nI 0)) (cwV 1 hts gX5_boardThrough_X4_weightAt rfl rfl rfl (by decide +kernel) ⟨Nat.le_of_ble_eq_true rfl, Nat.le_of_ble_eq_true rfl⟩) hK hw (Ew_lane (by assumption)) rfl rfl hl.1 rfl (by simp [Value.category, va_rf]) dX5_boardThrough_54 ⟨Nat.le_of_ble_eq_true rfl, Nat.le_of_ble_eq_true rfl⟩) hS (fun H locs hw hS => ?_)
        refine f_top (y := zc 11 j 0) (wAt_in (by omega) hL (by decide)) ?_
        refine f_istore hx hb dX5_boardThrough_57 hl (by decide) (fun ls hl => ?_)
        refine f_iload hx hb dX5_boardThrough_59 hl rfl ?_
        refine lv_if_ne (tgt := 86) hx hb dX5_boardThrough_61 (by decide) (fun c61 => ?_) (fun c61 => ?_)
        · refine f_iload hx hb dX5_boardThrough_86 hl rfl ?_
          refine f_aload hx hb dX5_boardThrough_88 hl rfl ?_
          refine e_get (C := RX3) (T := TX3) (N := 4) hx hb hts i3 hown hK hw (Ew_ramp (by assumption)) rfl 1 (by decide) (hts (.fieldLink RX5 122 "FerryQuay$Ramp" "limit" "I") (by decide +kernel)) rfl dX5_boardThrough_90 ?_
          refine lv_icmp_le (tgt := 111) hx hb dX5_boardThrough_93 (by decide) (fun c93 => ?_) (fun c93 => ?_)
          · refine f_aload_n hx hb dX5_boardThrough_111 hl 2 rfl rfl ?_
            refine e_get (C := RX0) (T := TX0) (N := 4) hx hb hts i0 hown hK hw (Ew_berth (by assumption)) rfl 1 (by decide) (hts (.fieldLink RX5 125 "FerryQuay$Berth" "ferry" "LFerryQuay$Ferry;") (by decide +kernel)) rfl dX5_boardThrough_112 ?_
            refine f_val (congrArg (fun q => Value.ref (ad 6 q)) hFt) ?_
            refine f_iload hx hb dX5_boardThrough_115 hl rfl ?_
            refine q_ci (q_runV (C := RX1) (T := TX1) (N := 3) ⟨hx, hb, hml, hown, hts⟩ (c_X1_hasRoomFor l (Ew_ferry hf) (he_size (Ew_frow (s := inc zc 6 r) hf) hDn) (Ew_farr hf) (by decide) (zc 11 j 0) hD) (cwV 1 hts gX5_boardThrough_X1_hasRoomFor rfl rfl rfl (by decide +kernel) ⟨Nat.le_of_ble_eq_true rfl, Nat.le_of_ble_eq_true rfl⟩) hK hw (Ew_ferry (by assumption)) rfl rfl hl.1 rfl (by simp [Value.category, va_rf]) dX5_boardThrough_117 ⟨Nat.le_of_ble_eq_true rfl, Nat.le_of_ble_eq_true rfl⟩) hS (fun H locs hw hS => ?_)
            by_cases hq : dk zc f = 40
            · refine f_top (y := 0) (if_neg (by omega)) ?_
              refine lv_if_ne (tgt := 126) hx hb dX5_boardThrough_120 (by decide) (fun c120 => absurd (by decide) c120) (fun c120 => ?_)
              refine f_iload hx hb dX5_boardThrough_123 hl rfl ?_
              exact q_isp hx hb hr hlk hK hw hS dX5_boardThrough_125 (hsp.symm.trans (by rw [bl, hRt, hFt]; exact (Eq.trans (if_neg (notm1 hR (by omega))) (Eq.trans (if_neg c61) (Eq.trans (if_neg (Int32.not_lt.mpr c93)) (if_pos hq))))))
            · by_cases hq2 : sc zc 12 f < sc zc 13 f + zc 11 j 0
              · refine f_top (y := 0) (Eq.trans (if_pos (by omega)) (if_pos hq2)) ?_
                refine lv_if_ne (tgt := 126) hx hb dX5_boardThrough_120 (by decide) (fun c120 => absurd (by decide) c120) (fun c120 => ?_)
                refine f_iload hx hb dX5_boardThrough_123 hl rfl ?_
                exact q_isp hx hb hr hlk hK hw hS dX5_boardThrough_125 (hsp.symm.trans (by rw [bl, hRt, hFt]; exact (Eq.trans (if_neg (notm1 hR (by omega))) (Eq.trans (if_neg c61) (Eq.trans (if_neg (Int32.not_lt.mpr c93)) (Eq.trans (if_neg hq) (if_pos hq2)))))))
              · refine f_top (y := 1) (Eq.trans (if_pos (by omega)) (if_neg hq2)) ?_
                refine lv_if_ne (tgt := 126) hx hb dX5_boardThrough_120 (by decide) (fun c120 => ?_) (fun c120 => absurd c120 (by decide))
                refine f_aload hx hb dX5_boardThrough_126 hl rfl ?_
                refine q_cv (q_runV (C := RX4) (T := TX4) (N := 2) ⟨hx, hb, hml, hown, hts⟩ (c_X4_removeFirst l (he_size (Ew_lane (s := inc zc 6 r) hj) hLn) (Ew_larr hj) (by decide) (by omega) hL) (cwV 0 hts gX5_boardThrough_X4_removeFirst rfl rfl rfl (by decide +kernel) ⟨Nat.le_of_ble_eq_true rfl, Nat.le_of_ble_eq_true rfl⟩) hK hw (Ew_lane (by assumption)) rfl rfl hl.1 rfl (by simp [Value.category, va_rf]) dX5_boardThrough_128 ⟨Nat.le_of_ble_eq_true rfl, Nat.le_of_ble_eq_true rfl⟩) hS (fun H locs hw hS => ?_)
                have hw := hw.cast (Ep_goes hj rfl)
                refine f_aload_n hx hb dX5_boardThrough_131 hl 2 rfl rfl ?_
                refine e_get (C := RX0) (T := TX0) (N := 4) hx hb hts i0 hown hK hw (Ew_berth (by assumption)) rfl 1 (by decide) (hts (.fieldLink RX5 125 "FerryQuay$Berth" "ferry" "LFerryQuay$Ferry;") (by decide +kernel)) rfl dX5_boardThrough_132 ?_
                refine f_val (congrArg (fun q => Value.ref (ad 6 q)) hFt) ?_
                refine f_iload hx hb dX5_boardThrough_135 hl rfl ?_
                refine q_cv (q_runV (C := RX1) (T := TX1) (N := 3) ⟨hx, hb, hml, hown, hts⟩ (c_X1_takeAboard l (Ew_ferry hf) (he_size (Ew_frow (s := goes (inc zc 6 r) j) hf) hDn) (Ew_farr hf) (by decide) (zc 11 j 0) (by omega)) (cwV 1 hts gX5_boardThrough_X1_takeAboard rfl rfl rfl (by decide +kernel) ⟨Nat.le_of_ble_eq_true rfl, Nat.le_of_ble_eq_true rfl⟩) hK hw (Ew_ferry (by assumption)) rfl rfl hl.1 rfl (by simp [Value.category, va_rf]) dX5_boardThrough_137 ⟨Nat.le_of_ble_eq_true rfl, Nat.le_of_ble_eq_true rfl⟩) hS (fun H locs hw hS => ?_)
                have hw := hw.cast (Ep_brd hf rfl)
                refine f_aload_n hx hb dX5_boardThrough_140 hl 1 rfl rfl ?_
                refine lv_dup hx hb dX5_boardThrough_141 rfl ?_
                refine e_get (C := RX2) (T := TX2) (N := 4) hx hb hts i2 hown hK hw (Ew_gate (by assumption)) rfl 3 (by decide) (hts (.fieldLink RX5 138 "FerryQuay$Gate" "passed" "I") (by decide +kernel)) rfl dX5_boardThrough_142 ?_
                refine lv_iconst (v := 1) hx hb dX5_boardThrough_145 (by decide) ?_
                refine lv_iadd hx hb dX5_boardThrough_146 ?_
                refine e_put (C := RX2) (T := TX2) (N := 4) (ty := .int) hx hb hts i2 tyX2 tyX2_ok nmX2 hown hK hw hS (Ew_gate (by assumption)) rfl 3 (by decide) (hts (.fieldLink RX5 138 "FerryQuay$Gate" "passed" "I") (by decide +kernel)) rfl (by decide +kernel) rfl rfl (Nat.le_of_ble_eq_true rfl) dX5_boardThrough_147 (fun H locs hw hS => ?_)
                have hw := hw.cast (Ep_gate3 (by assumption))
                refine f_aload hx hb dX5_boardThrough_150 hl rfl ?_
                refine lv_dup hx hb dX5_boardThrough_152 rfl ?_
                refine e_get (C := RX3) (T := TX3) (N := 4) hx hb hts i3 hown hK hw (Ew_ramp (by assumption)) rfl 3 (by decide) (hts (.fieldLink RX5 141 "FerryQuay$Ramp" "wear" "I") (by decide +kernel)) rfl dX5_boardThrough_153 ?_
                refine f_iload hx hb dX5_boardThrough_156 hl rfl ?_
                refine lv_iadd hx hb dX5_boardThrough_158 ?_
                refine e_put (C := RX3) (T := TX3) (N := 4) (ty := .int) hx hb hts i3 tyX3 tyX3_ok nmX3 hown hK hw hS (Ew_ramp (by assumption)) rfl 3 (by decide) (hts (.fieldLink RX5 141 "FerryQuay$Ramp" "wear" "I") (by decide +kernel)) rfl (by decide +kernel) rfl rfl (Nat.le_of_ble_eq_true rfl) dX5_boardThrough_159 (fun H locs hw hS => ?_)
                have hw := hw.cast (Ep_ramp3 (by assumption))
                refine f_iinc (d := 1) hx hb dX5_boardThrough_162 hl rfl (by decide) (by decide) (fun ls hl => ?_)
                refine f_iload hx hb dX5_boardThrough_165 hl rfl ?_
                refine f_iload_n hx hb dX5_boardThrough_167 hl 3 rfl rfl ?_
                refine lv_icmp_ne (tgt := 174) hx hb dX5_boardThrough_168 (by decide) (fun c168 => ?_) (fun c168 => ?_)
                · refine f_iinc (d := 1) hx hb dX5_boardThrough_174 hl rfl (by decide) (by decide) (fun ls hl => ?_)
                  rw [nI_1] at hl
                  refine lv_goto (tgt := 25) hx hb dX5_boardThrough_177 (by decide) ?_
                  exact ih (w + 1) (k + 1) _ _ _ _ (((((hI.p6 hr2).gs hj).bd hf (by show dk zc f < 40; omega)).p3 hg).p5 hr2) (by show t ≤ ln (goes (inc zc 6 r) j) j; rw [lg]; omega) (by omega) hR (Eq.trans (Eq.symm (by rw [bl, hRt, hFt]; exact (Eq.trans (if_neg (notm1 hR (by omega))) (Eq.trans (if_neg c61) (Eq.trans (if_neg (Int32.not_lt.mpr c93)) (Eq.trans (if_neg hq) (Eq.trans (if_neg hq2) (if_neg c168)))))))) hsp) hw hS (hl.list [(0, .ref (ad 0 0)), (1, .ref (ad 1 g)), (2, .ref (ad 3 j)), (3, .int n), (4, .ref (ad 4 j)), (5, .ref (ad 2 r)), (6, .int (nI (ln z j))), (7, .int (w + 1)), (8, .int (nI (k + 1)))] (List.forall_mem_cons.mpr ⟨rfl, List.forall_mem_cons.mpr ⟨rfl, List.forall_mem_cons.mpr ⟨rfl, List.forall_mem_cons.mpr ⟨rfl, List.forall_mem_cons.mpr ⟨rfl, List.forall_mem_cons.mpr ⟨rfl, List.forall_mem_cons.mpr ⟨rfl, List.forall_mem_cons.mpr ⟨rfl, List.forall_mem_cons.mpr ⟨rfl, fun _ h => absurd h List.not_mem_nil⟩⟩⟩⟩⟩⟩⟩⟩⟩))
                · refine f_iload hx hb dX5_boardThrough_171 hl rfl ?_
                  exact q_isp hx hb hr hlk hK hw hS dX5_boardThrough_173 (hsp.symm.trans (by rw [bl, hRt, hFt]; exact (Eq.trans (if_neg (notm1 hR (by omega))) (Eq.trans (if_neg c61) (Eq.trans (if_neg (Int32.not_lt.mpr c93)) (Eq.trans (if_neg hq) (Eq.trans (if_neg hq2) (if_pos c168))))))))
          · refine f_aload hx hb dX5_boardThrough_96 hl rfl ?_
            refine q_cv (q_runV (C := RX4) (T := TX4) (N := 2) ⟨hx, hb, hml, hown, hts⟩ (c_X4_removeFirst l (he_size (Ew_lane (s := inc zc 6 r) hj) hLn) (Ew_larr hj) (by decide) (by omega) hL) (cwV 0 hts gX5_boardThrough_X4_removeFirst rfl rfl rfl (by decide +kernel) ⟨Nat.le_of_ble_eq_true rfl, Nat.le_of_ble_eq_true rfl⟩) hK hw (Ew_lane (by assumption)) rfl rfl hl.1 rfl (by simp [Value.category, va_rf]) dX5_boardThrough_98 ⟨Nat.le_of_ble_eq_true rfl, Nat.le_of_ble_eq_true rfl⟩) hS (fun H locs hw hS => ?_)
            have hw := hw.cast (Ep_goes hj rfl)
            refine f_aload hx hb dX5_boardThrough_101 hl rfl ?_
            refine f_iload hx hb dX5_boardThrough_103 hl rfl ?_
            refine q_cv (q_runV (C := RX4) (T := TX4) (N := 2) ⟨hx, hb, hml, hown, hts⟩ (c_X4_addLast l (he_size (Ew_lane (s := goes (inc zc 6 r) j) hj) (sc_s (s := inc zc 6 r) (k := 10) (i := j) (v := nI (ln zc j - 1)))) (Ew_larr hj) (by decide) (zc 11 j 0) (by omega)) (cwV 1 hts gX5_boardThrough_X4_addLast rfl rfl rfl (by decide +kernel) ⟨Nat.le_of_ble_eq_true rfl, Nat.le_of_ble_eq_true rfl⟩) hK hw (Ew_lane (by assumption)) rfl rfl hl.1 rfl (by simp [Value.category, va_rf]) dX5_boardThrough_105 ⟨Nat.le_of_ble_eq_true rfl, Nat.le_of_ble_eq_true rfl⟩) hS (fun H locs hw hS => ?_)
            have hw := hw.cast (Ep_comes hj (ln_goes (z := inc zc 6 r) (by show ln zc j < 2 ^ 31; omega)))
            refine lv_goto (tgt := 174) hx hb dX5_boardThrough_108 (by decide) ?_
            refine f_iinc (d := 1) hx hb dX5_boardThrough_174 hl rfl (by decide) (by decide) (fun ls hl => ?_)
            rw [nI_1] at hl
            refine lv_goto (tgt := 25) hx hb dX5_boardThrough_177 (by decide) ?_
            exact ih w (k + 1) _ _ _ _ (((hI.p6 hr2).gs hj).cm hj (by rw [lg]; omega)) (by rw [lc]; omega) (by omega) hR (Eq.trans (Eq.symm (by rw [bl, hRt]; exact (Eq.trans (if_neg (notm1 hR (by omega))) (Eq.trans (if_neg c61) (if_pos (Int32.not_le.mp c93)))))) hsp) hw hS (hl.list [(0, .ref (ad 0 0)), (1, .ref (ad 1 g)), (2, .ref (ad 3 j)), (3, .int n), (4, .ref (ad 4 j)), (5, .ref (ad 2 r)), (6, .int (nI (ln z j))), (7, .int w), (8, .int (nI (k + 1)))] (List.forall_mem_cons.mpr ⟨rfl, List.forall_mem_cons.mpr ⟨rfl, List.forall_mem_cons.mpr ⟨rfl, List.forall_mem_cons.mpr ⟨rfl, List.forall_mem_cons.mpr ⟨rfl, List.forall_mem_cons.mpr ⟨rfl, List.forall_mem_cons.mpr ⟨rfl, List.forall_mem_cons.mpr ⟨rfl, List.forall_mem_cons.mpr ⟨rfl, fun _ h => absurd h List.not_mem_nil⟩⟩⟩⟩⟩⟩⟩⟩⟩))
        · refine f_aload hx hb dX5_boardThrough_64 hl rfl ?_
          refine q_cv (q_runV (C := RX4) (T := TX4) (N := 2) ⟨hx, hb, hml, hown, hts⟩ (c_X4_removeFirst l (he_size (Ew_lane (s := inc zc 6 r) hj) hLn) (Ew_larr hj) (by decide) (by omega) hL) (cwV 0 hts gX5_boardThrough_X4_removeFirst rfl rfl rfl (by decide +kernel) ⟨Nat.le_of_ble_eq_true rfl, Nat.le_of_ble_eq_true rfl⟩) hK hw (Ew_lane (by assumption)) rfl rfl hl.1 rfl (by simp [Value.category, va_rf]) dX5_boardThrough_66 ⟨Nat.le_of_ble_eq_true rfl, Nat.le_of_ble_eq_true rfl⟩) hS (fun H locs hw hS => ?_)
          have hw := hw.cast (Ep_goes hj rfl)
          refine f_aload_n hx hb dX5_boardThrough_69 hl 0 rfl rfl ?_
          refine lv_dup hx hb dX5_boardThrough_70 rfl ?_
          refine e_get (C := RX5) (T := TX5) (N := 10) hx hb hts i5 hown hK hw Ew_fq rfl 8 (by decide) (hts (.fieldLink RX5 116 "FerryQuay" "towed" "I") (by decide +kernel)) rfl dX5_boardThrough_71 ?_
          refine lv_iconst (v := 1) hx hb dX5_boardThrough_74 (by decide) ?_
          refine lv_iadd hx hb dX5_boardThrough_75 ?_
          refine e_put (C := RX5) (T := TX5) (N := 10) (ty := .int) hx hb hts i5 tyX5 tyX5_ok nmX5 hown hK hw hS Ew_fq rfl 8 (by decide) (hts (.fieldLink RX5 116 "FerryQuay" "towed" "I") (by decide +kernel)) rfl (by decide +kernel) rfl rfl (Nat.le_of_ble_eq_true rfl) dX5_boardThrough_76 (fun H locs hw hS => ?_)
          have hw := hw.cast Ep_fq5
          refine f_aload_n hx hb dX5_boardThrough_79 hl 0 rfl rfl ?_
          refine lv_bipush (v := (-6)) hx hb dX5_boardThrough_80 (by decide) ?_
          refine q_ci (q_runV (C := RX5) (T := TX5) (N := 10) ⟨hx, hb, hml, hown, hts⟩ (c_X5_alarm l (((hI.p6 hr2).gs hj).t5) (-6)) (cwV 1 hts gX5_boardThrough_X5_alarm rfl rfl rfl (by decide +kernel) ⟨Nat.le_of_ble_eq_true rfl, Nat.le_of_ble_eq_true rfl⟩) hK hw Ew_fq rfl rfl hl.1 rfl (by simp [Value.category, va_rf]) dX5_boardThrough_82 ⟨Nat.le_of_ble_eq_true rfl, Nat.le_of_ble_eq_true rfl⟩) hS (fun H locs hw hS => ?_)
          exact q_isp hx hb hr hlk hK hw hS dX5_boardThrough_85 (hsp.symm.trans (by rw [bl, hRt]; exact (Eq.trans (if_neg (notm1 hR (by omega))) (if_pos c61))))
    exact loop (ln z j) 0 0 z _ _ _ hI (Nat.le_refl _) (by omega) hR rfl hw hS (hl.list [(0, .ref (ad 0 0)), (1, .ref (ad 1 g)), (2, .ref (ad 3 j)), (3, .int n), (4, .ref (ad 4 j)), (5, .ref (ad 2 r)), (6, .int (nI (ln z j))), (7, .int 0), (8, .int (nI 0))] (List.forall_mem_cons.mpr ⟨rfl, List.forall_mem_cons.mpr ⟨rfl, List.forall_mem_cons.mpr ⟨rfl, List.forall_mem_cons.mpr ⟨rfl, List.forall_mem_cons.mpr ⟨rfl, List.forall_mem_cons.mpr ⟨rfl, List.forall_mem_cons.mpr ⟨rfl, List.forall_mem_cons.mpr ⟨rfl, List.forall_mem_cons.mpr ⟨rfl, fun _ h => absurd h List.not_mem_nil⟩⟩⟩⟩⟩⟩⟩⟩⟩))
