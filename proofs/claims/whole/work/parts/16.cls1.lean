set_option maxHeartbeats 4000000 in
set_option maxRecDepth 100000 in
theorem c_X5_isWithin (l : Launch) {G : va_G} {Y : YT} {lo : Nat} {ad : Nat → Nat → Nat} {E : Nat → Nat → Option va_E} (x y t : Int32) : Met l yX5_isWithin wsX5_isWithin ({ frames := 0, cells := 0, slots := 0, locals := 0 }) (va_Pc [.int x, .int y, .int t] (cS G (tysY Y) lo E ad)) (QI G (tysY Y) lo (if x < y then 0 else if t < x then 0 else 1) E ad) 0 0 (fun q => lo ≤ q) := by
  refine met_of (cc := cX5_isWithin) (maxL := 3) (ret := (some .boolean)) (by decide) rfl (Nat.le_of_ble_eq_true rfl) rfl ?_
  intro p e s m below meth c ls hx hb hr hlk hml hts hown hnm hw hK hl hS
  refine f_iload_n hx hb dX5_isWithin_0 hl 0 rfl rfl ?_
  refine f_iload_n hx hb dX5_isWithin_1 hl 1 rfl rfl ?_
  refine lv_icmp_lt (tgt := 14) hx hb dX5_isWithin_2 (by decide) (fun c2 => ?_) (fun c2 => ?_)
  · refine lv_iconst (v := 0) hx hb dX5_isWithin_14 (by decide) ?_
    exact q_zret hx hb hr hlk hK hw hS dX5_isWithin_15 rfl (by simp [c2]) rfl
  · refine f_iload_n hx hb dX5_isWithin_5 hl 0 rfl rfl ?_
    refine f_iload_n hx hb dX5_isWithin_6 hl 2 rfl rfl ?_
    refine lv_icmp_gt (tgt := 14) hx hb dX5_isWithin_7 (by decide) (fun c7 => ?_) (fun c7 => ?_)
    · refine lv_iconst (v := 0) hx hb dX5_isWithin_14 (by decide) ?_
      exact q_zret hx hb hr hlk hK hw hS dX5_isWithin_15 rfl (by simp [c2, c7]) rfl
    · refine lv_iconst (v := 1) hx hb dX5_isWithin_10 (by decide) ?_
      refine lv_goto (tgt := 15) hx hb dX5_isWithin_11 (by decide) ?_
      exact q_zret hx hb hr hlk hK hw hS dX5_isWithin_15 rfl (by simp [c2, c7]) rfl
set_option maxHeartbeats 4000000 in
set_option maxRecDepth 100000 in
theorem c_X5_alarm (l : Launch) {G : va_G} {Y : YT} {lo : Nat} {ad : Nat → Nat → Nat} {ng nr nb : Nat} {z u : St} (hI : Inv z ng nr nb) (x : Int32) : Met l yX5_alarm wsX5_alarm ({ frames := 0, cells := 0, slots := 0, locals := 0 }) (va_Pc [.ref (ad 0 0), .int x] (cS G (tysY Y) lo (Ew Y ng nr nb z u ad) ad)) (QI G (tysY Y) lo x (Ew Y ng nr nb (inc z 0 6) u ad) ad) 0 0 (fun q => lo ≤ q) := by
  refine met_of (cc := cX5_alarm) (maxL := 2) (ret := (some .int)) (by decide) rfl (Nat.le_of_ble_eq_true rfl) rfl ?_
  intro p e s m below meth c ls hx hb hr hlk hml hts hown hnm hw hK hl hS
  have i5 : ∀ w ∈ wsX50, w ∈ wsX5_alarm := by decide +kernel
  have hng := hI.mg
  have hnr := hI.mr
  have hnb := hI.mb
  refine f_aload_n hx hb dX5_alarm_0 hl 0 rfl rfl ?_
  refine lv_dup hx hb dX5_alarm_1 rfl ?_
  refine e_get (C := RX5) (T := TX5) (N := 10) hx hb hts i5 hown hK hw Ew_fq rfl 9 (by decide) (hts (.fieldLink RX5 170 "FerryQuay" "alarms" "I") (by decide +kernel)) rfl dX5_alarm_2 ?_
  refine lv_iconst (v := 1) hx hb dX5_alarm_5 (by decide) ?_
  refine lv_iadd hx hb dX5_alarm_6 ?_
  refine e_put (C := RX5) (T := TX5) (N := 10) (ty := .int) hx hb hts i5 tyX5 tyX5_ok nmX5 hown hK hw hS Ew_fq rfl 9 (by decide) (hts (.fieldLink RX5 170 "FerryQuay" "alarms" "I") (by decide +kernel)) rfl (by decide +kernel) rfl rfl (Nat.le_of_ble_eq_true rfl) dX5_alarm_7 (fun H locs hw hS => ?_)
  have hw := hw.cast Ep_fq6
  refine f_iload_n hx hb dX5_alarm_10 hl 1 rfl rfl ?_
  exact q_iret hx hb hr hlk hK hw hS dX5_alarm_11 rfl rfl
set_option maxHeartbeats 4000000 in
set_option maxRecDepth 100000 in
theorem c_X5_gateAt (l : Launch) {G : va_G} {Y : YT} {lo : Nat} {ad : Nat → Nat → Nat} {ng nr nb : Nat} {z u : St} (hI : Inv z ng nr nb) (x : Int32) : Met l yX5_gateAt wsX5_gateAt ({ frames := 0, cells := 0, slots := 0, locals := 0 }) (va_Pc [.ref (ad 0 0), .int x] (cS G (tysY Y) lo (Ew Y ng nr nb z u ad) ad)) (QQ G (tysY Y) lo ((ix x ng).map (ad 1)) (Ew Y ng nr nb z u ad) ad) 0 0 (fun q => lo ≤ q) := by
  refine met_of (cc := cX5_gateAt) (maxL := 2) (ret := (some (.object "FerryQuay$Gate"))) (by decide) rfl (Nat.le_of_ble_eq_true rfl) rfl ?_
  intro p e s m below meth c ls hx hb hr hlk hml hts hown hnm hw hK hl hS
  have i5 : ∀ w ∈ wsX50, w ∈ wsX5_gateAt := by decide +kernel
  have hng := hI.mg
  have hnr := hI.mr
  have hnb := hI.mb
  rcases ix_cases x hI.ng2 with ⟨hix, hbad⟩ | ⟨j, hj, rfl, hix⟩
  · refine f_iload_n hx hb dX5_gateAt_0 hl 1 rfl rfl ?_
    refine lv_if_lt (tgt := 30) hx hb dX5_gateAt_1 (by decide) (fun c1 => ?_) (fun c1 => ?_)
    · refine lv_null hx hb dX5_gateAt_30 ?_
      exact q_aret (v := none) hx hb hr hlk hK hw hS dX5_gateAt_31 (by rw [hix]; rfl) rfl
    · refine f_iload_n hx hb dX5_gateAt_4 hl 1 rfl rfl ?_
      refine f_aload_n hx hb dX5_gateAt_5 hl 0 rfl rfl ?_
      refine e_get (C := RX5) (T := TX5) (N := 10) hx hb hts i5 hown hK hw Ew_fq rfl 3 (by decide) (hts (.fieldLink RX5 27 "FerryQuay" "gateCount" "I") (by decide +kernel)) rfl dX5_gateAt_6 ?_
      refine f_top hI.s0 ?_
      refine lv_icmp_ge (tgt := 30) hx hb dX5_gateAt_9 (by decide) (fun c9 => ?_) (fun c9 => absurd (hbad.resolve_left c1) c9)
      refine lv_null hx hb dX5_gateAt_30 ?_
      exact q_aret (v := none) hx hb hr hlk hK hw hS dX5_gateAt_31 (by rw [hix]; rfl) rfl
  · refine f_iload_n hx hb dX5_gateAt_0 hl 1 rfl rfl ?_
    refine lv_if_lt (tgt := 30) hx hb dX5_gateAt_1 (by decide) (fun c1 => absurd c1 (nI_pos (by omega))) (fun c1 => ?_)
    refine f_iload_n hx hb dX5_gateAt_4 hl 1 rfl rfl ?_
    refine f_aload_n hx hb dX5_gateAt_5 hl 0 rfl rfl ?_
    refine e_get (C := RX5) (T := TX5) (N := 10) hx hb hts i5 hown hK hw Ew_fq rfl 3 (by decide) (hts (.fieldLink RX5 27 "FerryQuay" "gateCount" "I") (by decide +kernel)) rfl dX5_gateAt_6 ?_
    refine f_top hI.s0 ?_
    refine lv_icmp_ge (tgt := 30) hx hb dX5_gateAt_9 (by decide) (fun c9 => absurd c9 (nI_ge hj hI.ng2)) (fun c9 => ?_)
    refine f_iload_n hx hb dX5_gateAt_12 hl 1 rfl rfl ?_
    refine f_aload_n hx hb dX5_gateAt_13 hl 0 rfl rfl ?_
    refine e_get (C := RX5) (T := TX5) (N := 10) hx hb hts i5 hown hK hw Ew_fq rfl 0 (by decide) (hts (.fieldLink RX5 11 "FerryQuay" "gates" "[LFerryQuay$Gate;") (by decide +kernel)) rfl dX5_gateAt_14 ?_
    refine e_alen (v := nI 16) hx hb hK hw 2 Ew_ga rfl rfl dX5_gateAt_17 ?_
    refine lv_icmp_ge (tgt := 30) hx hb dX5_gateAt_18 (by decide) (fun c18 => absurd c18 (nI_ge (by omega) (by decide))) (fun c18 => ?_)
    refine f_aload_n hx hb dX5_gateAt_21 hl 0 rfl rfl ?_
    refine e_get (C := RX5) (T := TX5) (N := 10) hx hb hts i5 hown hK hw Ew_fq rfl 0 (by decide) (hts (.fieldLink RX5 11 "FerryQuay" "gates" "[LFerryQuay$Gate;") (by decide +kernel)) rfl dX5_gateAt_22 ?_
    refine f_iload_n hx hb dX5_gateAt_25 hl 1 rfl rfl ?_
    refine e_aaldN (r := some (ad 1 j)) hx hb hK hw 2 Ew_ga rfl rfl (by omega) (by decide) (if_pos hj) dX5_gateAt_26 ?_
    refine lv_goto (tgt := 31) hx hb dX5_gateAt_27 (by decide) ?_
    exact q_aret (v := some (ad 1 j)) hx hb hr hlk hK hw hS dX5_gateAt_31 (by rw [hix]; rfl) rfl
set_option maxHeartbeats 4000000 in
set_option maxRecDepth 100000 in
theorem c_X5_rampAt (l : Launch) {G : va_G} {Y : YT} {lo : Nat} {ad : Nat → Nat → Nat} {ng nr nb : Nat} {z u : St} (hI : Inv z ng nr nb) (x : Int32) : Met l yX5_rampAt wsX5_rampAt ({ frames := 0, cells := 0, slots := 0, locals := 0 }) (va_Pc [.ref (ad 0 0), .int x] (cS G (tysY Y) lo (Ew Y ng nr nb z u ad) ad)) (QQ G (tysY Y) lo ((ix x nr).map (ad 2)) (Ew Y ng nr nb z u ad) ad) 0 0 (fun q => lo ≤ q) := by
  refine met_of (cc := cX5_rampAt) (maxL := 2) (ret := (some (.object "FerryQuay$Ramp"))) (by decide) rfl (Nat.le_of_ble_eq_true rfl) rfl ?_
  intro p e s m below meth c ls hx hb hr hlk hml hts hown hnm hw hK hl hS
  have i5 : ∀ w ∈ wsX50, w ∈ wsX5_rampAt := by decide +kernel
  have hng := hI.mg
  have hnr := hI.mr
  have hnb := hI.mb
  rcases ix_cases x hI.nr2 with ⟨hix, hbad⟩ | ⟨j, hj, rfl, hix⟩
  · refine f_iload_n hx hb dX5_rampAt_0 hl 1 rfl rfl ?_
    refine lv_if_lt (tgt := 30) hx hb dX5_rampAt_1 (by decide) (fun c1 => ?_) (fun c1 => ?_)
    · refine lv_null hx hb dX5_rampAt_30 ?_
      exact q_aret (v := none) hx hb hr hlk hK hw hS dX5_rampAt_31 (by rw [hix]; rfl) rfl
    · refine f_iload_n hx hb dX5_rampAt_4 hl 1 rfl rfl ?_
      refine f_aload_n hx hb dX5_rampAt_5 hl 0 rfl rfl ?_
      refine e_get (C := RX5) (T := TX5) (N := 10) hx hb hts i5 hown hK hw Ew_fq rfl 4 (by decide) (hts (.fieldLink RX5 38 "FerryQuay" "rampCount" "I") (by decide +kernel)) rfl dX5_rampAt_6 ?_
      refine f_top hI.s1 ?_
      refine lv_icmp_ge (tgt := 30) hx hb dX5_rampAt_9 (by decide) (fun c9 => ?_) (fun c9 => absurd (hbad.resolve_left c1) c9)
      refine lv_null hx hb dX5_rampAt_30 ?_
      exact q_aret (v := none) hx hb hr hlk hK hw hS dX5_rampAt_31 (by rw [hix]; rfl) rfl
  · refine f_iload_n hx hb dX5_rampAt_0 hl 1 rfl rfl ?_
    refine lv_if_lt (tgt := 30) hx hb dX5_rampAt_1 (by decide) (fun c1 => absurd c1 (nI_pos (by omega))) (fun c1 => ?_)
    refine f_iload_n hx hb dX5_rampAt_4 hl 1 rfl rfl ?_
    refine f_aload_n hx hb dX5_rampAt_5 hl 0 rfl rfl ?_
    refine e_get (C := RX5) (T := TX5) (N := 10) hx hb hts i5 hown hK hw Ew_fq rfl 4 (by decide) (hts (.fieldLink RX5 38 "FerryQuay" "rampCount" "I") (by decide +kernel)) rfl dX5_rampAt_6 ?_
    refine f_top hI.s1 ?_
    refine lv_icmp_ge (tgt := 30) hx hb dX5_rampAt_9 (by decide) (fun c9 => absurd c9 (nI_ge hj hI.nr2)) (fun c9 => ?_)
    refine f_iload_n hx hb dX5_rampAt_12 hl 1 rfl rfl ?_
    refine f_aload_n hx hb dX5_rampAt_13 hl 0 rfl rfl ?_
    refine e_get (C := RX5) (T := TX5) (N := 10) hx hb hts i5 hown hK hw Ew_fq rfl 1 (by decide) (hts (.fieldLink RX5 17 "FerryQuay" "ramps" "[LFerryQuay$Ramp;") (by decide +kernel)) rfl dX5_rampAt_14 ?_
    refine e_alen (v := nI 16) hx hb hK hw 3 Ew_ra rfl rfl dX5_rampAt_17 ?_
    refine lv_icmp_ge (tgt := 30) hx hb dX5_rampAt_18 (by decide) (fun c18 => absurd c18 (nI_ge (by omega) (by decide))) (fun c18 => ?_)
    refine f_aload_n hx hb dX5_rampAt_21 hl 0 rfl rfl ?_
    refine e_get (C := RX5) (T := TX5) (N := 10) hx hb hts i5 hown hK hw Ew_fq rfl 1 (by decide) (hts (.fieldLink RX5 17 "FerryQuay" "ramps" "[LFerryQuay$Ramp;") (by decide +kernel)) rfl dX5_rampAt_22 ?_
    refine f_iload_n hx hb dX5_rampAt_25 hl 1 rfl rfl ?_
    refine e_aaldN (r := some (ad 2 j)) hx hb hK hw 3 Ew_ra rfl rfl (by omega) (by decide) (if_pos hj) dX5_rampAt_26 ?_
    refine lv_goto (tgt := 31) hx hb dX5_rampAt_27 (by decide) ?_
    exact q_aret (v := some (ad 2 j)) hx hb hr hlk hK hw hS dX5_rampAt_31 (by rw [hix]; rfl) rfl
set_option maxHeartbeats 4000000 in
set_option maxRecDepth 100000 in
theorem c_X5_berthAt (l : Launch) {G : va_G} {Y : YT} {lo : Nat} {ad : Nat → Nat → Nat} {ng nr nb : Nat} {z u : St} (hI : Inv z ng nr nb) (x : Int32) : Met l yX5_berthAt wsX5_berthAt ({ frames := 0, cells := 0, slots := 0, locals := 0 }) (va_Pc [.ref (ad 0 0), .int x] (cS G (tysY Y) lo (Ew Y ng nr nb z u ad) ad)) (QQ G (tysY Y) lo ((ix x nb).map (ad 3)) (Ew Y ng nr nb z u ad) ad) 0 0 (fun q => lo ≤ q) := by
  refine met_of (cc := cX5_berthAt) (maxL := 2) (ret := (some (.object "FerryQuay$Berth"))) (by decide) rfl (Nat.le_of_ble_eq_true rfl) rfl ?_
  intro p e s m below meth c ls hx hb hr hlk hml hts hown hnm hw hK hl hS
  have i5 : ∀ w ∈ wsX50, w ∈ wsX5_berthAt := by decide +kernel
  have hng := hI.mg
  have hnr := hI.mr
  have hnb := hI.mb
  rcases ix_cases x hI.nb2 with ⟨hix, hbad⟩ | ⟨j, hj, rfl, hix⟩
  · refine f_iload_n hx hb dX5_berthAt_0 hl 1 rfl rfl ?_
    refine lv_if_lt (tgt := 30) hx hb dX5_berthAt_1 (by decide) (fun c1 => ?_) (fun c1 => ?_)
    · refine lv_null hx hb dX5_berthAt_30 ?_
      exact q_aret (v := none) hx hb hr hlk hK hw hS dX5_berthAt_31 (by rw [hix]; rfl) rfl
    · refine f_iload_n hx hb dX5_berthAt_4 hl 1 rfl rfl ?_
      refine f_aload_n hx hb dX5_berthAt_5 hl 0 rfl rfl ?_
      refine e_get (C := RX5) (T := TX5) (N := 10) hx hb hts i5 hown hK hw Ew_fq rfl 5 (by decide) (hts (.fieldLink RX5 44 "FerryQuay" "berthCount" "I") (by decide +kernel)) rfl dX5_berthAt_6 ?_
      refine f_top hI.s2 ?_
      refine lv_icmp_ge (tgt := 30) hx hb dX5_berthAt_9 (by decide) (fun c9 => ?_) (fun c9 => absurd (hbad.resolve_left c1) c9)
      refine lv_null hx hb dX5_berthAt_30 ?_
      exact q_aret (v := none) hx hb hr hlk hK hw hS dX5_berthAt_31 (by rw [hix]; rfl) rfl
  · refine f_iload_n hx hb dX5_berthAt_0 hl 1 rfl rfl ?_
    refine lv_if_lt (tgt := 30) hx hb dX5_berthAt_1 (by decide) (fun c1 => absurd c1 (nI_pos (by omega))) (fun c1 => ?_)
    refine f_iload_n hx hb dX5_berthAt_4 hl 1 rfl rfl ?_
    refine f_aload_n hx hb dX5_berthAt_5 hl 0 rfl rfl ?_
    refine e_get (C := RX5) (T := TX5) (N := 10) hx hb hts i5 hown hK hw Ew_fq rfl 5 (by decide) (hts (.fieldLink RX5 44 "FerryQuay" "berthCount" "I") (by decide +kernel)) rfl dX5_berthAt_6 ?_
    refine f_top hI.s2 ?_
    refine lv_icmp_ge (tgt := 30) hx hb dX5_berthAt_9 (by decide) (fun c9 => absurd c9 (nI_ge hj hI.nb2)) (fun c9 => ?_)
    refine f_iload_n hx hb dX5_berthAt_12 hl 1 rfl rfl ?_
    refine f_aload_n hx hb dX5_berthAt_13 hl 0 rfl rfl ?_
    refine e_get (C := RX5) (T := TX5) (N := 10) hx hb hts i5 hown hK hw Ew_fq rfl 2 (by decide) (hts (.fieldLink RX5 23 "FerryQuay" "berths" "[LFerryQuay$Berth;") (by decide +kernel)) rfl dX5_berthAt_14 ?_
    refine e_alen (v := nI 8) hx hb hK hw 4 Ew_ba rfl rfl dX5_berthAt_17 ?_
    refine lv_icmp_ge (tgt := 30) hx hb dX5_berthAt_18 (by decide) (fun c18 => absurd c18 (nI_ge (by omega) (by decide))) (fun c18 => ?_)
    refine f_aload_n hx hb dX5_berthAt_21 hl 0 rfl rfl ?_
    refine e_get (C := RX5) (T := TX5) (N := 10) hx hb hts i5 hown hK hw Ew_fq rfl 2 (by decide) (hts (.fieldLink RX5 23 "FerryQuay" "berths" "[LFerryQuay$Berth;") (by decide +kernel)) rfl dX5_berthAt_22 ?_
    refine f_iload_n hx hb dX5_berthAt_25 hl 1 rfl rfl ?_
    refine e_aaldN (r := some (ad 3 j)) hx hb hK hw 4 Ew_ba rfl rfl (by omega) (by decide) (if_pos hj) dX5_berthAt_26 ?_
    refine lv_goto (tgt := 31) hx hb dX5_berthAt_27 (by decide) ?_
    exact q_aret (v := some (ad 3 j)) hx hb hr hlk hK hw hS dX5_berthAt_31 (by rw [hix]; rfl) rfl
set_option maxHeartbeats 4000000 in
set_option maxRecDepth 100000 in
theorem c_X2_shutAsNumber (l : Launch) {G : va_G} {Y : YT} {lo : Nat} {ad : Nat → Nat → Nat} {ng nr nb : Nat} {z u : St} (hI : Inv z ng nr nb) {j : Nat} (hj : j < ng) : Met l yX2_shutAsNumber wsX2_shutAsNumber ({ frames := 0, cells := 0, slots := 0, locals := 0 }) (va_Pc [.ref (ad 1 j)] (cS G (tysY Y) lo (Ew Y ng nr nb z u ad) ad)) (QI G (tysY Y) lo (sc z 1 j) (Ew Y ng nr nb z u ad) ad) 0 0 (fun q => lo ≤ q) := by
  refine met_of (cc := cX2_shutAsNumber) (maxL := 1) (ret := (some .int)) (by decide) rfl (Nat.le_of_ble_eq_true rfl) rfl ?_
  intro p e s m below meth c ls hx hb hr hlk hml hts hown hnm hw hK hl hS
  have i2 : ∀ w ∈ wsX20, w ∈ wsX2_shutAsNumber := by decide +kernel
  have hng := hI.mg
  have hnr := hI.mr
  have hnb := hI.mb
  refine f_aload_n hx hb dX2_shutAsNumber_0 hl 0 rfl rfl ?_
  refine e_get (C := RX2) (T := TX2) (N := 4) hx hb hts i2 hown hK hw (Ew_gate (by assumption)) rfl 1 (by decide) (hts (.fieldLink RX2 13 "FerryQuay$Gate" "isShut" "Z") (by decide +kernel)) rfl dX2_shutAsNumber_1 ?_
  refine lv_if_eq (tgt := 11) hx hb dX2_shutAsNumber_4 (by decide) (fun c4 => ?_) (fun c4 => ?_)
  · refine lv_iconst (v := 0) hx hb dX2_shutAsNumber_11 (by decide) ?_
    exact q_iret hx hb hr hlk hK hw hS dX2_shutAsNumber_12 (by rcases hI.b1 j with hq | hq <;> first | exact hq.symm | exact absurd hq c4 | exact absurd (hq.symm.trans c4) (by decide)) rfl
  · refine lv_iconst (v := 1) hx hb dX2_shutAsNumber_7 (by decide) ?_
    refine lv_goto (tgt := 12) hx hb dX2_shutAsNumber_8 (by decide) ?_
    exact q_iret hx hb hr hlk hK hw hS dX2_shutAsNumber_12 (by rcases hI.b1 j with hq | hq <;> first | exact hq.symm | exact absurd hq c4 | exact absurd (hq.symm.trans c4) (by decide)) rfl
set_option maxHeartbeats 4000000 in
set_option maxRecDepth 100000 in
theorem c_X0_gateNumber (l : Launch) {G : va_G} {Y : YT} {lo : Nat} {ad : Nat → Nat → Nat} {ng nr nb : Nat} {z u : St} (hI : Inv z ng nr nb) {j : Nat} (hj : j < nb) : Met l yX0_gateNumber wsX0_gateNumber ({ frames := 0, cells := 0, slots := 0, locals := 0 }) (va_Pc [.ref (ad 3 j)] (cS G (tysY Y) lo (Ew Y ng nr nb z u ad) ad)) (QI G (tysY Y) lo (sc z 7 j) (Ew Y ng nr nb z u ad) ad) 0 0 (fun q => lo ≤ q) := by
  refine met_of (cc := cX0_gateNumber) (maxL := 1) (ret := (some .int)) (by decide) rfl (Nat.le_of_ble_eq_true rfl) rfl ?_
  intro p e s m below meth c ls hx hb hr hlk hml hts hown hnm hw hK hl hS
  have i0 : ∀ w ∈ wsX00, w ∈ wsX0_gateNumber := by decide +kernel
  have i2 : ∀ w ∈ wsX20, w ∈ wsX0_gateNumber := by decide +kernel
  have hng := hI.mg
  have hnr := hI.mr
  have hnb := hI.mb
  rcases hI.gate hj with hG | ⟨g, hg, hG, hGt⟩
  · refine f_aload_n hx hb dX0_gateNumber_0 hl 0 rfl rfl ?_
    refine e_get (C := RX0) (T := TX0) (N := 4) hx hb hts i0 hown hK hw (Ew_berth (by assumption)) rfl 2 (by decide) (hts (.fieldLink RX0 27 "FerryQuay$Berth" "gate" "LFerryQuay$Gate;") (by decide +kernel)) rfl dX0_gateNumber_1 ?_
    refine f_val (orefN hG) ?_
    refine lv_ifnonnullN hx hb dX0_gateNumber_4 ?_
    refine lv_iconst (v := (-1)) hx hb dX0_gateNumber_7 (by decide) ?_
    refine lv_goto (tgt := 18) hx hb dX0_gateNumber_8 (by decide) ?_
    exact q_iret hx hb hr hlk hK hw hS dX0_gateNumber_18 hG.symm rfl
  · refine f_aload_n hx hb dX0_gateNumber_0 hl 0 rfl rfl ?_
    refine e_get (C := RX0) (T := TX0) (N := 4) hx hb hts i0 hown hK hw (Ew_berth (by assumption)) rfl 2 (by decide) (hts (.fieldLink RX0 27 "FerryQuay$Berth" "gate" "LFerryQuay$Gate;") (by decide +kernel)) rfl dX0_gateNumber_1 ?_
    refine f_val (orefR hG (by omega)) ?_
    refine lv_ifnonnull (tgt := 11) hx hb dX0_gateNumber_4 (by decide) ?_
    refine f_aload_n hx hb dX0_gateNumber_11 hl 0 rfl rfl ?_
    refine e_get (C := RX0) (T := TX0) (N := 4) hx hb hts i0 hown hK hw (Ew_berth (by assumption)) rfl 2 (by decide) (hts (.fieldLink RX0 27 "FerryQuay$Berth" "gate" "LFerryQuay$Gate;") (by decide +kernel)) rfl dX0_gateNumber_12 ?_
    refine f_val (orefR hG (by omega)) ?_
    refine e_get (C := RX2) (T := TX2) (N := 4) hx hb hts i2 hown hK hw (Ew_gate (by assumption)) rfl 0 (by decide) (hts (.fieldLink RX0 31 "FerryQuay$Gate" "number" "I") (by decide +kernel)) rfl dX0_gateNumber_15 ?_
    exact q_iret hx hb hr hlk hK hw hS dX0_gateNumber_18 hG.symm rfl
set_option maxHeartbeats 4000000 in
set_option maxRecDepth 100000 in
theorem c_X0_rampNumber (l : Launch) {G : va_G} {Y : YT} {lo : Nat} {ad : Nat → Nat → Nat} {ng nr nb : Nat} {z u : St} (hI : Inv z ng nr nb) {j : Nat} (hj : j < nb) : Met l yX0_rampNumber wsX0_rampNumber ({ frames := 0, cells := 0, slots := 0, locals := 0 }) (va_Pc [.ref (ad 3 j)] (cS G (tysY Y) lo (Ew Y ng nr nb z u ad) ad)) (QI G (tysY Y) lo (sc z 8 j) (Ew Y ng nr nb z u ad) ad) 0 0 (fun q => lo ≤ q) := by
  refine met_of (cc := cX0_rampNumber) (maxL := 1) (ret := (some .int)) (by decide) rfl (Nat.le_of_ble_eq_true rfl) rfl ?_
  intro p e s m below meth c ls hx hb hr hlk hml hts hown hnm hw hK hl hS
  have i0 : ∀ w ∈ wsX00, w ∈ wsX0_rampNumber := by decide +kernel
  have i3 : ∀ w ∈ wsX30, w ∈ wsX0_rampNumber := by decide +kernel
  have hng := hI.mg
  have hnr := hI.mr
  have hnb := hI.mb
  rcases hI.ramp hj with hG | ⟨g, hg, hG, hGt⟩
  · refine f_aload_n hx hb dX0_rampNumber_0 hl 0 rfl rfl ?_
    refine e_get (C := RX0) (T := TX0) (N := 4) hx hb hts i0 hown hK hw (Ew_berth (by assumption)) rfl 3 (by decide) (hts (.fieldLink RX0 37 "FerryQuay$Berth" "ramp" "LFerryQuay$Ramp;") (by decide +kernel)) rfl dX0_rampNumber_1 ?_
    refine f_val (orefN hG) ?_
    refine lv_ifnonnullN hx hb dX0_rampNumber_4 ?_
    refine lv_iconst (v := (-1)) hx hb dX0_rampNumber_7 (by decide) ?_
    refine lv_goto (tgt := 18) hx hb dX0_rampNumber_8 (by decide) ?_
    exact q_iret hx hb hr hlk hK hw hS dX0_rampNumber_18 hG.symm rfl
  · refine f_aload_n hx hb dX0_rampNumber_0 hl 0 rfl rfl ?_
    refine e_get (C := RX0) (T := TX0) (N := 4) hx hb hts i0 hown hK hw (Ew_berth (by assumption)) rfl 3 (by decide) (hts (.fieldLink RX0 37 "FerryQuay$Berth" "ramp" "LFerryQuay$Ramp;") (by decide +kernel)) rfl dX0_rampNumber_1 ?_
    refine f_val (orefR hG (by omega)) ?_
    refine lv_ifnonnull (tgt := 11) hx hb dX0_rampNumber_4 (by decide) ?_
    refine f_aload_n hx hb dX0_rampNumber_11 hl 0 rfl rfl ?_
    refine e_get (C := RX0) (T := TX0) (N := 4) hx hb hts i0 hown hK hw (Ew_berth (by assumption)) rfl 3 (by decide) (hts (.fieldLink RX0 37 "FerryQuay$Berth" "ramp" "LFerryQuay$Ramp;") (by decide +kernel)) rfl dX0_rampNumber_12 ?_
    refine f_val (orefR hG (by omega)) ?_
    refine e_get (C := RX3) (T := TX3) (N := 4) hx hb hts i3 hown hK hw (Ew_ramp (by assumption)) rfl 0 (by decide) (hts (.fieldLink RX0 41 "FerryQuay$Ramp" "number" "I") (by decide +kernel)) rfl dX0_rampNumber_15 ?_
    exact q_iret hx hb hr hlk hK hw hS dX0_rampNumber_18 hG.symm rfl
