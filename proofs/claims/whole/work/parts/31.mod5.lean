set_option maxHeartbeats 4000000 in
set_option maxRecDepth 100000 in
theorem c_X6_gate (l : Launch) {G : va_G} {Y : YT} {lo : Nat} {ad : Nat → Nat → Nat} {ng nr nb ag ar ab : Nat} {z u : St} (hI : Inv u ng nr nb)  : Met l yX6_gate wsX6_gate ({ frames := 0, cells := 0, slots := 0, locals := 0 }) (va_Pc [.ref (ad 0 4)] (cS G (tysY Y) lo (Ew Y ag ar ab z u ad) ad)) (QI G (tysY Y) lo (sp_gate ng u).1 (Ew Y ag ar ab z (sp_gate ng u).2 ad) ad) 0 0 (fun q => lo ≤ q) := by
  refine met_of (cc := cX6_gate) (maxL := 1) (ret := (some .int)) (by decide) rfl (Nat.le_of_ble_eq_true rfl) rfl ?_
  intro p e s m below meth c ls hx hb hr hlk hml hts hown hnm hw hK hl hS
  have i6 : ∀ w ∈ wsX60, w ∈ wsX6_gate := by decide +kernel
  have hng := hI.mg
  have hnr := hI.mr
  have hnb := hI.mb
  by_cases hq : ng = 16
  · refine f_aload_n hx hb dX6_gate_0 hl 0 rfl rfl ?_
    refine e_get (C := RX6) (T := TX6) (N := 22) hx hb hts i6 hown hK hw Ew_mo rfl 0 (by decide) (hts (.fieldLink RX6 56 "FerryQuayModel" "gates" "I") (by decide +kernel)) rfl dX6_gate_1 ?_
    refine f_top hI.s0 ?_
    refine lv_bipush (v := 16) hx hb dX6_gate_4 (by decide) ?_
    refine lv_icmp_ne (tgt := 12) hx hb dX6_gate_6 (by decide) (fun c6 => absurd (by rw [hq]; rfl) c6) (fun c6 => ?_)
    refine lv_bipush (v := (-3)) hx hb dX6_gate_9 (by decide) ?_
    exact q_ism hx hb hr hlk hK hw hS dX6_gate_11 (by rw [sp_gate, if_pos hq])
  · refine f_aload_n hx hb dX6_gate_0 hl 0 rfl rfl ?_
    refine e_get (C := RX6) (T := TX6) (N := 22) hx hb hts i6 hown hK hw Ew_mo rfl 0 (by decide) (hts (.fieldLink RX6 56 "FerryQuayModel" "gates" "I") (by decide +kernel)) rfl dX6_gate_1 ?_
    refine f_top hI.s0 ?_
    refine lv_bipush (v := 16) hx hb dX6_gate_4 (by decide) ?_
    refine lv_icmp_ne (tgt := 12) hx hb dX6_gate_6 (by decide) (fun c6 => ?_) (fun c6 => absurd c6 (fun q => hq ((nI_eq (b := 16) (by omega) (by decide)).mp q)))
    refine f_aload_n hx hb dX6_gate_12 hl 0 rfl rfl ?_
    refine lv_dup hx hb dX6_gate_13 rfl ?_
    refine e_get (C := RX6) (T := TX6) (N := 22) hx hb hts i6 hown hK hw Ew_mo rfl 0 (by decide) (hts (.fieldLink RX6 56 "FerryQuayModel" "gates" "I") (by decide +kernel)) rfl dX6_gate_14 ?_
    refine lv_iconst (v := 1) hx hb dX6_gate_17 (by decide) ?_
    refine lv_iadd hx hb dX6_gate_18 ?_
    refine f_top ((congrArg (fun q => q + 1) hI.s0).trans (nI_1 ng)) ?_
    refine e_put (C := RX6) (T := TX6) (N := 22) (ty := .int) hx hb hts i6 tyX6 tyX6_ok nmX6 hown hK hw hS Ew_mo rfl 0 (by decide) (hts (.fieldLink RX6 56 "FerryQuayModel" "gates" "I") (by decide +kernel)) rfl (by decide +kernel) rfl rfl (Nat.le_of_ble_eq_true rfl) dX6_gate_19 (fun H locs hw hS => ?_)
    have hw := hw.cast Ep_mo0
    refine f_aload_n hx hb dX6_gate_22 hl 0 rfl rfl ?_
    refine e_get (C := RX6) (T := TX6) (N := 22) hx hb hts i6 hown hK hw Ew_mo rfl 0 (by decide) (hts (.fieldLink RX6 56 "FerryQuayModel" "gates" "I") (by decide +kernel)) rfl dX6_gate_23 ?_
    refine f_top sc_s ?_
    refine lv_iconst (v := 1) hx hb dX6_gate_26 (by decide) ?_
    refine lv_isub hx hb dX6_gate_27 ?_
    refine f_top (nI_pred ng) ?_
    exact q_ism hx hb hr hlk hK hw hS dX6_gate_28 (by rw [sp_gate, if_neg hq])
set_option maxHeartbeats 4000000 in
set_option maxRecDepth 100000 in
theorem c_X6_ramp (l : Launch) {G : va_G} {Y : YT} {lo : Nat} {ad : Nat → Nat → Nat} {ng nr nb ag ar ab : Nat} {z u : St} (hI : Inv u ng nr nb) (x : Int32) : Met l yX6_ramp wsX6_ramp ({ frames := 0, cells := 0, slots := 0, locals := 0 }) (va_Pc [.ref (ad 0 4), .int x] (cS G (tysY Y) lo (Ew Y ag ar ab z u ad) ad)) (QI G (tysY Y) lo (sp_ramp nr u x).1 (Ew Y ag ar ab z (sp_ramp nr u x).2 ad) ad) 0 0 (fun q => lo ≤ q) := by
  refine met_of (cc := cX6_ramp) (maxL := 2) (ret := (some .int)) (by decide) rfl (Nat.le_of_ble_eq_true rfl) rfl ?_
  intro p e s m below meth c ls hx hb hr hlk hml hts hown hnm hw hK hl hS
  have i6 : ∀ w ∈ wsX60, w ∈ wsX6_ramp := by decide +kernel
  have hng := hI.mg
  have hnr := hI.mr
  have hnb := hI.mb
  by_cases h1 : x < 1
  · refine f_iload_n hx hb dX6_ramp_0 hl 1 rfl rfl ?_
    refine lv_iconst (v := 1) hx hb dX6_ramp_1 (by decide) ?_
    refine lv_icmp_lt (tgt := 12) hx hb dX6_ramp_2 (by decide) (fun c2 => ?_) (fun c2 => absurd h1 c2)
    refine lv_bipush (v := (-2)) hx hb dX6_ramp_12 (by decide) ?_
    exact q_ism hx hb hr hlk hK hw hS dX6_ramp_14 (by rw [sp_ramp, if_pos h1])
  · by_cases h2 : 1000 < x
    · refine f_iload_n hx hb dX6_ramp_0 hl 1 rfl rfl ?_
      refine lv_iconst (v := 1) hx hb dX6_ramp_1 (by decide) ?_
      refine lv_icmp_lt (tgt := 12) hx hb dX6_ramp_2 (by decide) (fun c2 => absurd c2 h1) (fun c2 => ?_)
      refine f_iload_n hx hb dX6_ramp_5 hl 1 rfl rfl ?_
      refine lv_sipush (v := 1000) hx hb dX6_ramp_6 (by decide) ?_
      refine lv_icmp_le (tgt := 15) hx hb dX6_ramp_9 (by decide) (fun c9 => absurd c9 (Int32.not_le.mpr h2)) (fun c9 => ?_)
      refine lv_bipush (v := (-2)) hx hb dX6_ramp_12 (by decide) ?_
      exact q_ism hx hb hr hlk hK hw hS dX6_ramp_14 (by rw [sp_ramp, if_neg h1, if_pos h2])
    · by_cases hq : nr = 16
      · refine f_iload_n hx hb dX6_ramp_0 hl 1 rfl rfl ?_
        refine lv_iconst (v := 1) hx hb dX6_ramp_1 (by decide) ?_
        refine lv_icmp_lt (tgt := 12) hx hb dX6_ramp_2 (by decide) (fun c2 => absurd c2 h1) (fun c2 => ?_)
        refine f_iload_n hx hb dX6_ramp_5 hl 1 rfl rfl ?_
        refine lv_sipush (v := 1000) hx hb dX6_ramp_6 (by decide) ?_
        refine lv_icmp_le (tgt := 15) hx hb dX6_ramp_9 (by decide) (fun c9 => ?_) (fun c9 => absurd (Int32.not_lt.mp h2) c9)
        refine f_aload_n hx hb dX6_ramp_15 hl 0 rfl rfl ?_
        refine e_get (C := RX6) (T := TX6) (N := 22) hx hb hts i6 hown hK hw Ew_mo rfl 1 (by decide) (hts (.fieldLink RX6 60 "FerryQuayModel" "ramps" "I") (by decide +kernel)) rfl dX6_ramp_16 ?_
        refine f_top hI.s1 ?_
        refine lv_bipush (v := 16) hx hb dX6_ramp_19 (by decide) ?_
        refine lv_icmp_ne (tgt := 27) hx hb dX6_ramp_21 (by decide) (fun c21 => absurd (by rw [hq]; rfl) c21) (fun c21 => ?_)
        refine lv_bipush (v := (-3)) hx hb dX6_ramp_24 (by decide) ?_
        exact q_ism hx hb hr hlk hK hw hS dX6_ramp_26 (by rw [sp_ramp, if_neg h1, if_neg h2, if_pos hq])
      · refine f_iload_n hx hb dX6_ramp_0 hl 1 rfl rfl ?_
        refine lv_iconst (v := 1) hx hb dX6_ramp_1 (by decide) ?_
        refine lv_icmp_lt (tgt := 12) hx hb dX6_ramp_2 (by decide) (fun c2 => absurd c2 h1) (fun c2 => ?_)
        refine f_iload_n hx hb dX6_ramp_5 hl 1 rfl rfl ?_
        refine lv_sipush (v := 1000) hx hb dX6_ramp_6 (by decide) ?_
        refine lv_icmp_le (tgt := 15) hx hb dX6_ramp_9 (by decide) (fun c9 => ?_) (fun c9 => absurd (Int32.not_lt.mp h2) c9)
        refine f_aload_n hx hb dX6_ramp_15 hl 0 rfl rfl ?_
        refine e_get (C := RX6) (T := TX6) (N := 22) hx hb hts i6 hown hK hw Ew_mo rfl 1 (by decide) (hts (.fieldLink RX6 60 "FerryQuayModel" "ramps" "I") (by decide +kernel)) rfl dX6_ramp_16 ?_
        refine f_top hI.s1 ?_
        refine lv_bipush (v := 16) hx hb dX6_ramp_19 (by decide) ?_
        refine lv_icmp_ne (tgt := 27) hx hb dX6_ramp_21 (by decide) (fun c21 => ?_) (fun c21 => absurd c21 (fun q => hq ((nI_eq (b := 16) (by omega) (by decide)).mp q)))
        refine f_aload_n hx hb dX6_ramp_27 hl 0 rfl rfl ?_
        refine e_get (C := RX6) (T := TX6) (N := 22) hx hb hts i6 hown hK hw Ew_mo rfl 10 (by decide) (hts (.fieldLink RX6 20 "FerryQuayModel" "limit" "[I") (by decide +kernel)) rfl dX6_ramp_28 ?_
        refine f_aload_n hx hb dX6_ramp_31 hl 0 rfl rfl ?_
        refine e_get (C := RX6) (T := TX6) (N := 22) hx hb hts i6 hown hK hw Ew_mo rfl 1 (by decide) (hts (.fieldLink RX6 60 "FerryQuayModel" "ramps" "I") (by decide +kernel)) rfl dX6_ramp_32 ?_
        refine f_top hI.s1 ?_
        refine f_iload_n hx hb dX6_ramp_35 hl 1 rfl rfl ?_
        refine e_iastN hx hb hK hw hS 0 Ew_m4 rfl rfl (by omega) (by decide) dX6_ramp_36 (fun H locs hw hS => ?_)
        have hw := hw.cast Ep_m4
        refine f_aload_n hx hb dX6_ramp_37 hl 0 rfl rfl ?_
        refine lv_dup hx hb dX6_ramp_38 rfl ?_
        refine e_get (C := RX6) (T := TX6) (N := 22) hx hb hts i6 hown hK hw Ew_mo rfl 1 (by decide) (hts (.fieldLink RX6 60 "FerryQuayModel" "ramps" "I") (by decide +kernel)) rfl dX6_ramp_39 ?_
        refine lv_iconst (v := 1) hx hb dX6_ramp_42 (by decide) ?_
        refine lv_iadd hx hb dX6_ramp_43 ?_
        refine f_top ((congrArg (fun q => q + 1) hI.s1).trans (nI_1 nr)) ?_
        refine e_put (C := RX6) (T := TX6) (N := 22) (ty := .int) hx hb hts i6 tyX6 tyX6_ok nmX6 hown hK hw hS Ew_mo rfl 1 (by decide) (hts (.fieldLink RX6 60 "FerryQuayModel" "ramps" "I") (by decide +kernel)) rfl (by decide +kernel) rfl rfl (Nat.le_of_ble_eq_true rfl) dX6_ramp_44 (fun H locs hw hS => ?_)
        have hw := hw.cast Ep_mo1
        refine f_aload_n hx hb dX6_ramp_47 hl 0 rfl rfl ?_
        refine e_get (C := RX6) (T := TX6) (N := 22) hx hb hts i6 hown hK hw Ew_mo rfl 1 (by decide) (hts (.fieldLink RX6 60 "FerryQuayModel" "ramps" "I") (by decide +kernel)) rfl dX6_ramp_48 ?_
        refine f_top sc_s ?_
        refine lv_iconst (v := 1) hx hb dX6_ramp_51 (by decide) ?_
        refine lv_isub hx hb dX6_ramp_52 ?_
        refine f_top (nI_pred nr) ?_
        exact q_ism hx hb hr hlk hK hw hS dX6_ramp_53 (by rw [sp_ramp, if_neg h1, if_neg h2, if_neg hq])
set_option maxHeartbeats 4000000 in
set_option maxRecDepth 100000 in
theorem c_X6_berth (l : Launch) {G : va_G} {Y : YT} {lo : Nat} {ad : Nat → Nat → Nat} {ng nr nb ag ar ab : Nat} {z u : St} (hI : Inv u ng nr nb) (x : Int32) : Met l yX6_berth wsX6_berth ({ frames := 0, cells := 0, slots := 0, locals := 0 }) (va_Pc [.ref (ad 0 4), .int x] (cS G (tysY Y) lo (Ew Y ag ar ab z u ad) ad)) (QI G (tysY Y) lo (sp_berth nb u x).1 (Ew Y ag ar ab z (sp_berth nb u x).2 ad) ad) 0 0 (fun q => lo ≤ q) := by
  refine met_of (cc := cX6_berth) (maxL := 2) (ret := (some .int)) (by decide) rfl (Nat.le_of_ble_eq_true rfl) rfl ?_
  intro p e s m below meth c ls hx hb hr hlk hml hts hown hnm hw hK hl hS
  have i6 : ∀ w ∈ wsX60, w ∈ wsX6_berth := by decide +kernel
  have hng := hI.mg
  have hnr := hI.mr
  have hnb := hI.mb
  by_cases h1 : x < 0
  · refine f_iload_n hx hb dX6_berth_0 hl 1 rfl rfl ?_
    refine lv_if_lt (tgt := 11) hx hb dX6_berth_1 (by decide) (fun c1 => ?_) (fun c1 => absurd h1 c1)
    refine lv_bipush (v := (-2)) hx hb dX6_berth_11 (by decide) ?_
    exact q_ism hx hb hr hlk hK hw hS dX6_berth_13 (by rw [sp_berth, if_pos h1])
  · by_cases h2 : 10000 < x
    · refine f_iload_n hx hb dX6_berth_0 hl 1 rfl rfl ?_
      refine lv_if_lt (tgt := 11) hx hb dX6_berth_1 (by decide) (fun c1 => absurd c1 h1) (fun c1 => ?_)
      refine f_iload_n hx hb dX6_berth_4 hl 1 rfl rfl ?_
      refine lv_sipush (v := 10000) hx hb dX6_berth_5 (by decide) ?_
      refine lv_icmp_le (tgt := 14) hx hb dX6_berth_8 (by decide) (fun c8 => absurd c8 (Int32.not_le.mpr h2)) (fun c8 => ?_)
      refine lv_bipush (v := (-2)) hx hb dX6_berth_11 (by decide) ?_
      exact q_ism hx hb hr hlk hK hw hS dX6_berth_13 (by rw [sp_berth, if_neg h1, if_pos h2])
    · by_cases hq : nb = 8
      · refine f_iload_n hx hb dX6_berth_0 hl 1 rfl rfl ?_
        refine lv_if_lt (tgt := 11) hx hb dX6_berth_1 (by decide) (fun c1 => absurd c1 h1) (fun c1 => ?_)
        refine f_iload_n hx hb dX6_berth_4 hl 1 rfl rfl ?_
        refine lv_sipush (v := 10000) hx hb dX6_berth_5 (by decide) ?_
        refine lv_icmp_le (tgt := 14) hx hb dX6_berth_8 (by decide) (fun c8 => ?_) (fun c8 => absurd (Int32.not_lt.mp h2) c8)
        refine f_aload_n hx hb dX6_berth_14 hl 0 rfl rfl ?_
        refine e_get (C := RX6) (T := TX6) (N := 22) hx hb hts i6 hown hK hw Ew_mo rfl 2 (by decide) (hts (.fieldLink RX6 63 "FerryQuayModel" "berths" "I") (by decide +kernel)) rfl dX6_berth_15 ?_
        refine f_top hI.s2 ?_
        refine lv_bipush (v := 8) hx hb dX6_berth_18 (by decide) ?_
        refine lv_icmp_ne (tgt := 26) hx hb dX6_berth_20 (by decide) (fun c20 => absurd (by rw [hq]; rfl) c20) (fun c20 => ?_)
        refine lv_bipush (v := (-3)) hx hb dX6_berth_23 (by decide) ?_
        exact q_ism hx hb hr hlk hK hw hS dX6_berth_25 (by rw [sp_berth, if_neg h1, if_neg h2, if_pos hq])
      · refine f_iload_n hx hb dX6_berth_0 hl 1 rfl rfl ?_
        refine lv_if_lt (tgt := 11) hx hb dX6_berth_1 (by decide) (fun c1 => absurd c1 h1) (fun c1 => ?_)
        refine f_iload_n hx hb dX6_berth_4 hl 1 rfl rfl ?_
        refine lv_sipush (v := 10000) hx hb dX6_berth_5 (by decide) ?_
        refine lv_icmp_le (tgt := 14) hx hb dX6_berth_8 (by decide) (fun c8 => ?_) (fun c8 => absurd (Int32.not_lt.mp h2) c8)
        refine f_aload_n hx hb dX6_berth_14 hl 0 rfl rfl ?_
        refine e_get (C := RX6) (T := TX6) (N := 22) hx hb hts i6 hown hK hw Ew_mo rfl 2 (by decide) (hts (.fieldLink RX6 63 "FerryQuayModel" "berths" "I") (by decide +kernel)) rfl dX6_berth_15 ?_
        refine f_top hI.s2 ?_
        refine lv_bipush (v := 8) hx hb dX6_berth_18 (by decide) ?_
        refine lv_icmp_ne (tgt := 26) hx hb dX6_berth_20 (by decide) (fun c20 => ?_) (fun c20 => absurd c20 (fun q => hq ((nI_eq (b := 8) (by omega) (by decide)).mp q)))
        refine f_aload_n hx hb dX6_berth_26 hl 0 rfl rfl ?_
        refine e_get (C := RX6) (T := TX6) (N := 22) hx hb hts i6 hown hK hw Ew_mo rfl 18 (by decide) (hts (.fieldLink RX6 44 "FerryQuayModel" "room" "[I") (by decide +kernel)) rfl dX6_berth_27 ?_
        refine f_aload_n hx hb dX6_berth_30 hl 0 rfl rfl ?_
        refine e_get (C := RX6) (T := TX6) (N := 22) hx hb hts i6 hown hK hw Ew_mo rfl 2 (by decide) (hts (.fieldLink RX6 63 "FerryQuayModel" "berths" "I") (by decide +kernel)) rfl dX6_berth_31 ?_
        refine f_top hI.s2 ?_
        refine f_iload_n hx hb dX6_berth_34 hl 1 rfl rfl ?_
        refine e_iastN hx hb hK hw hS 0 Ew_m12 rfl rfl (by omega) (by decide) dX6_berth_35 (fun H locs hw hS => ?_)
        have hw := hw.cast Ep_m12
        refine f_aload_n hx hb dX6_berth_36 hl 0 rfl rfl ?_
        refine e_get (C := RX6) (T := TX6) (N := 22) hx hb hts i6 hown hK hw Ew_mo rfl 13 (by decide) (hts (.fieldLink RX6 29 "FerryQuayModel" "gateOf" "[I") (by decide +kernel)) rfl dX6_berth_37 ?_
        refine f_aload_n hx hb dX6_berth_40 hl 0 rfl rfl ?_
        refine e_get (C := RX6) (T := TX6) (N := 22) hx hb hts i6 hown hK hw Ew_mo rfl 2 (by decide) (hts (.fieldLink RX6 63 "FerryQuayModel" "berths" "I") (by decide +kernel)) rfl dX6_berth_41 ?_
        refine f_top hI.s2 ?_
        refine lv_iconst (v := (-1)) hx hb dX6_berth_44 (by decide) ?_
        refine e_iastN hx hb hK hw hS 0 Ew_m7 rfl rfl (by omega) (by decide) dX6_berth_45 (fun H locs hw hS => ?_)
        have hw := hw.cast Ep_m7
        refine f_aload_n hx hb dX6_berth_46 hl 0 rfl rfl ?_
        refine e_get (C := RX6) (T := TX6) (N := 22) hx hb hts i6 hown hK hw Ew_mo rfl 14 (by decide) (hts (.fieldLink RX6 32 "FerryQuayModel" "rampOf" "[I") (by decide +kernel)) rfl dX6_berth_47 ?_
        refine f_aload_n hx hb dX6_berth_50 hl 0 rfl rfl ?_
        refine e_get (C := RX6) (T := TX6) (N := 22) hx hb hts i6 hown hK hw Ew_mo rfl 2 (by decide) (hts (.fieldLink RX6 63 "FerryQuayModel" "berths" "I") (by decide +kernel)) rfl dX6_berth_51 ?_
        refine f_top hI.s2 ?_
        refine lv_iconst (v := (-1)) hx hb dX6_berth_54 (by decide) ?_
        refine e_iastN hx hb hK hw hS 0 Ew_m8 rfl rfl (by omega) (by decide) dX6_berth_55 (fun H locs hw hS => ?_)
        have hw := hw.cast Ep_m8
        refine f_aload_n hx hb dX6_berth_56 hl 0 rfl rfl ?_
        refine e_get (C := RX6) (T := TX6) (N := 22) hx hb hts i6 hown hK hw Ew_mo rfl 15 (by decide) (hts (.fieldLink RX6 35 "FerryQuayModel" "ferryOf" "[I") (by decide +kernel)) rfl dX6_berth_57 ?_
        refine f_aload_n hx hb dX6_berth_60 hl 0 rfl rfl ?_
        refine e_get (C := RX6) (T := TX6) (N := 22) hx hb hts i6 hown hK hw Ew_mo rfl 2 (by decide) (hts (.fieldLink RX6 63 "FerryQuayModel" "berths" "I") (by decide +kernel)) rfl dX6_berth_61 ?_
        refine f_top hI.s2 ?_
        refine f_aload_n hx hb dX6_berth_64 hl 0 rfl rfl ?_
        refine e_get (C := RX6) (T := TX6) (N := 22) hx hb hts i6 hown hK hw Ew_mo rfl 2 (by decide) (hts (.fieldLink RX6 63 "FerryQuayModel" "berths" "I") (by decide +kernel)) rfl dX6_berth_65 ?_
        refine f_top hI.s2 ?_
        refine e_iastN hx hb hK hw hS 0 Ew_m9 rfl rfl (by omega) (by decide) dX6_berth_68 (fun H locs hw hS => ?_)
        have hw := hw.cast Ep_m9
        refine f_aload_n hx hb dX6_berth_69 hl 0 rfl rfl ?_
        refine lv_dup hx hb dX6_berth_70 rfl ?_
        refine e_get (C := RX6) (T := TX6) (N := 22) hx hb hts i6 hown hK hw Ew_mo rfl 2 (by decide) (hts (.fieldLink RX6 63 "FerryQuayModel" "berths" "I") (by decide +kernel)) rfl dX6_berth_71 ?_
        refine lv_iconst (v := 1) hx hb dX6_berth_74 (by decide) ?_
        refine lv_iadd hx hb dX6_berth_75 ?_
        refine f_top ((congrArg (fun q => q + 1) hI.s2).trans (nI_1 nb)) ?_
        refine e_put (C := RX6) (T := TX6) (N := 22) (ty := .int) hx hb hts i6 tyX6 tyX6_ok nmX6 hown hK hw hS Ew_mo rfl 2 (by decide) (hts (.fieldLink RX6 63 "FerryQuayModel" "berths" "I") (by decide +kernel)) rfl (by decide +kernel) rfl rfl (Nat.le_of_ble_eq_true rfl) dX6_berth_76 (fun H locs hw hS => ?_)
        have hw := hw.cast Ep_mo2
        refine f_aload_n hx hb dX6_berth_79 hl 0 rfl rfl ?_
        refine e_get (C := RX6) (T := TX6) (N := 22) hx hb hts i6 hown hK hw Ew_mo rfl 2 (by decide) (hts (.fieldLink RX6 63 "FerryQuayModel" "berths" "I") (by decide +kernel)) rfl dX6_berth_80 ?_
        refine f_top sc_s ?_
        refine lv_iconst (v := 1) hx hb dX6_berth_83 (by decide) ?_
        refine lv_isub hx hb dX6_berth_84 ?_
        refine f_top (nI_pred nb) ?_
        exact q_ism hx hb hr hlk hK hw hS dX6_berth_85 (by rw [sp_berth, if_neg h1, if_neg h2, if_neg hq])
