set_option maxHeartbeats 4000000 in
set_option maxRecDepth 100000 in
theorem c_X6_alarm (l : Launch) {G : va_G} {Y : YT} {lo : Nat} {ad : Nat → Nat → Nat} {ng nr nb : Nat} {z u : St} (hI : Inv u ng nr nb) (x : Int32) : Met l yX6_alarm wsX6_alarm ({ frames := 0, cells := 0, slots := 0, locals := 0 }) (va_Pc [.ref (ad 0 4), .int x] (cS G (tysY Y) lo (Ew Y ng nr nb z u ad) ad)) (QI G (tysY Y) lo x (Ew Y ng nr nb z (inc u 0 6) ad) ad) 0 0 (fun q => lo ≤ q) := by
  refine met_of (cc := cX6_alarm) (maxL := 2) (ret := (some .int)) (by decide) rfl (Nat.le_of_ble_eq_true rfl) rfl ?_
  intro p e s m below meth c ls hx hb hr hlk hml hts hown hnm hw hK hl hS
  have i6 : ∀ w ∈ wsX60, w ∈ wsX6_alarm := by decide +kernel
  have hng := hI.mg
  have hnr := hI.mr
  have hnb := hI.mb
  refine f_aload_n hx hb dX6_alarm_0 hl 0 rfl rfl ?_
  refine lv_dup hx hb dX6_alarm_1 rfl ?_
  refine e_get (C := RX6) (T := TX6) (N := 22) hx hb hts i6 hown hK hw Ew_mo rfl 6 (by decide) (hts (.fieldLink RX6 66 "FerryQuayModel" "alarms" "I") (by decide +kernel)) rfl dX6_alarm_2 ?_
  refine lv_iconst (v := 1) hx hb dX6_alarm_5 (by decide) ?_
  refine lv_iadd hx hb dX6_alarm_6 ?_
  refine e_put (C := RX6) (T := TX6) (N := 22) (ty := .int) hx hb hts i6 tyX6 tyX6_ok nmX6 hown hK hw hS Ew_mo rfl 6 (by decide) (hts (.fieldLink RX6 66 "FerryQuayModel" "alarms" "I") (by decide +kernel)) rfl (by decide +kernel) rfl rfl (Nat.le_of_ble_eq_true rfl) dX6_alarm_7 (fun H locs hw hS => ?_)
  have hw := hw.cast Ep_mo6
  refine f_iload_n hx hb dX6_alarm_10 hl 1 rfl rfl ?_
  exact q_iret hx hb hr hlk hK hw hS dX6_alarm_11 rfl rfl
set_option maxHeartbeats 4000000 in
set_option maxRecDepth 100000 in
theorem c_X6_isGate (l : Launch) {G : va_G} {Y : YT} {lo : Nat} {ad : Nat → Nat → Nat} {ng nr nb : Nat} {z u : St} (hI : Inv u ng nr nb) (x : Int32) : Met l yX6_isGate wsX6_isGate ({ frames := 0, cells := 0, slots := 0, locals := 0 }) (va_Pc [.ref (ad 0 4), .int x] (cS G (tysY Y) lo (Ew Y ng nr nb z u ad) ad)) (QI G (tysY Y) lo (if x < 0 then 0 else if nI ng ≤ x then 0 else 1) (Ew Y ng nr nb z u ad) ad) 0 0 (fun q => lo ≤ q) := by
  refine met_of (cc := cX6_isGate) (maxL := 2) (ret := (some .boolean)) (by decide) rfl (Nat.le_of_ble_eq_true rfl) rfl ?_
  intro p e s m below meth c ls hx hb hr hlk hml hts hown hnm hw hK hl hS
  have i6 : ∀ w ∈ wsX60, w ∈ wsX6_isGate := by decide +kernel
  have hng := hI.mg
  have hnr := hI.mr
  have hnb := hI.mb
  refine f_iload_n hx hb dX6_isGate_0 hl 1 rfl rfl ?_
  refine lv_if_lt (tgt := 16) hx hb dX6_isGate_1 (by decide) (fun c1 => ?_) (fun c1 => ?_)
  · refine lv_iconst (v := 0) hx hb dX6_isGate_16 (by decide) ?_
    exact q_zret hx hb hr hlk hK hw hS dX6_isGate_17 rfl (by simp only [c1, if_true, if_false, reduceIte]) rfl
  · refine f_iload_n hx hb dX6_isGate_4 hl 1 rfl rfl ?_
    refine f_aload_n hx hb dX6_isGate_5 hl 0 rfl rfl ?_
    refine e_get (C := RX6) (T := TX6) (N := 22) hx hb hts i6 hown hK hw Ew_mo rfl 0 (by decide) (hts (.fieldLink RX6 56 "FerryQuayModel" "gates" "I") (by decide +kernel)) rfl dX6_isGate_6 ?_
    refine f_top hI.s0 ?_
    refine lv_icmp_ge (tgt := 16) hx hb dX6_isGate_9 (by decide) (fun c9 => ?_) (fun c9 => ?_)
    · refine lv_iconst (v := 0) hx hb dX6_isGate_16 (by decide) ?_
      exact q_zret hx hb hr hlk hK hw hS dX6_isGate_17 rfl (by simp only [c1, c9, if_true, if_false, reduceIte]) rfl
    · refine lv_iconst (v := 1) hx hb dX6_isGate_12 (by decide) ?_
      refine lv_goto (tgt := 17) hx hb dX6_isGate_13 (by decide) ?_
      exact q_zret hx hb hr hlk hK hw hS dX6_isGate_17 rfl (by simp only [c1, c9, if_true, if_false, reduceIte]) rfl
set_option maxHeartbeats 4000000 in
set_option maxRecDepth 100000 in
theorem c_X6_isRamp (l : Launch) {G : va_G} {Y : YT} {lo : Nat} {ad : Nat → Nat → Nat} {ng nr nb : Nat} {z u : St} (hI : Inv u ng nr nb) (x : Int32) : Met l yX6_isRamp wsX6_isRamp ({ frames := 0, cells := 0, slots := 0, locals := 0 }) (va_Pc [.ref (ad 0 4), .int x] (cS G (tysY Y) lo (Ew Y ng nr nb z u ad) ad)) (QI G (tysY Y) lo (if x < 0 then 0 else if nI nr ≤ x then 0 else 1) (Ew Y ng nr nb z u ad) ad) 0 0 (fun q => lo ≤ q) := by
  refine met_of (cc := cX6_isRamp) (maxL := 2) (ret := (some .boolean)) (by decide) rfl (Nat.le_of_ble_eq_true rfl) rfl ?_
  intro p e s m below meth c ls hx hb hr hlk hml hts hown hnm hw hK hl hS
  have i6 : ∀ w ∈ wsX60, w ∈ wsX6_isRamp := by decide +kernel
  have hng := hI.mg
  have hnr := hI.mr
  have hnb := hI.mb
  refine f_iload_n hx hb dX6_isRamp_0 hl 1 rfl rfl ?_
  refine lv_if_lt (tgt := 16) hx hb dX6_isRamp_1 (by decide) (fun c1 => ?_) (fun c1 => ?_)
  · refine lv_iconst (v := 0) hx hb dX6_isRamp_16 (by decide) ?_
    exact q_zret hx hb hr hlk hK hw hS dX6_isRamp_17 rfl (by simp only [c1, if_true, if_false, reduceIte]) rfl
  · refine f_iload_n hx hb dX6_isRamp_4 hl 1 rfl rfl ?_
    refine f_aload_n hx hb dX6_isRamp_5 hl 0 rfl rfl ?_
    refine e_get (C := RX6) (T := TX6) (N := 22) hx hb hts i6 hown hK hw Ew_mo rfl 1 (by decide) (hts (.fieldLink RX6 60 "FerryQuayModel" "ramps" "I") (by decide +kernel)) rfl dX6_isRamp_6 ?_
    refine f_top hI.s1 ?_
    refine lv_icmp_ge (tgt := 16) hx hb dX6_isRamp_9 (by decide) (fun c9 => ?_) (fun c9 => ?_)
    · refine lv_iconst (v := 0) hx hb dX6_isRamp_16 (by decide) ?_
      exact q_zret hx hb hr hlk hK hw hS dX6_isRamp_17 rfl (by simp only [c1, c9, if_true, if_false, reduceIte]) rfl
    · refine lv_iconst (v := 1) hx hb dX6_isRamp_12 (by decide) ?_
      refine lv_goto (tgt := 17) hx hb dX6_isRamp_13 (by decide) ?_
      exact q_zret hx hb hr hlk hK hw hS dX6_isRamp_17 rfl (by simp only [c1, c9, if_true, if_false, reduceIte]) rfl
set_option maxHeartbeats 4000000 in
set_option maxRecDepth 100000 in
theorem c_X6_isBerth (l : Launch) {G : va_G} {Y : YT} {lo : Nat} {ad : Nat → Nat → Nat} {ng nr nb : Nat} {z u : St} (hI : Inv u ng nr nb) (x : Int32) : Met l yX6_isBerth wsX6_isBerth ({ frames := 0, cells := 0, slots := 0, locals := 0 }) (va_Pc [.ref (ad 0 4), .int x] (cS G (tysY Y) lo (Ew Y ng nr nb z u ad) ad)) (QI G (tysY Y) lo (if x < 0 then 0 else if nI nb ≤ x then 0 else 1) (Ew Y ng nr nb z u ad) ad) 0 0 (fun q => lo ≤ q) := by
  refine met_of (cc := cX6_isBerth) (maxL := 2) (ret := (some .boolean)) (by decide) rfl (Nat.le_of_ble_eq_true rfl) rfl ?_
  intro p e s m below meth c ls hx hb hr hlk hml hts hown hnm hw hK hl hS
  have i6 : ∀ w ∈ wsX60, w ∈ wsX6_isBerth := by decide +kernel
  have hng := hI.mg
  have hnr := hI.mr
  have hnb := hI.mb
  refine f_iload_n hx hb dX6_isBerth_0 hl 1 rfl rfl ?_
  refine lv_if_lt (tgt := 16) hx hb dX6_isBerth_1 (by decide) (fun c1 => ?_) (fun c1 => ?_)
  · refine lv_iconst (v := 0) hx hb dX6_isBerth_16 (by decide) ?_
    exact q_zret hx hb hr hlk hK hw hS dX6_isBerth_17 rfl (by simp only [c1, if_true, if_false, reduceIte]) rfl
  · refine f_iload_n hx hb dX6_isBerth_4 hl 1 rfl rfl ?_
    refine f_aload_n hx hb dX6_isBerth_5 hl 0 rfl rfl ?_
    refine e_get (C := RX6) (T := TX6) (N := 22) hx hb hts i6 hown hK hw Ew_mo rfl 2 (by decide) (hts (.fieldLink RX6 63 "FerryQuayModel" "berths" "I") (by decide +kernel)) rfl dX6_isBerth_6 ?_
    refine f_top hI.s2 ?_
    refine lv_icmp_ge (tgt := 16) hx hb dX6_isBerth_9 (by decide) (fun c9 => ?_) (fun c9 => ?_)
    · refine lv_iconst (v := 0) hx hb dX6_isBerth_16 (by decide) ?_
      exact q_zret hx hb hr hlk hK hw hS dX6_isBerth_17 rfl (by simp only [c1, c9, if_true, if_false, reduceIte]) rfl
    · refine lv_iconst (v := 1) hx hb dX6_isBerth_12 (by decide) ?_
      refine lv_goto (tgt := 17) hx hb dX6_isBerth_13 (by decide) ?_
      exact q_zret hx hb hr hlk hK hw hS dX6_isBerth_17 rfl (by simp only [c1, c9, if_true, if_false, reduceIte]) rfl
set_option maxHeartbeats 4000000 in
set_option maxRecDepth 100000 in
theorem c_X6_tend (l : Launch) {G : va_G} {Y : YT} {lo : Nat} {ad : Nat → Nat → Nat} {ng nr nb : Nat} {z u : St} (hI : Inv u ng nr nb) (x : Int32) : Met l yX6_tend wsX6_tend ({ frames := 1, cells := 0, slots := 0, locals := 21 }) (va_Pc [.ref (ad 0 4), .int x] (cS G (tysY Y) lo (Ew Y ng nr nb z u ad) ad)) (QI G (tysY Y) lo (sp_tend nr u x).1 (Ew Y ng nr nb z (sp_tend nr u x).2 ad) ad) 0 0 (fun q => lo ≤ q) := by
  refine met_of (cc := cX6_tend) (maxL := 3) (ret := (some .int)) (by decide) rfl (Nat.le_of_ble_eq_true rfl) rfl ?_
  intro p e s m below meth c ls hx hb hr hlk hml hts hown hnm hw hK hl hS
  have i6 : ∀ w ∈ wsX60, w ∈ wsX6_tend := by decide +kernel
  have hng := hI.mg
  have hnr := hI.mr
  have hnb := hI.mb
  rcases ix_cases x hI.nr2 with ⟨hix, hbad⟩ | ⟨j, hj, rfl, hix⟩
  · refine f_aload_n hx hb dX6_tend_0 hl 0 rfl rfl ?_
    refine f_iload_n hx hb dX6_tend_1 hl 1 rfl rfl ?_
    refine q_ci (q_runV (C := RX6) (T := TX6) (N := 22) ⟨hx, hb, hml, hown, hts⟩ (c_X6_isRamp l hI x) (cwV 1 hts gX6_tend_X6_isRamp rfl rfl rfl (by decide +kernel) ⟨Nat.le_of_ble_eq_true rfl, Nat.le_of_ble_eq_true rfl⟩) hK hw Ew_mo rfl rfl hl.1 rfl (by simp [Value.category, va_rf]) dX6_tend_2 ⟨Nat.le_of_ble_eq_true rfl, Nat.le_of_ble_eq_true rfl⟩) hS (fun H locs hw hS => ?_)
    refine f_top (y := 0) (is_bad hbad) ?_
    refine lv_if_ne (tgt := 11) hx hb dX6_tend_5 (by decide) (fun c5 => absurd (by decide) c5) (fun c5 => ?_)
    refine lv_bipush (v := (-2)) hx hb dX6_tend_8 (by decide) ?_
    exact q_ism hx hb hr hlk hK hw hS dX6_tend_10 (by rw [sp_tend, hix]; exact rfl)
  · refine f_aload_n hx hb dX6_tend_0 hl 0 rfl rfl ?_
    refine f_iload_n hx hb dX6_tend_1 hl 1 rfl rfl ?_
    refine q_ci (q_runV (C := RX6) (T := TX6) (N := 22) ⟨hx, hb, hml, hown, hts⟩ (c_X6_isRamp l hI (nI j)) (cwV 1 hts gX6_tend_X6_isRamp rfl rfl rfl (by decide +kernel) ⟨Nat.le_of_ble_eq_true rfl, Nat.le_of_ble_eq_true rfl⟩) hK hw Ew_mo rfl rfl hl.1 rfl (by simp [Value.category, va_rf]) dX6_tend_2 ⟨Nat.le_of_ble_eq_true rfl, Nat.le_of_ble_eq_true rfl⟩) hS (fun H locs hw hS => ?_)
    refine f_top (y := 1) (is_ok hj hI.nr2) ?_
    refine lv_if_ne (tgt := 11) hx hb dX6_tend_5 (by decide) (fun c5 => ?_) (fun c5 => absurd c5 (by decide))
    refine f_aload_n hx hb dX6_tend_11 hl 0 rfl rfl ?_
    refine e_get (C := RX6) (T := TX6) (N := 22) hx hb hts i6 hown hK hw Ew_mo rfl 12 (by decide) (hts (.fieldLink RX6 26 "FerryQuayModel" "rampTaken" "[I") (by decide +kernel)) rfl dX6_tend_12 ?_
    refine f_iload_n hx hb dX6_tend_15 hl 1 rfl rfl ?_
    refine lv_dup2_11 hx hb dX6_tend_16 rfl rfl ?_
    refine e_ialdN hx hb hK hw 0 Ew_m6 rfl rfl (by omega) (by decide) dX6_tend_17 ?_
    refine lv_iconst (v := 1) hx hb dX6_tend_18 (by decide) ?_
    refine lv_iadd hx hb dX6_tend_19 ?_
    refine e_iastN hx hb hK hw hS 0 Ew_m6 rfl rfl (by omega) (by decide) dX6_tend_20 (fun H locs hw hS => ?_)
    have hw := hw.cast Ep_m6
    refine f_aload_n hx hb dX6_tend_21 hl 0 rfl rfl ?_
    refine e_get (C := RX6) (T := TX6) (N := 22) hx hb hts i6 hown hK hw Ew_mo rfl 11 (by decide) (hts (.fieldLink RX6 23 "FerryQuayModel" "wear" "[I") (by decide +kernel)) rfl dX6_tend_22 ?_
    refine f_iload_n hx hb dX6_tend_25 hl 1 rfl rfl ?_
    refine e_ialdN hx hb hK hw 0 Ew_m5 rfl rfl (by omega) (by decide) dX6_tend_26 ?_
    refine lv_if_ne (tgt := 37) hx hb dX6_tend_27 (by decide) (fun c27 => ?_) (fun c27 => ?_)
    · refine f_aload_n hx hb dX6_tend_37 hl 0 rfl rfl ?_
      refine e_get (C := RX6) (T := TX6) (N := 22) hx hb hts i6 hown hK hw Ew_mo rfl 11 (by decide) (hts (.fieldLink RX6 23 "FerryQuayModel" "wear" "[I") (by decide +kernel)) rfl dX6_tend_38 ?_
      refine f_iload_n hx hb dX6_tend_41 hl 1 rfl rfl ?_
      refine e_ialdN hx hb hK hw 0 Ew_m5 rfl rfl (by omega) (by decide) dX6_tend_42 ?_
      refine f_istore_n hx hb dX6_tend_43 hl 2 rfl (by decide) (fun ls hl => ?_)
      refine f_aload_n hx hb dX6_tend_44 hl 0 rfl rfl ?_
      refine e_get (C := RX6) (T := TX6) (N := 22) hx hb hts i6 hown hK hw Ew_mo rfl 11 (by decide) (hts (.fieldLink RX6 23 "FerryQuayModel" "wear" "[I") (by decide +kernel)) rfl dX6_tend_45 ?_
      refine f_iload_n hx hb dX6_tend_48 hl 1 rfl rfl ?_
      refine lv_iconst (v := 0) hx hb dX6_tend_49 (by decide) ?_
      refine e_iastN hx hb hK hw hS 0 Ew_m5 rfl rfl (by omega) (by decide) dX6_tend_50 (fun H locs hw hS => ?_)
      have hw := hw.cast Ep_m5
      refine f_iload_n hx hb dX6_tend_51 hl 2 rfl rfl ?_
      exact q_ism hx hb hr hlk hK hw hS dX6_tend_52 (by rw [sp_tend, hix]; dsimp only [Option.elim]; exact (if_neg c27))
    · refine f_aload_n hx hb dX6_tend_30 hl 0 rfl rfl ?_
      refine lv_bipush (v := (-5)) hx hb dX6_tend_31 (by decide) ?_
      refine q_ci (q_runV (C := RX6) (T := TX6) (N := 22) ⟨hx, hb, hml, hown, hts⟩ (c_X6_alarm l (hI.p6 hj) (-5)) (cwV 1 hts gX6_tend_X6_alarm rfl rfl rfl (by decide +kernel) ⟨Nat.le_of_ble_eq_true rfl, Nat.le_of_ble_eq_true rfl⟩) hK hw Ew_mo rfl rfl hl.1 rfl (by simp [Value.category, va_rf]) dX6_tend_33 ⟨Nat.le_of_ble_eq_true rfl, Nat.le_of_ble_eq_true rfl⟩) hS (fun H locs hw hS => ?_)
      exact q_ism hx hb hr hlk hK hw hS dX6_tend_36 (by rw [sp_tend, hix]; dsimp only [Option.elim]; exact (if_pos c27))
set_option maxHeartbeats 4000000 in
set_option maxRecDepth 100000 in
theorem c_X6_hinge (l : Launch) {G : va_G} {Y : YT} {lo : Nat} {ad : Nat → Nat → Nat} {ng nr nb : Nat} {z u : St} (hI : Inv u ng nr nb) (x y : Int32) : Met l yX6_hinge wsX6_hinge ({ frames := 1, cells := 0, slots := 0, locals := 21 }) (va_Pc [.ref (ad 0 4), .int x, .int y] (cS G (tysY Y) lo (Ew Y ng nr nb z u ad) ad)) (QI G (tysY Y) lo (sp_hinge ng nb u x y).1 (Ew Y ng nr nb z (sp_hinge ng nb u x y).2 ad) ad) 0 0 (fun q => lo ≤ q) := by
  refine met_of (cc := cX6_hinge) (maxL := 4) (ret := (some .int)) (by decide) rfl (Nat.le_of_ble_eq_true rfl) rfl ?_
  intro p e s m below meth c ls hx hb hr hlk hml hts hown hnm hw hK hl hS
  have i6 : ∀ w ∈ wsX60, w ∈ wsX6_hinge := by decide +kernel
  have hng := hI.mg
  have hnr := hI.mr
  have hnb := hI.mb
  rcases ix_cases x hI.nb2 with ⟨hix, hbad⟩ | ⟨j, hj, rfl, hix⟩
  · refine f_aload_n hx hb dX6_hinge_0 hl 0 rfl rfl ?_
    refine f_iload_n hx hb dX6_hinge_1 hl 1 rfl rfl ?_
    refine q_ci (q_runV (C := RX6) (T := TX6) (N := 22) ⟨hx, hb, hml, hown, hts⟩ (c_X6_isBerth l hI x) (cwV 1 hts gX6_hinge_X6_isBerth rfl rfl rfl (by decide +kernel) ⟨Nat.le_of_ble_eq_true rfl, Nat.le_of_ble_eq_true rfl⟩) hK hw Ew_mo rfl rfl hl.1 rfl (by simp [Value.category, va_rf]) dX6_hinge_2 ⟨Nat.le_of_ble_eq_true rfl, Nat.le_of_ble_eq_true rfl⟩) hS (fun H locs hw hS => ?_)
    refine f_top (y := 0) (is_bad hbad) ?_
    refine lv_if_eq (tgt := 21) hx hb dX6_hinge_5 (by decide) (fun c5 => ?_) (fun c5 => absurd (by decide) c5)
    refine lv_bipush (v := (-2)) hx hb dX6_hinge_21 (by decide) ?_
    exact q_ism hx hb hr hlk hK hw hS dX6_hinge_23 (by rw [sp_hinge, hix]; exact rfl)
  · rcases ix_cases y hI.ng2 with ⟨hiy, hbad2⟩ | ⟨k, hk, rfl, hiy⟩
    · refine f_aload_n hx hb dX6_hinge_0 hl 0 rfl rfl ?_
      refine f_iload_n hx hb dX6_hinge_1 hl 1 rfl rfl ?_
      refine q_ci (q_runV (C := RX6) (T := TX6) (N := 22) ⟨hx, hb, hml, hown, hts⟩ (c_X6_isBerth l hI (nI j)) (cwV 1 hts gX6_hinge_X6_isBerth rfl rfl rfl (by decide +kernel) ⟨Nat.le_of_ble_eq_true rfl, Nat.le_of_ble_eq_true rfl⟩) hK hw Ew_mo rfl rfl hl.1 rfl (by simp [Value.category, va_rf]) dX6_hinge_2 ⟨Nat.le_of_ble_eq_true rfl, Nat.le_of_ble_eq_true rfl⟩) hS (fun H locs hw hS => ?_)
      refine f_top (y := 1) (is_ok hj hI.nb2) ?_
      refine lv_if_eq (tgt := 21) hx hb dX6_hinge_5 (by decide) (fun c5 => absurd c5 (by decide)) (fun c5 => ?_)
      refine f_iload_n hx hb dX6_hinge_8 hl 2 rfl rfl ?_
      refine lv_iconst (v := (-1)) hx hb dX6_hinge_9 (by decide) ?_
      refine lv_icmp_eq (tgt := 24) hx hb dX6_hinge_10 (by decide) (fun c10 => ?_) (fun c10 => ?_)
      · refine f_aload_n hx hb dX6_hinge_24 hl 0 rfl rfl ?_
        refine e_get (C := RX6) (T := TX6) (N := 22) hx hb hts i6 hown hK hw Ew_mo rfl 13 (by decide) (hts (.fieldLink RX6 29 "FerryQuayModel" "gateOf" "[I") (by decide +kernel)) rfl dX6_hinge_25 ?_
        refine f_iload_n hx hb dX6_hinge_28 hl 1 rfl rfl ?_
        refine e_ialdN hx hb hK hw 0 Ew_m7 rfl rfl (by omega) (by decide) dX6_hinge_29 ?_
        refine f_istore_n hx hb dX6_hinge_30 hl 3 rfl (by decide) (fun ls hl => ?_)
        refine f_aload_n hx hb dX6_hinge_31 hl 0 rfl rfl ?_
        refine e_get (C := RX6) (T := TX6) (N := 22) hx hb hts i6 hown hK hw Ew_mo rfl 13 (by decide) (hts (.fieldLink RX6 29 "FerryQuayModel" "gateOf" "[I") (by decide +kernel)) rfl dX6_hinge_32 ?_
        refine f_iload_n hx hb dX6_hinge_35 hl 1 rfl rfl ?_
        refine f_iload_n hx hb dX6_hinge_36 hl 2 rfl rfl ?_
        refine e_iastN hx hb hK hw hS 0 Ew_m7 rfl rfl (by omega) (by decide) dX6_hinge_37 (fun H locs hw hS => ?_)
        have hw := hw.cast Ep_m7
        refine f_iload_n hx hb dX6_hinge_38 hl 3 rfl rfl ?_
        exact q_ism hx hb hr hlk hK hw hS dX6_hinge_39 (by rw [sp_hinge, hix]; dsimp only [Option.elim]; exact if_pos c10)
      · refine f_aload_n hx hb dX6_hinge_13 hl 0 rfl rfl ?_
        refine f_iload_n hx hb dX6_hinge_14 hl 2 rfl rfl ?_
        refine q_ci (q_runV (C := RX6) (T := TX6) (N := 22) ⟨hx, hb, hml, hown, hts⟩ (c_X6_isGate l hI y) (cwV 1 hts gX6_hinge_X6_isGate rfl rfl rfl (by decide +kernel) ⟨Nat.le_of_ble_eq_true rfl, Nat.le_of_ble_eq_true rfl⟩) hK hw Ew_mo rfl rfl hl.1 rfl (by simp [Value.category, va_rf]) dX6_hinge_15 ⟨Nat.le_of_ble_eq_true rfl, Nat.le_of_ble_eq_true rfl⟩) hS (fun H locs hw hS => ?_)
        refine f_top (y := 0) (is_bad hbad2) ?_
        refine lv_if_ne (tgt := 24) hx hb dX6_hinge_18 (by decide) (fun c18 => absurd (by decide) c18) (fun c18 => ?_)
        refine lv_bipush (v := (-2)) hx hb dX6_hinge_21 (by decide) ?_
        exact q_ism hx hb hr hlk hK hw hS dX6_hinge_23 (by rw [sp_hinge, hix]; dsimp only [Option.elim]; exact (if_neg c10).trans (by rw [hiy]))
    · refine f_aload_n hx hb dX6_hinge_0 hl 0 rfl rfl ?_
      refine f_iload_n hx hb dX6_hinge_1 hl 1 rfl rfl ?_
      refine q_ci (q_runV (C := RX6) (T := TX6) (N := 22) ⟨hx, hb, hml, hown, hts⟩ (c_X6_isBerth l hI (nI j)) (cwV 1 hts gX6_hinge_X6_isBerth rfl rfl rfl (by decide +kernel) ⟨Nat.le_of_ble_eq_true rfl, Nat.le_of_ble_eq_true rfl⟩) hK hw Ew_mo rfl rfl hl.1 rfl (by simp [Value.category, va_rf]) dX6_hinge_2 ⟨Nat.le_of_ble_eq_true rfl, Nat.le_of_ble_eq_true rfl⟩) hS (fun H locs hw hS => ?_)
      refine f_top (y := 1) (is_ok hj hI.nb2) ?_
      refine lv_if_eq (tgt := 21) hx hb dX6_hinge_5 (by decide) (fun c5 => absurd c5 (by decide)) (fun c5 => ?_)
      refine f_iload_n hx hb dX6_hinge_8 hl 2 rfl rfl ?_
      refine lv_iconst (v := (-1)) hx hb dX6_hinge_9 (by decide) ?_
      refine lv_icmp_eq (tgt := 24) hx hb dX6_hinge_10 (by decide) (fun c10 => ?_) (fun c10 => ?_)
      · refine f_aload_n hx hb dX6_hinge_24 hl 0 rfl rfl ?_
        refine e_get (C := RX6) (T := TX6) (N := 22) hx hb hts i6 hown hK hw Ew_mo rfl 13 (by decide) (hts (.fieldLink RX6 29 "FerryQuayModel" "gateOf" "[I") (by decide +kernel)) rfl dX6_hinge_25 ?_
        refine f_iload_n hx hb dX6_hinge_28 hl 1 rfl rfl ?_
        refine e_ialdN hx hb hK hw 0 Ew_m7 rfl rfl (by omega) (by decide) dX6_hinge_29 ?_
        refine f_istore_n hx hb dX6_hinge_30 hl 3 rfl (by decide) (fun ls hl => ?_)
        refine f_aload_n hx hb dX6_hinge_31 hl 0 rfl rfl ?_
        refine e_get (C := RX6) (T := TX6) (N := 22) hx hb hts i6 hown hK hw Ew_mo rfl 13 (by decide) (hts (.fieldLink RX6 29 "FerryQuayModel" "gateOf" "[I") (by decide +kernel)) rfl dX6_hinge_32 ?_
        refine f_iload_n hx hb dX6_hinge_35 hl 1 rfl rfl ?_
        refine f_iload_n hx hb dX6_hinge_36 hl 2 rfl rfl ?_
        refine e_iastN hx hb hK hw hS 0 Ew_m7 rfl rfl (by omega) (by decide) dX6_hinge_37 (fun H locs hw hS => ?_)
        have hw := hw.cast Ep_m7
        refine f_iload_n hx hb dX6_hinge_38 hl 3 rfl rfl ?_
        exact q_ism hx hb hr hlk hK hw hS dX6_hinge_39 (by rw [sp_hinge, hix]; dsimp only [Option.elim]; exact if_pos c10)
      · refine f_aload_n hx hb dX6_hinge_13 hl 0 rfl rfl ?_
        refine f_iload_n hx hb dX6_hinge_14 hl 2 rfl rfl ?_
        refine q_ci (q_runV (C := RX6) (T := TX6) (N := 22) ⟨hx, hb, hml, hown, hts⟩ (c_X6_isGate l hI (nI k)) (cwV 1 hts gX6_hinge_X6_isGate rfl rfl rfl (by decide +kernel) ⟨Nat.le_of_ble_eq_true rfl, Nat.le_of_ble_eq_true rfl⟩) hK hw Ew_mo rfl rfl hl.1 rfl (by simp [Value.category, va_rf]) dX6_hinge_15 ⟨Nat.le_of_ble_eq_true rfl, Nat.le_of_ble_eq_true rfl⟩) hS (fun H locs hw hS => ?_)
        refine f_top (y := 1) (is_ok hk hI.ng2) ?_
        refine lv_if_ne (tgt := 24) hx hb dX6_hinge_18 (by decide) (fun c18 => ?_) (fun c18 => absurd c18 (by decide))
        refine f_aload_n hx hb dX6_hinge_24 hl 0 rfl rfl ?_
        refine e_get (C := RX6) (T := TX6) (N := 22) hx hb hts i6 hown hK hw Ew_mo rfl 13 (by decide) (hts (.fieldLink RX6 29 "FerryQuayModel" "gateOf" "[I") (by decide +kernel)) rfl dX6_hinge_25 ?_
        refine f_iload_n hx hb dX6_hinge_28 hl 1 rfl rfl ?_
        refine e_ialdN hx hb hK hw 0 Ew_m7 rfl rfl (by omega) (by decide) dX6_hinge_29 ?_
        refine f_istore_n hx hb dX6_hinge_30 hl 3 rfl (by decide) (fun ls hl => ?_)
        refine f_aload_n hx hb dX6_hinge_31 hl 0 rfl rfl ?_
        refine e_get (C := RX6) (T := TX6) (N := 22) hx hb hts i6 hown hK hw Ew_mo rfl 13 (by decide) (hts (.fieldLink RX6 29 "FerryQuayModel" "gateOf" "[I") (by decide +kernel)) rfl dX6_hinge_32 ?_
        refine f_iload_n hx hb dX6_hinge_35 hl 1 rfl rfl ?_
        refine f_iload_n hx hb dX6_hinge_36 hl 2 rfl rfl ?_
        refine e_iastN hx hb hK hw hS 0 Ew_m7 rfl rfl (by omega) (by decide) dX6_hinge_37 (fun H locs hw hS => ?_)
        have hw := hw.cast Ep_m7
        refine f_iload_n hx hb dX6_hinge_38 hl 3 rfl rfl ?_
        exact q_ism hx hb hr hlk hK hw hS dX6_hinge_39 (by rw [sp_hinge, hix]; dsimp only [Option.elim]; exact (if_neg c10).trans (by rw [hiy]))
set_option maxHeartbeats 4000000 in
set_option maxRecDepth 100000 in
theorem c_X6_lay (l : Launch) {G : va_G} {Y : YT} {lo : Nat} {ad : Nat → Nat → Nat} {ng nr nb : Nat} {z u : St} (hI : Inv u ng nr nb) (x y : Int32) : Met l yX6_lay wsX6_lay ({ frames := 1, cells := 0, slots := 0, locals := 21 }) (va_Pc [.ref (ad 0 4), .int x, .int y] (cS G (tysY Y) lo (Ew Y ng nr nb z u ad) ad)) (QI G (tysY Y) lo (sp_lay nr nb u x y).1 (Ew Y ng nr nb z (sp_lay nr nb u x y).2 ad) ad) 0 0 (fun q => lo ≤ q) := by
  refine met_of (cc := cX6_lay) (maxL := 4) (ret := (some .int)) (by decide) rfl (Nat.le_of_ble_eq_true rfl) rfl ?_
  intro p e s m below meth c ls hx hb hr hlk hml hts hown hnm hw hK hl hS
  have i6 : ∀ w ∈ wsX60, w ∈ wsX6_lay := by decide +kernel
  have hng := hI.mg
  have hnr := hI.mr
  have hnb := hI.mb
  rcases ix_cases x hI.nb2 with ⟨hix, hbad⟩ | ⟨j, hj, rfl, hix⟩
  · refine f_aload_n hx hb dX6_lay_0 hl 0 rfl rfl ?_
    refine f_iload_n hx hb dX6_lay_1 hl 1 rfl rfl ?_
    refine q_ci (q_runV (C := RX6) (T := TX6) (N := 22) ⟨hx, hb, hml, hown, hts⟩ (c_X6_isBerth l hI x) (cwV 1 hts gX6_lay_X6_isBerth rfl rfl rfl (by decide +kernel) ⟨Nat.le_of_ble_eq_true rfl, Nat.le_of_ble_eq_true rfl⟩) hK hw Ew_mo rfl rfl hl.1 rfl (by simp [Value.category, va_rf]) dX6_lay_2 ⟨Nat.le_of_ble_eq_true rfl, Nat.le_of_ble_eq_true rfl⟩) hS (fun H locs hw hS => ?_)
    refine f_top (y := 0) (is_bad hbad) ?_
    refine lv_if_eq (tgt := 21) hx hb dX6_lay_5 (by decide) (fun c5 => ?_) (fun c5 => absurd (by decide) c5)
    refine lv_bipush (v := (-2)) hx hb dX6_lay_21 (by decide) ?_
    exact q_ism hx hb hr hlk hK hw hS dX6_lay_23 (by rw [sp_lay, hix]; exact rfl)
  · rcases ix_cases y hI.nr2 with ⟨hiy, hbad2⟩ | ⟨k, hk, rfl, hiy⟩
    · refine f_aload_n hx hb dX6_lay_0 hl 0 rfl rfl ?_
      refine f_iload_n hx hb dX6_lay_1 hl 1 rfl rfl ?_
      refine q_ci (q_runV (C := RX6) (T := TX6) (N := 22) ⟨hx, hb, hml, hown, hts⟩ (c_X6_isBerth l hI (nI j)) (cwV 1 hts gX6_lay_X6_isBerth rfl rfl rfl (by decide +kernel) ⟨Nat.le_of_ble_eq_true rfl, Nat.le_of_ble_eq_true rfl⟩) hK hw Ew_mo rfl rfl hl.1 rfl (by simp [Value.category, va_rf]) dX6_lay_2 ⟨Nat.le_of_ble_eq_true rfl, Nat.le_of_ble_eq_true rfl⟩) hS (fun H locs hw hS => ?_)
      refine f_top (y := 1) (is_ok hj hI.nb2) ?_
      refine lv_if_eq (tgt := 21) hx hb dX6_lay_5 (by decide) (fun c5 => absurd c5 (by decide)) (fun c5 => ?_)
      refine f_iload_n hx hb dX6_lay_8 hl 2 rfl rfl ?_
      refine lv_iconst (v := (-1)) hx hb dX6_lay_9 (by decide) ?_
      refine lv_icmp_eq (tgt := 24) hx hb dX6_lay_10 (by decide) (fun c10 => ?_) (fun c10 => ?_)
      · refine f_aload_n hx hb dX6_lay_24 hl 0 rfl rfl ?_
        refine e_get (C := RX6) (T := TX6) (N := 22) hx hb hts i6 hown hK hw Ew_mo rfl 14 (by decide) (hts (.fieldLink RX6 32 "FerryQuayModel" "rampOf" "[I") (by decide +kernel)) rfl dX6_lay_25 ?_
        refine f_iload_n hx hb dX6_lay_28 hl 1 rfl rfl ?_
        refine e_ialdN hx hb hK hw 0 Ew_m8 rfl rfl (by omega) (by decide) dX6_lay_29 ?_
        refine f_istore_n hx hb dX6_lay_30 hl 3 rfl (by decide) (fun ls hl => ?_)
        refine f_aload_n hx hb dX6_lay_31 hl 0 rfl rfl ?_
        refine e_get (C := RX6) (T := TX6) (N := 22) hx hb hts i6 hown hK hw Ew_mo rfl 14 (by decide) (hts (.fieldLink RX6 32 "FerryQuayModel" "rampOf" "[I") (by decide +kernel)) rfl dX6_lay_32 ?_
        refine f_iload_n hx hb dX6_lay_35 hl 1 rfl rfl ?_
        refine f_iload_n hx hb dX6_lay_36 hl 2 rfl rfl ?_
        refine e_iastN hx hb hK hw hS 0 Ew_m8 rfl rfl (by omega) (by decide) dX6_lay_37 (fun H locs hw hS => ?_)
        have hw := hw.cast Ep_m8
        refine f_iload_n hx hb dX6_lay_38 hl 3 rfl rfl ?_
        exact q_ism hx hb hr hlk hK hw hS dX6_lay_39 (by rw [sp_lay, hix]; dsimp only [Option.elim]; exact if_pos c10)
      · refine f_aload_n hx hb dX6_lay_13 hl 0 rfl rfl ?_
        refine f_iload_n hx hb dX6_lay_14 hl 2 rfl rfl ?_
        refine q_ci (q_runV (C := RX6) (T := TX6) (N := 22) ⟨hx, hb, hml, hown, hts⟩ (c_X6_isRamp l hI y) (cwV 1 hts gX6_lay_X6_isRamp rfl rfl rfl (by decide +kernel) ⟨Nat.le_of_ble_eq_true rfl, Nat.le_of_ble_eq_true rfl⟩) hK hw Ew_mo rfl rfl hl.1 rfl (by simp [Value.category, va_rf]) dX6_lay_15 ⟨Nat.le_of_ble_eq_true rfl, Nat.le_of_ble_eq_true rfl⟩) hS (fun H locs hw hS => ?_)
        refine f_top (y := 0) (is_bad hbad2) ?_
        refine lv_if_ne (tgt := 24) hx hb dX6_lay_18 (by decide) (fun c18 => absurd (by decide) c18) (fun c18 => ?_)
        refine lv_bipush (v := (-2)) hx hb dX6_lay_21 (by decide) ?_
        exact q_ism hx hb hr hlk hK hw hS dX6_lay_23 (by rw [sp_lay, hix]; dsimp only [Option.elim]; exact (if_neg c10).trans (by rw [hiy]))
    · refine f_aload_n hx hb dX6_lay_0 hl 0 rfl rfl ?_
      refine f_iload_n hx hb dX6_lay_1 hl 1 rfl rfl ?_
      refine q_ci (q_runV (C := RX6) (T := TX6) (N := 22) ⟨hx, hb, hml, hown, hts⟩ (c_X6_isBerth l hI (nI j)) (cwV 1 hts gX6_lay_X6_isBerth rfl rfl rfl (by decide +kernel) ⟨Nat.le_of_ble_eq_true rfl, Nat.le_of_ble_eq_true rfl⟩) hK hw Ew_mo rfl rfl hl.1 rfl (by simp [Value.category, va_rf]) dX6_lay_2 ⟨Nat.le_of_ble_eq_true rfl, Nat.le_of_ble_eq_true rfl⟩) hS (fun H locs hw hS => ?_)
      refine f_top (y := 1) (is_ok hj hI.nb2) ?_
      refine lv_if_eq (tgt := 21) hx hb dX6_lay_5 (by decide) (fun c5 => absurd c5 (by decide)) (fun c5 => ?_)
      refine f_iload_n hx hb dX6_lay_8 hl 2 rfl rfl ?_
      refine lv_iconst (v := (-1)) hx hb dX6_lay_9 (by decide) ?_
      refine lv_icmp_eq (tgt := 24) hx hb dX6_lay_10 (by decide) (fun c10 => ?_) (fun c10 => ?_)
      · refine f_aload_n hx hb dX6_lay_24 hl 0 rfl rfl ?_
        refine e_get (C := RX6) (T := TX6) (N := 22) hx hb hts i6 hown hK hw Ew_mo rfl 14 (by decide) (hts (.fieldLink RX6 32 "FerryQuayModel" "rampOf" "[I") (by decide +kernel)) rfl dX6_lay_25 ?_
        refine f_iload_n hx hb dX6_lay_28 hl 1 rfl rfl ?_
        refine e_ialdN hx hb hK hw 0 Ew_m8 rfl rfl (by omega) (by decide) dX6_lay_29 ?_
        refine f_istore_n hx hb dX6_lay_30 hl 3 rfl (by decide) (fun ls hl => ?_)
        refine f_aload_n hx hb dX6_lay_31 hl 0 rfl rfl ?_
        refine e_get (C := RX6) (T := TX6) (N := 22) hx hb hts i6 hown hK hw Ew_mo rfl 14 (by decide) (hts (.fieldLink RX6 32 "FerryQuayModel" "rampOf" "[I") (by decide +kernel)) rfl dX6_lay_32 ?_
        refine f_iload_n hx hb dX6_lay_35 hl 1 rfl rfl ?_
        refine f_iload_n hx hb dX6_lay_36 hl 2 rfl rfl ?_
        refine e_iastN hx hb hK hw hS 0 Ew_m8 rfl rfl (by omega) (by decide) dX6_lay_37 (fun H locs hw hS => ?_)
        have hw := hw.cast Ep_m8
        refine f_iload_n hx hb dX6_lay_38 hl 3 rfl rfl ?_
        exact q_ism hx hb hr hlk hK hw hS dX6_lay_39 (by rw [sp_lay, hix]; dsimp only [Option.elim]; exact if_pos c10)
      · refine f_aload_n hx hb dX6_lay_13 hl 0 rfl rfl ?_
        refine f_iload_n hx hb dX6_lay_14 hl 2 rfl rfl ?_
        refine q_ci (q_runV (C := RX6) (T := TX6) (N := 22) ⟨hx, hb, hml, hown, hts⟩ (c_X6_isRamp l hI (nI k)) (cwV 1 hts gX6_lay_X6_isRamp rfl rfl rfl (by decide +kernel) ⟨Nat.le_of_ble_eq_true rfl, Nat.le_of_ble_eq_true rfl⟩) hK hw Ew_mo rfl rfl hl.1 rfl (by simp [Value.category, va_rf]) dX6_lay_15 ⟨Nat.le_of_ble_eq_true rfl, Nat.le_of_ble_eq_true rfl⟩) hS (fun H locs hw hS => ?_)
        refine f_top (y := 1) (is_ok hk hI.nr2) ?_
        refine lv_if_ne (tgt := 24) hx hb dX6_lay_18 (by decide) (fun c18 => ?_) (fun c18 => absurd c18 (by decide))
        refine f_aload_n hx hb dX6_lay_24 hl 0 rfl rfl ?_
        refine e_get (C := RX6) (T := TX6) (N := 22) hx hb hts i6 hown hK hw Ew_mo rfl 14 (by decide) (hts (.fieldLink RX6 32 "FerryQuayModel" "rampOf" "[I") (by decide +kernel)) rfl dX6_lay_25 ?_
        refine f_iload_n hx hb dX6_lay_28 hl 1 rfl rfl ?_
        refine e_ialdN hx hb hK hw 0 Ew_m8 rfl rfl (by omega) (by decide) dX6_lay_29 ?_
        refine f_istore_n hx hb dX6_lay_30 hl 3 rfl (by decide) (fun ls hl => ?_)
        refine f_aload_n hx hb dX6_lay_31 hl 0 rfl rfl ?_
        refine e_get (C := RX6) (T := TX6) (N := 22) hx hb hts i6 hown hK hw Ew_mo rfl 14 (by decide) (hts (.fieldLink RX6 32 "FerryQuayModel" "rampOf" "[I") (by decide +kernel)) rfl dX6_lay_32 ?_
        refine f_iload_n hx hb dX6_lay_35 hl 1 rfl rfl ?_
        refine f_iload_n hx hb dX6_lay_36 hl 2 rfl rfl ?_
        refine e_iastN hx hb hK hw hS 0 Ew_m8 rfl rfl (by omega) (by decide) dX6_lay_37 (fun H locs hw hS => ?_)
        have hw := hw.cast Ep_m8
        refine f_iload_n hx hb dX6_lay_38 hl 3 rfl rfl ?_
        exact q_ism hx hb hr hlk hK hw hS dX6_lay_39 (by rw [sp_lay, hix]; dsimp only [Option.elim]; exact (if_neg c10).trans (by rw [hiy]))
set_option maxHeartbeats 4000000 in
set_option maxRecDepth 100000 in
theorem c_X6_shut (l : Launch) {G : va_G} {Y : YT} {lo : Nat} {ad : Nat → Nat → Nat} {ng nr nb : Nat} {z u : St} (hI : Inv u ng nr nb) (x v : Int32) (hv : v = 0 ∨ v = 1) : Met l yX6_shut wsX6_shut ({ frames := 1, cells := 0, slots := 0, locals := 21 }) (va_Pc [.ref (ad 0 4), .int x, .int v] (cS G (tysY Y) lo (Ew Y ng nr nb z u ad) ad)) (QI G (tysY Y) lo (sp_shut ng u x v).1 (Ew Y ng nr nb z (sp_shut ng u x v).2 ad) ad) 0 0 (fun q => lo ≤ q) := by
  refine met_of (cc := cX6_shut) (maxL := 4) (ret := (some .int)) (by decide) rfl (Nat.le_of_ble_eq_true rfl) rfl ?_
  intro p e s m below meth c ls hx hb hr hlk hml hts hown hnm hw hK hl hS
  have i6 : ∀ w ∈ wsX60, w ∈ wsX6_shut := by decide +kernel
  have hng := hI.mg
  have hnr := hI.mr
  have hnb := hI.mb
  rcases ix_cases x hI.ng2 with ⟨hix, hbad⟩ | ⟨j, hj, rfl, hix⟩
  · refine f_aload_n hx hb dX6_shut_0 hl 0 rfl rfl ?_
    refine f_iload_n hx hb dX6_shut_1 hl 1 rfl rfl ?_
    refine q_ci (q_runV (C := RX6) (T := TX6) (N := 22) ⟨hx, hb, hml, hown, hts⟩ (c_X6_isGate l hI x) (cwV 1 hts gX6_shut_X6_isGate rfl rfl rfl (by decide +kernel) ⟨Nat.le_of_ble_eq_true rfl, Nat.le_of_ble_eq_true rfl⟩) hK hw Ew_mo rfl rfl hl.1 rfl (by simp [Value.category, va_rf]) dX6_shut_2 ⟨Nat.le_of_ble_eq_true rfl, Nat.le_of_ble_eq_true rfl⟩) hS (fun H locs hw hS => ?_)
    refine f_top (y := 0) (is_bad hbad) ?_
    refine lv_if_ne (tgt := 11) hx hb dX6_shut_5 (by decide) (fun c5 => absurd (by decide) c5) (fun c5 => ?_)
    refine lv_bipush (v := (-2)) hx hb dX6_shut_8 (by decide) ?_
    exact q_ism hx hb hr hlk hK hw hS dX6_shut_10 (by rw [sp_shut, hix]; exact rfl)
  · refine f_aload_n hx hb dX6_shut_0 hl 0 rfl rfl ?_
    refine f_iload_n hx hb dX6_shut_1 hl 1 rfl rfl ?_
    refine q_ci (q_runV (C := RX6) (T := TX6) (N := 22) ⟨hx, hb, hml, hown, hts⟩ (c_X6_isGate l hI (nI j)) (cwV 1 hts gX6_shut_X6_isGate rfl rfl rfl (by decide +kernel) ⟨Nat.le_of_ble_eq_true rfl, Nat.le_of_ble_eq_true rfl⟩) hK hw Ew_mo rfl rfl hl.1 rfl (by simp [Value.category, va_rf]) dX6_shut_2 ⟨Nat.le_of_ble_eq_true rfl, Nat.le_of_ble_eq_true rfl⟩) hS (fun H locs hw hS => ?_)
    refine f_top (y := 1) (is_ok hj hI.ng2) ?_
    refine lv_if_ne (tgt := 11) hx hb dX6_shut_5 (by decide) (fun c5 => ?_) (fun c5 => absurd c5 (by decide))
    refine f_aload_n hx hb dX6_shut_11 hl 0 rfl rfl ?_
    refine e_get (C := RX6) (T := TX6) (N := 22) hx hb hts i6 hown hK hw Ew_mo rfl 7 (by decide) (hts (.fieldLink RX6 7 "FerryQuayModel" "isShut" "[Z") (by decide +kernel)) rfl dX6_shut_12 ?_
    refine f_iload_n hx hb dX6_shut_15 hl 1 rfl rfl ?_
    refine e_zaldN hx hb hK hw 1 Ew_m1 rfl rfl (by omega) (by decide) dX6_shut_16 ?_
    refine lv_if_eq (tgt := 24) hx hb dX6_shut_17 (by decide) (fun c17 => ?_) (fun c17 => ?_)
    · refine lv_iconst (v := 0) hx hb dX6_shut_24 (by decide) ?_
      refine f_top (y := sc u 1 j) (by rcases hI.b1 j with hq | hq <;> first | exact hq.symm | exact absurd hq c17 | exact absurd (hq.symm.trans c17) (by decide)) ?_
      refine f_istore_n hx hb dX6_shut_25 hl 3 rfl (by decide) (fun ls hl => ?_)
      refine f_aload_n hx hb dX6_shut_26 hl 0 rfl rfl ?_
      refine e_get (C := RX6) (T := TX6) (N := 22) hx hb hts i6 hown hK hw Ew_mo rfl 7 (by decide) (hts (.fieldLink RX6 7 "FerryQuayModel" "isShut" "[Z") (by decide +kernel)) rfl dX6_shut_27 ?_
      refine f_iload_n hx hb dX6_shut_30 hl 1 rfl rfl ?_
      refine f_iload_n hx hb dX6_shut_31 hl 2 rfl rfl ?_
      refine e_zastN hx hb hK hw hS 1 Ew_m1 rfl rfl (by omega) (by decide) (by rcases hv with rfl | rfl <;> rfl) dX6_shut_32 (fun H locs hw hS => ?_)
      have hw := hw.cast Ep_m1
      refine f_iload_n hx hb dX6_shut_33 hl 3 rfl rfl ?_
      exact q_ism hx hb hr hlk hK hw hS dX6_shut_34 (by rw [sp_shut, hix]; exact rfl)
    · refine lv_iconst (v := 1) hx hb dX6_shut_20 (by decide) ?_
      refine lv_goto (tgt := 25) hx hb dX6_shut_21 (by decide) ?_
      refine f_top (y := sc u 1 j) (by rcases hI.b1 j with hq | hq <;> first | exact hq.symm | exact absurd hq c17 | exact absurd (hq.symm.trans c17) (by decide)) ?_
      refine f_istore_n hx hb dX6_shut_25 hl 3 rfl (by decide) (fun ls hl => ?_)
      refine f_aload_n hx hb dX6_shut_26 hl 0 rfl rfl ?_
      refine e_get (C := RX6) (T := TX6) (N := 22) hx hb hts i6 hown hK hw Ew_mo rfl 7 (by decide) (hts (.fieldLink RX6 7 "FerryQuayModel" "isShut" "[Z") (by decide +kernel)) rfl dX6_shut_27 ?_
      refine f_iload_n hx hb dX6_shut_30 hl 1 rfl rfl ?_
      refine f_iload_n hx hb dX6_shut_31 hl 2 rfl rfl ?_
      refine e_zastN hx hb hK hw hS 1 Ew_m1 rfl rfl (by omega) (by decide) (by rcases hv with rfl | rfl <;> rfl) dX6_shut_32 (fun H locs hw hS => ?_)
      have hw := hw.cast Ep_m1
      refine f_iload_n hx hb dX6_shut_33 hl 3 rfl rfl ?_
      exact q_ism hx hb hr hlk hK hw hS dX6_shut_34 (by rw [sp_shut, hix]; exact rfl)
set_option maxHeartbeats 4000000 in
set_option maxRecDepth 100000 in
theorem c_X6_comes (l : Launch) {G : va_G} {Y : YT} {lo : Nat} {ad : Nat → Nat → Nat} {ng nr nb : Nat} {z u : St} (hI : Inv u ng nr nb) {j : Nat} (hj : j < nb) (x : Int32) (hn : ln u j < 30) : Met l yX6_comes wsX6_comes ({ frames := 0, cells := 0, slots := 0, locals := 0 }) (va_Pc [.ref (ad 0 4), .int (nI j), .int x] (cS G (tysY Y) lo (Ew Y ng nr nb z u ad) ad)) (QV G (tysY Y) lo (Ew Y ng nr nb z (comes u j x) ad) ad) 0 0 (fun q => lo ≤ q) := by
  refine met_of (cc := cX6_comes) (maxL := 3) (ret := none) (by decide) rfl (Nat.le_of_ble_eq_true rfl) rfl ?_
  intro p e s m below meth c ls hx hb hr hlk hml hts hown hnm hw hK hl hS
  have i6 : ∀ w ∈ wsX60, w ∈ wsX6_comes := by decide +kernel
  have hng := hI.mg
  have hnr := hI.mr
  have hnb := hI.mb
  obtain ⟨hL, hLn⟩ := hI.lane hj
  refine f_aload_n hx hb dX6_comes_0 hl 0 rfl rfl ?_
  refine e_get (C := RX6) (T := TX6) (N := 22) hx hb hts i6 hown hK hw Ew_mo rfl 17 (by decide) (hts (.fieldLink RX6 41 "FerryQuayModel" "lane" "[I") (by decide +kernel)) rfl dX6_comes_1 ?_
  refine lv_bipush (v := 30) hx hb dX6_comes_4 (by decide) ?_
  refine f_iload_n hx hb dX6_comes_6 hl 1 rfl rfl ?_
  refine lv_imul hx hb dX6_comes_7 ?_
  refine f_aload_n hx hb dX6_comes_8 hl 0 rfl rfl ?_
  refine e_get (C := RX6) (T := TX6) (N := 22) hx hb hts i6 hown hK hw Ew_mo rfl 16 (by decide) (hts (.fieldLink RX6 38 "FerryQuayModel" "waits" "[I") (by decide +kernel)) rfl dX6_comes_9 ?_
  refine f_iload_n hx hb dX6_comes_12 hl 1 rfl rfl ?_
  refine e_ialdN hx hb hK hw 0 Ew_m10 rfl rfl (by omega) (by decide) dX6_comes_13 ?_
  refine lv_iadd hx hb dX6_comes_14 ?_
  refine f_top (idx_add (k := 30) rfl hLn) ?_
  refine f_iload_n hx hb dX6_comes_15 hl 2 rfl rfl ?_
  refine e_iastN hx hb hK hw hS 0 Ew_m11 rfl rfl (by omega) (by decide) dX6_comes_16 (fun H locs hw hS => ?_)
  have hw := hw.cast (Ep_m11 hn)
  refine f_aload_n hx hb dX6_comes_17 hl 0 rfl rfl ?_
  refine e_get (C := RX6) (T := TX6) (N := 22) hx hb hts i6 hown hK hw Ew_mo rfl 16 (by decide) (hts (.fieldLink RX6 38 "FerryQuayModel" "waits" "[I") (by decide +kernel)) rfl dX6_comes_18 ?_
  refine f_iload_n hx hb dX6_comes_21 hl 1 rfl rfl ?_
  refine lv_dup2_11 hx hb dX6_comes_22 rfl rfl ?_
  refine e_ialdN hx hb hK hw 0 Ew_m10 rfl rfl (by omega) (by decide) dX6_comes_23 ?_
  refine lv_iconst (v := 1) hx hb dX6_comes_24 (by decide) ?_
  refine lv_iadd hx hb dX6_comes_25 ?_
  refine f_top ((congrArg (fun q => q + 1) hLn).trans (nI_1 (ln u j))) ?_
  refine e_iastN hx hb hK hw hS 0 Ew_m10 rfl rfl (by omega) (by decide) dX6_comes_26 (fun H locs hw hS => ?_)
  have hw := hw.cast Ep_m10
  exact q_vret hx hb hr hlk hK hw hS dX6_comes_27 rfl
