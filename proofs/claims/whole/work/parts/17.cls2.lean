set_option maxHeartbeats 4000000 in
set_option maxRecDepth 100000 in
theorem c_X5_tend (l : Launch) {G : va_G} {Y : YT} {lo : Nat} {ad : Nat → Nat → Nat} {ng nr nb : Nat} {z u : St} (hI : Inv z ng nr nb) (x : Int32) : Met l yX5_tend wsX5_tend ({ frames := 1, cells := 0, slots := 0, locals := 21 }) (va_Pc [.ref (ad 0 0), .int x] (cS G (tysY Y) lo (Ew Y ng nr nb z u ad) ad)) (QI G (tysY Y) lo (sp_tend nr z x).1 (Ew Y ng nr nb (sp_tend nr z x).2 u ad) ad) 0 0 (fun q => lo ≤ q) := by
  refine met_of (cc := cX5_tend) (maxL := 4) (ret := (some .int)) (by decide) rfl (Nat.le_of_ble_eq_true rfl) rfl ?_
  intro p e s m below meth c ls hx hb hr hlk hml hts hown hnm hw hK hl hS
  have i3 : ∀ w ∈ wsX30, w ∈ wsX5_tend := by decide +kernel
  have i5 : ∀ w ∈ wsX50, w ∈ wsX5_tend := by decide +kernel
  have hng := hI.mg
  have hnr := hI.mr
  have hnb := hI.mb
  rcases ix_cases x hI.nr2 with ⟨hix, hbad⟩ | ⟨j, hj, rfl, hix⟩
  · refine f_aload_n hx hb dX5_tend_0 hl 0 rfl rfl ?_
    refine f_iload_n hx hb dX5_tend_1 hl 1 rfl rfl ?_
    refine q_cq (q_runV (C := RX5) (T := TX5) (N := 10) ⟨hx, hb, hml, hown, hts⟩ (c_X5_rampAt l hI x) (cwV 1 hts gX5_tend_X5_rampAt rfl rfl rfl (by decide +kernel) ⟨Nat.le_of_ble_eq_true rfl, Nat.le_of_ble_eq_true rfl⟩) hK hw Ew_fq rfl rfl hl.1 rfl (by simp [Value.category, va_rf]) dX5_tend_2 ⟨Nat.le_of_ble_eq_true rfl, Nat.le_of_ble_eq_true rfl⟩) hS (fun H locs hw hS => ?_)
    refine f_val (y := .null) (by rw [hix]; rfl) ?_
    refine f_astore_nN hx hb dX5_tend_5 hl 2 rfl (by decide) (fun ls hl => ?_)
    refine f_aload_nN hx hb dX5_tend_6 hl 2 rfl rfl ?_
    refine lv_ifnonnullN hx hb dX5_tend_7 ?_
    refine lv_bipush (v := (-2)) hx hb dX5_tend_10 (by decide) ?_
    exact q_isp hx hb hr hlk hK hw hS dX5_tend_12 (by rw [sp_tend, hix]; exact rfl)
  · refine f_aload_n hx hb dX5_tend_0 hl 0 rfl rfl ?_
    refine f_iload_n hx hb dX5_tend_1 hl 1 rfl rfl ?_
    refine q_cq (q_runV (C := RX5) (T := TX5) (N := 10) ⟨hx, hb, hml, hown, hts⟩ (c_X5_rampAt l hI (nI j)) (cwV 1 hts gX5_tend_X5_rampAt rfl rfl rfl (by decide +kernel) ⟨Nat.le_of_ble_eq_true rfl, Nat.le_of_ble_eq_true rfl⟩) hK hw Ew_fq rfl rfl hl.1 rfl (by simp [Value.category, va_rf]) dX5_tend_2 ⟨Nat.le_of_ble_eq_true rfl, Nat.le_of_ble_eq_true rfl⟩) hS (fun H locs hw hS => ?_)
    refine f_val (y := .ref (ad 2 j)) (by rw [hix]; rfl) ?_
    refine f_astore_n hx hb dX5_tend_5 hl 2 rfl (by decide) (fun ls hl => ?_)
    refine f_aload_n hx hb dX5_tend_6 hl 2 rfl rfl ?_
    refine lv_ifnonnull (tgt := 13) hx hb dX5_tend_7 (by decide) ?_
    refine f_aload_n hx hb dX5_tend_13 hl 2 rfl rfl ?_
    refine lv_dup hx hb dX5_tend_14 rfl ?_
    refine e_get (C := RX3) (T := TX3) (N := 4) hx hb hts i3 hown hK hw (Ew_ramp (by assumption)) rfl 2 (by decide) (hts (.fieldLink RX5 108 "FerryQuay$Ramp" "taken" "I") (by decide +kernel)) rfl dX5_tend_15 ?_
    refine lv_iconst (v := 1) hx hb dX5_tend_18 (by decide) ?_
    refine lv_iadd hx hb dX5_tend_19 ?_
    refine e_put (C := RX3) (T := TX3) (N := 4) (ty := .int) hx hb hts i3 tyX3 tyX3_ok nmX3 hown hK hw hS (Ew_ramp (by assumption)) rfl 2 (by decide) (hts (.fieldLink RX5 108 "FerryQuay$Ramp" "taken" "I") (by decide +kernel)) rfl (by decide +kernel) rfl rfl (Nat.le_of_ble_eq_true rfl) dX5_tend_20 (fun H locs hw hS => ?_)
    have hw := hw.cast (Ep_ramp2 (by assumption))
    refine f_aload_n hx hb dX5_tend_23 hl 2 rfl rfl ?_
    refine e_get (C := RX3) (T := TX3) (N := 4) hx hb hts i3 hown hK hw (Ew_ramp (by assumption)) rfl 3 (by decide) (hts (.fieldLink RX5 141 "FerryQuay$Ramp" "wear" "I") (by decide +kernel)) rfl dX5_tend_24 ?_
    refine lv_if_ne (tgt := 37) hx hb dX5_tend_27 (by decide) (fun c27 => ?_) (fun c27 => ?_)
    · refine f_aload_n hx hb dX5_tend_37 hl 2 rfl rfl ?_
      refine e_get (C := RX3) (T := TX3) (N := 4) hx hb hts i3 hown hK hw (Ew_ramp (by assumption)) rfl 3 (by decide) (hts (.fieldLink RX5 141 "FerryQuay$Ramp" "wear" "I") (by decide +kernel)) rfl dX5_tend_38 ?_
      refine f_istore_n hx hb dX5_tend_41 hl 3 rfl (by decide) (fun ls hl => ?_)
      refine f_aload_n hx hb dX5_tend_42 hl 2 rfl rfl ?_
      refine lv_iconst (v := 0) hx hb dX5_tend_43 (by decide) ?_
      refine e_put (C := RX3) (T := TX3) (N := 4) (ty := .int) hx hb hts i3 tyX3 tyX3_ok nmX3 hown hK hw hS (Ew_ramp (by assumption)) rfl 3 (by decide) (hts (.fieldLink RX5 141 "FerryQuay$Ramp" "wear" "I") (by decide +kernel)) rfl (by decide +kernel) rfl rfl (Nat.le_of_ble_eq_true rfl) dX5_tend_44 (fun H locs hw hS => ?_)
      have hw := hw.cast (Ep_ramp3 (by assumption))
      refine f_iload_n hx hb dX5_tend_47 hl 3 rfl rfl ?_
      exact q_isp hx hb hr hlk hK hw hS dX5_tend_48 (by rw [sp_tend, hix]; dsimp only [Option.elim]; exact (if_neg c27))
    · refine f_aload_n hx hb dX5_tend_30 hl 0 rfl rfl ?_
      refine lv_bipush (v := (-5)) hx hb dX5_tend_31 (by decide) ?_
      refine q_ci (q_runV (C := RX5) (T := TX5) (N := 10) ⟨hx, hb, hml, hown, hts⟩ (c_X5_alarm l (hI.p6 hj) (-5)) (cwV 1 hts gX5_tend_X5_alarm rfl rfl rfl (by decide +kernel) ⟨Nat.le_of_ble_eq_true rfl, Nat.le_of_ble_eq_true rfl⟩) hK hw Ew_fq rfl rfl hl.1 rfl (by simp [Value.category, va_rf]) dX5_tend_33 ⟨Nat.le_of_ble_eq_true rfl, Nat.le_of_ble_eq_true rfl⟩) hS (fun H locs hw hS => ?_)
      exact q_isp hx hb hr hlk hK hw hS dX5_tend_36 (by rw [sp_tend, hix]; dsimp only [Option.elim]; exact (if_pos c27))
set_option maxHeartbeats 4000000 in
set_option maxRecDepth 100000 in
theorem c_X5_shut (l : Launch) {G : va_G} {Y : YT} {lo : Nat} {ad : Nat → Nat → Nat} {ng nr nb : Nat} {z u : St} (hI : Inv z ng nr nb) (x v : Int32) (hv : v = 0 ∨ v = 1) : Met l yX5_shut wsX5_shut ({ frames := 1, cells := 0, slots := 0, locals := 21 }) (va_Pc [.ref (ad 0 0), .int x, .int v] (cS G (tysY Y) lo (Ew Y ng nr nb z u ad) ad)) (QI G (tysY Y) lo (sp_shut ng z x v).1 (Ew Y ng nr nb (sp_shut ng z x v).2 u ad) ad) 0 0 (fun q => lo ≤ q) := by
  refine met_of (cc := cX5_shut) (maxL := 5) (ret := (some .int)) (by decide) rfl (Nat.le_of_ble_eq_true rfl) rfl ?_
  intro p e s m below meth c ls hx hb hr hlk hml hts hown hnm hw hK hl hS
  have i2 : ∀ w ∈ wsX20, w ∈ wsX5_shut := by decide +kernel
  have i5 : ∀ w ∈ wsX50, w ∈ wsX5_shut := by decide +kernel
  have hng := hI.mg
  have hnr := hI.mr
  have hnb := hI.mb
  rcases ix_cases x hI.ng2 with ⟨hix, hbad⟩ | ⟨j, hj, rfl, hix⟩
  · refine f_aload_n hx hb dX5_shut_0 hl 0 rfl rfl ?_
    refine f_iload_n hx hb dX5_shut_1 hl 1 rfl rfl ?_
    refine q_cq (q_runV (C := RX5) (T := TX5) (N := 10) ⟨hx, hb, hml, hown, hts⟩ (c_X5_gateAt l hI x) (cwV 1 hts gX5_shut_X5_gateAt rfl rfl rfl (by decide +kernel) ⟨Nat.le_of_ble_eq_true rfl, Nat.le_of_ble_eq_true rfl⟩) hK hw Ew_fq rfl rfl hl.1 rfl (by simp [Value.category, va_rf]) dX5_shut_2 ⟨Nat.le_of_ble_eq_true rfl, Nat.le_of_ble_eq_true rfl⟩) hS (fun H locs hw hS => ?_)
    refine f_val (y := .null) (by rw [hix]; rfl) ?_
    refine f_astore_nN hx hb dX5_shut_5 hl 3 rfl (by decide) (fun ls hl => ?_)
    refine f_aload_nN hx hb dX5_shut_6 hl 3 rfl rfl ?_
    refine lv_ifnonnullN hx hb dX5_shut_7 ?_
    refine lv_bipush (v := (-2)) hx hb dX5_shut_10 (by decide) ?_
    exact q_isp hx hb hr hlk hK hw hS dX5_shut_12 (by rw [sp_shut, hix]; exact rfl)
  · refine f_aload_n hx hb dX5_shut_0 hl 0 rfl rfl ?_
    refine f_iload_n hx hb dX5_shut_1 hl 1 rfl rfl ?_
    refine q_cq (q_runV (C := RX5) (T := TX5) (N := 10) ⟨hx, hb, hml, hown, hts⟩ (c_X5_gateAt l hI (nI j)) (cwV 1 hts gX5_shut_X5_gateAt rfl rfl rfl (by decide +kernel) ⟨Nat.le_of_ble_eq_true rfl, Nat.le_of_ble_eq_true rfl⟩) hK hw Ew_fq rfl rfl hl.1 rfl (by simp [Value.category, va_rf]) dX5_shut_2 ⟨Nat.le_of_ble_eq_true rfl, Nat.le_of_ble_eq_true rfl⟩) hS (fun H locs hw hS => ?_)
    refine f_val (y := .ref (ad 1 j)) (by rw [hix]; rfl) ?_
    refine f_astore_n hx hb dX5_shut_5 hl 3 rfl (by decide) (fun ls hl => ?_)
    refine f_aload_n hx hb dX5_shut_6 hl 3 rfl rfl ?_
    refine lv_ifnonnull (tgt := 13) hx hb dX5_shut_7 (by decide) ?_
    refine f_aload_n hx hb dX5_shut_13 hl 3 rfl rfl ?_
    refine q_ci (q_runV (C := RX2) (T := TX2) (N := 4) ⟨hx, hb, hml, hown, hts⟩ (c_X2_shutAsNumber l hI (by assumption)) (cwV 0 hts gX5_shut_X2_shutAsNumber rfl rfl rfl (by decide +kernel) ⟨Nat.le_of_ble_eq_true rfl, Nat.le_of_ble_eq_true rfl⟩) hK hw (Ew_gate (by assumption)) rfl rfl hl.1 rfl (by simp [Value.category, va_rf]) dX5_shut_14 ⟨Nat.le_of_ble_eq_true rfl, Nat.le_of_ble_eq_true rfl⟩) hS (fun H locs hw hS => ?_)
    refine f_istore hx hb dX5_shut_17 hl (by decide) (fun ls hl => ?_)
    refine f_aload_n hx hb dX5_shut_19 hl 3 rfl rfl ?_
    refine f_iload_n hx hb dX5_shut_20 hl 2 rfl rfl ?_
    refine e_put (C := RX2) (T := TX2) (N := 4) (ty := .boolean) hx hb hts i2 tyX2 tyX2_ok nmX2 hown hK hw hS (Ew_gate (by assumption)) rfl 1 (by decide) (hts (.fieldLink RX5 78 "FerryQuay$Gate" "isShut" "Z") (by decide +kernel)) rfl (by decide +kernel) (by rcases hv with rfl | rfl <;> rfl) (by rcases hv with rfl | rfl <;> rfl) (Nat.le_of_ble_eq_true rfl) dX5_shut_21 (fun H locs hw hS => ?_)
    have hw := hw.cast (Ep_gate1 (by assumption))
    refine f_iload hx hb dX5_shut_24 hl rfl ?_
    exact q_isp hx hb hr hlk hK hw hS dX5_shut_26 (by rw [sp_shut, hix]; exact rfl)
set_option maxHeartbeats 4000000 in
set_option maxRecDepth 100000 in
theorem c_X5_hinge (l : Launch) {G : va_G} {Y : YT} {lo : Nat} {ad : Nat → Nat → Nat} {ng nr nb : Nat} {z u : St} (hI : Inv z ng nr nb) (x y : Int32) : Met l yX5_hinge wsX5_hinge ({ frames := 1, cells := 0, slots := 0, locals := 21 }) (va_Pc [.ref (ad 0 0), .int x, .int y] (cS G (tysY Y) lo (Ew Y ng nr nb z u ad) ad)) (QI G (tysY Y) lo (sp_hinge ng nb z x y).1 (Ew Y ng nr nb (sp_hinge ng nb z x y).2 u ad) ad) 0 0 (fun q => lo ≤ q) := by
  refine met_of (cc := cX5_hinge) (maxL := 6) (ret := (some .int)) (by decide) rfl (Nat.le_of_ble_eq_true rfl) rfl ?_
  intro p e s m below meth c ls hx hb hr hlk hml hts hown hnm hw hK hl hS
  have i0 : ∀ w ∈ wsX00, w ∈ wsX5_hinge := by decide +kernel
  have i5 : ∀ w ∈ wsX50, w ∈ wsX5_hinge := by decide +kernel
  have hng := hI.mg
  have hnr := hI.mr
  have hnb := hI.mb
  rcases ix_cases x hI.nb2 with ⟨hix, hbad⟩ | ⟨j, hj, rfl, hix⟩
  · rcases ix_cases y hI.ng2 with ⟨hiy, hbad2⟩ | ⟨k, hk, rfl, hiy⟩
    · refine f_aload_n hx hb dX5_hinge_0 hl 0 rfl rfl ?_
      refine f_iload_n hx hb dX5_hinge_1 hl 1 rfl rfl ?_
      refine q_cq (q_runV (C := RX5) (T := TX5) (N := 10) ⟨hx, hb, hml, hown, hts⟩ (c_X5_berthAt l hI x) (cwV 1 hts gX5_hinge_X5_berthAt rfl rfl rfl (by decide +kernel) ⟨Nat.le_of_ble_eq_true rfl, Nat.le_of_ble_eq_true rfl⟩) hK hw Ew_fq rfl rfl hl.1 rfl (by simp [Value.category, va_rf]) dX5_hinge_2 ⟨Nat.le_of_ble_eq_true rfl, Nat.le_of_ble_eq_true rfl⟩) hS (fun H locs hw hS => ?_)
      refine f_val (y := .null) (by rw [hix]; rfl) ?_
      refine f_astore_nN hx hb dX5_hinge_5 hl 3 rfl (by decide) (fun ls hl => ?_)
      refine f_aload_n hx hb dX5_hinge_6 hl 0 rfl rfl ?_
      refine f_iload_n hx hb dX5_hinge_7 hl 2 rfl rfl ?_
      refine q_cq (q_runV (C := RX5) (T := TX5) (N := 10) ⟨hx, hb, hml, hown, hts⟩ (c_X5_gateAt l hI y) (cwV 1 hts gX5_hinge_X5_gateAt rfl rfl rfl (by decide +kernel) ⟨Nat.le_of_ble_eq_true rfl, Nat.le_of_ble_eq_true rfl⟩) hK hw Ew_fq rfl rfl hl.1 rfl (by simp [Value.category, va_rf]) dX5_hinge_8 ⟨Nat.le_of_ble_eq_true rfl, Nat.le_of_ble_eq_true rfl⟩) hS (fun H locs hw hS => ?_)
      refine f_val (y := .null) (by rw [hiy]; rfl) ?_
      refine f_astoreN hx hb dX5_hinge_11 hl (by decide) (fun ls hl => ?_)
      refine f_aload_nN hx hb dX5_hinge_13 hl 3 rfl rfl ?_
      refine lv_ifnullN (tgt := 27) hx hb dX5_hinge_14 (by decide) ?_
      refine lv_bipush (v := (-2)) hx hb dX5_hinge_27 (by decide) ?_
      exact q_isp hx hb hr hlk hK hw hS dX5_hinge_29 (by rw [sp_hinge, hix]; exact rfl)
    · refine f_aload_n hx hb dX5_hinge_0 hl 0 rfl rfl ?_
      refine f_iload_n hx hb dX5_hinge_1 hl 1 rfl rfl ?_
      refine q_cq (q_runV (C := RX5) (T := TX5) (N := 10) ⟨hx, hb, hml, hown, hts⟩ (c_X5_berthAt l hI x) (cwV 1 hts gX5_hinge_X5_berthAt rfl rfl rfl (by decide +kernel) ⟨Nat.le_of_ble_eq_true rfl, Nat.le_of_ble_eq_true rfl⟩) hK hw Ew_fq rfl rfl hl.1 rfl (by simp [Value.category, va_rf]) dX5_hinge_2 ⟨Nat.le_of_ble_eq_true rfl, Nat.le_of_ble_eq_true rfl⟩) hS (fun H locs hw hS => ?_)
      refine f_val (y := .null) (by rw [hix]; rfl) ?_
      refine f_astore_nN hx hb dX5_hinge_5 hl 3 rfl (by decide) (fun ls hl => ?_)
      refine f_aload_n hx hb dX5_hinge_6 hl 0 rfl rfl ?_
      refine f_iload_n hx hb dX5_hinge_7 hl 2 rfl rfl ?_
      refine q_cq (q_runV (C := RX5) (T := TX5) (N := 10) ⟨hx, hb, hml, hown, hts⟩ (c_X5_gateAt l hI (nI k)) (cwV 1 hts gX5_hinge_X5_gateAt rfl rfl rfl (by decide +kernel) ⟨Nat.le_of_ble_eq_true rfl, Nat.le_of_ble_eq_true rfl⟩) hK hw Ew_fq rfl rfl hl.1 rfl (by simp [Value.category, va_rf]) dX5_hinge_8 ⟨Nat.le_of_ble_eq_true rfl, Nat.le_of_ble_eq_true rfl⟩) hS (fun H locs hw hS => ?_)
      refine f_val (y := .ref (ad 1 k)) (by rw [hiy]; rfl) ?_
      refine f_astore hx hb dX5_hinge_11 hl (by decide) (fun ls hl => ?_)
      refine f_aload_nN hx hb dX5_hinge_13 hl 3 rfl rfl ?_
      refine lv_ifnullN (tgt := 27) hx hb dX5_hinge_14 (by decide) ?_
      refine lv_bipush (v := (-2)) hx hb dX5_hinge_27 (by decide) ?_
      exact q_isp hx hb hr hlk hK hw hS dX5_hinge_29 (by rw [sp_hinge, hix]; exact rfl)
  · rcases ix_cases y hI.ng2 with ⟨hiy, hbad2⟩ | ⟨k, hk, rfl, hiy⟩
    · refine f_aload_n hx hb dX5_hinge_0 hl 0 rfl rfl ?_
      refine f_iload_n hx hb dX5_hinge_1 hl 1 rfl rfl ?_
      refine q_cq (q_runV (C := RX5) (T := TX5) (N := 10) ⟨hx, hb, hml, hown, hts⟩ (c_X5_berthAt l hI (nI j)) (cwV 1 hts gX5_hinge_X5_berthAt rfl rfl rfl (by decide +kernel) ⟨Nat.le_of_ble_eq_true rfl, Nat.le_of_ble_eq_true rfl⟩) hK hw Ew_fq rfl rfl hl.1 rfl (by simp [Value.category, va_rf]) dX5_hinge_2 ⟨Nat.le_of_ble_eq_true rfl, Nat.le_of_ble_eq_true rfl⟩) hS (fun H locs hw hS => ?_)
      refine f_val (y := .ref (ad 3 j)) (by rw [hix]; rfl) ?_
      refine f_astore_n hx hb dX5_hinge_5 hl 3 rfl (by decide) (fun ls hl => ?_)
      refine f_aload_n hx hb dX5_hinge_6 hl 0 rfl rfl ?_
      refine f_iload_n hx hb dX5_hinge_7 hl 2 rfl rfl ?_
      refine q_cq (q_runV (C := RX5) (T := TX5) (N := 10) ⟨hx, hb, hml, hown, hts⟩ (c_X5_gateAt l hI y) (cwV 1 hts gX5_hinge_X5_gateAt rfl rfl rfl (by decide +kernel) ⟨Nat.le_of_ble_eq_true rfl, Nat.le_of_ble_eq_true rfl⟩) hK hw Ew_fq rfl rfl hl.1 rfl (by simp [Value.category, va_rf]) dX5_hinge_8 ⟨Nat.le_of_ble_eq_true rfl, Nat.le_of_ble_eq_true rfl⟩) hS (fun H locs hw hS => ?_)
      refine f_val (y := .null) (by rw [hiy]; rfl) ?_
      refine f_astoreN hx hb dX5_hinge_11 hl (by decide) (fun ls hl => ?_)
      refine f_aload_n hx hb dX5_hinge_13 hl 3 rfl rfl ?_
      refine lv_ifnull hx hb dX5_hinge_14 ?_
      refine f_aloadN hx hb dX5_hinge_17 hl rfl ?_
      refine lv_ifnonnullN hx hb dX5_hinge_19 ?_
      refine f_iload_n hx hb dX5_hinge_22 hl 2 rfl rfl ?_
      refine lv_iconst (v := (-1)) hx hb dX5_hinge_23 (by decide) ?_
      refine lv_icmp_eq (tgt := 30) hx hb dX5_hinge_24 (by decide) (fun c24 => ?_) (fun c24 => ?_)
      · refine f_aload_n hx hb dX5_hinge_30 hl 3 rfl rfl ?_
        refine q_ci (q_runV (C := RX0) (T := TX0) (N := 4) ⟨hx, hb, hml, hown, hts⟩ (c_X0_gateNumber l hI (by assumption)) (cwV 0 hts gX5_hinge_X0_gateNumber rfl rfl rfl (by decide +kernel) ⟨Nat.le_of_ble_eq_true rfl, Nat.le_of_ble_eq_true rfl⟩) hK hw (Ew_berth (by assumption)) rfl rfl hl.1 rfl (by simp [Value.category, va_rf]) dX5_hinge_31 ⟨Nat.le_of_ble_eq_true rfl, Nat.le_of_ble_eq_true rfl⟩) hS (fun H locs hw hS => ?_)
        refine f_istore hx hb dX5_hinge_34 hl (by decide) (fun ls hl => ?_)
        refine f_aload_n hx hb dX5_hinge_36 hl 3 rfl rfl ?_
        refine f_aloadN hx hb dX5_hinge_37 hl rfl ?_
        subst c24
        refine e_put (C := RX0) (T := TX0) (N := 4) (ty := .object "FerryQuay$Gate") hx hb hts i0 tyX0 tyX0_ok nmX0 hown hK hw hS (Ew_berth (by assumption)) rfl 2 (by decide) (hts (.fieldLink RX5 60 "FerryQuay$Berth" "gate" "LFerryQuay$Gate;") (by decide +kernel)) rfl (by decide +kernel) rfl rfl (Nat.le_of_ble_eq_true rfl) dX5_hinge_39 (fun H locs hw hS => ?_)
        have hw := hw.cast (Ep_b2N (by assumption))
        refine f_iload hx hb dX5_hinge_42 hl rfl ?_
        exact q_isp hx hb hr hlk hK hw hS dX5_hinge_44 (by rw [sp_hinge, hix]; dsimp only [Option.elim]; exact if_pos rfl)
      · refine lv_bipush (v := (-2)) hx hb dX5_hinge_27 (by decide) ?_
        exact q_isp hx hb hr hlk hK hw hS dX5_hinge_29 (by rw [sp_hinge, hix]; exact (if_neg c24).trans (by rw [hiy]; rfl))
    · refine f_aload_n hx hb dX5_hinge_0 hl 0 rfl rfl ?_
      refine f_iload_n hx hb dX5_hinge_1 hl 1 rfl rfl ?_
      refine q_cq (q_runV (C := RX5) (T := TX5) (N := 10) ⟨hx, hb, hml, hown, hts⟩ (c_X5_berthAt l hI (nI j)) (cwV 1 hts gX5_hinge_X5_berthAt rfl rfl rfl (by decide +kernel) ⟨Nat.le_of_ble_eq_true rfl, Nat.le_of_ble_eq_true rfl⟩) hK hw Ew_fq rfl rfl hl.1 rfl (by simp [Value.category, va_rf]) dX5_hinge_2 ⟨Nat.le_of_ble_eq_true rfl, Nat.le_of_ble_eq_true rfl⟩) hS (fun H locs hw hS => ?_)
      refine f_val (y := .ref (ad 3 j)) (by rw [hix]; rfl) ?_
      refine f_astore_n hx hb dX5_hinge_5 hl 3 rfl (by decide) (fun ls hl => ?_)
      refine f_aload_n hx hb dX5_hinge_6 hl 0 rfl rfl ?_
      refine f_iload_n hx hb dX5_hinge_7 hl 2 rfl rfl ?_
      refine q_cq (q_runV (C := RX5) (T := TX5) (N := 10) ⟨hx, hb, hml, hown, hts⟩ (c_X5_gateAt l hI (nI k)) (cwV 1 hts gX5_hinge_X5_gateAt rfl rfl rfl (by decide +kernel) ⟨Nat.le_of_ble_eq_true rfl, Nat.le_of_ble_eq_true rfl⟩) hK hw Ew_fq rfl rfl hl.1 rfl (by simp [Value.category, va_rf]) dX5_hinge_8 ⟨Nat.le_of_ble_eq_true rfl, Nat.le_of_ble_eq_true rfl⟩) hS (fun H locs hw hS => ?_)
      refine f_val (y := .ref (ad 1 k)) (by rw [hiy]; rfl) ?_
      refine f_astore hx hb dX5_hinge_11 hl (by decide) (fun ls hl => ?_)
      refine f_aload_n hx hb dX5_hinge_13 hl 3 rfl rfl ?_
      refine lv_ifnull hx hb dX5_hinge_14 ?_
      refine f_aload hx hb dX5_hinge_17 hl rfl ?_
      refine lv_ifnonnull (tgt := 30) hx hb dX5_hinge_19 (by decide) ?_
      refine f_aload_n hx hb dX5_hinge_30 hl 3 rfl rfl ?_
      refine q_ci (q_runV (C := RX0) (T := TX0) (N := 4) ⟨hx, hb, hml, hown, hts⟩ (c_X0_gateNumber l hI (by assumption)) (cwV 0 hts gX5_hinge_X0_gateNumber rfl rfl rfl (by decide +kernel) ⟨Nat.le_of_ble_eq_true rfl, Nat.le_of_ble_eq_true rfl⟩) hK hw (Ew_berth (by assumption)) rfl rfl hl.1 rfl (by simp [Value.category, va_rf]) dX5_hinge_31 ⟨Nat.le_of_ble_eq_true rfl, Nat.le_of_ble_eq_true rfl⟩) hS (fun H locs hw hS => ?_)
      refine f_istore hx hb dX5_hinge_34 hl (by decide) (fun ls hl => ?_)
      refine f_aload_n hx hb dX5_hinge_36 hl 3 rfl rfl ?_
      refine f_aload hx hb dX5_hinge_37 hl rfl ?_
      refine e_put (C := RX0) (T := TX0) (N := 4) (ty := .object "FerryQuay$Gate") hx hb hts i0 tyX0 tyX0_ok nmX0 hown hK hw hS (Ew_berth (by assumption)) rfl 2 (by decide) (hts (.fieldLink RX5 60 "FerryQuay$Berth" "gate" "LFerryQuay$Gate;") (by decide +kernel)) rfl (by decide +kernel) rfl rfl (Nat.le_of_ble_eq_true rfl) dX5_hinge_39 (fun H locs hw hS => ?_)
      have hw := hw.cast (Ep_b2R (by assumption) (by omega))
      refine f_iload hx hb dX5_hinge_42 hl rfl ?_
      exact q_isp hx hb hr hlk hK hw hS dX5_hinge_44 (by rw [sp_hinge, hix]; exact (if_neg (nI_m1 (by omega))).trans (by rw [hiy]; rfl))
set_option maxHeartbeats 4000000 in
set_option maxRecDepth 100000 in
theorem c_X5_lay (l : Launch) {G : va_G} {Y : YT} {lo : Nat} {ad : Nat → Nat → Nat} {ng nr nb : Nat} {z u : St} (hI : Inv z ng nr nb) (x y : Int32) : Met l yX5_lay wsX5_lay ({ frames := 1, cells := 0, slots := 0, locals := 21 }) (va_Pc [.ref (ad 0 0), .int x, .int y] (cS G (tysY Y) lo (Ew Y ng nr nb z u ad) ad)) (QI G (tysY Y) lo (sp_lay nr nb z x y).1 (Ew Y ng nr nb (sp_lay nr nb z x y).2 u ad) ad) 0 0 (fun q => lo ≤ q) := by
  refine met_of (cc := cX5_lay) (maxL := 6) (ret := (some .int)) (by decide) rfl (Nat.le_of_ble_eq_true rfl) rfl ?_
  intro p e s m below meth c ls hx hb hr hlk hml hts hown hnm hw hK hl hS
  have i0 : ∀ w ∈ wsX00, w ∈ wsX5_lay := by decide +kernel
  have i5 : ∀ w ∈ wsX50, w ∈ wsX5_lay := by decide +kernel
  have hng := hI.mg
  have hnr := hI.mr
  have hnb := hI.mb
  rcases ix_cases x hI.nb2 with ⟨hix, hbad⟩ | ⟨j, hj, rfl, hix⟩
  · rcases ix_cases y hI.nr2 with ⟨hiy, hbad2⟩ | ⟨k, hk, rfl, hiy⟩
    · refine f_aload_n hx hb dX5_lay_0 hl 0 rfl rfl ?_
      refine f_iload_n hx hb dX5_lay_1 hl 1 rfl rfl ?_
      refine q_cq (q_runV (C := RX5) (T := TX5) (N := 10) ⟨hx, hb, hml, hown, hts⟩ (c_X5_berthAt l hI x) (cwV 1 hts gX5_lay_X5_berthAt rfl rfl rfl (by decide +kernel) ⟨Nat.le_of_ble_eq_true rfl, Nat.le_of_ble_eq_true rfl⟩) hK hw Ew_fq rfl rfl hl.1 rfl (by simp [Value.category, va_rf]) dX5_lay_2 ⟨Nat.le_of_ble_eq_true rfl, Nat.le_of_ble_eq_true rfl⟩) hS (fun H locs hw hS => ?_)
      refine f_val (y := .null) (by rw [hix]; rfl) ?_
      refine f_astore_nN hx hb dX5_lay_5 hl 3 rfl (by decide) (fun ls hl => ?_)
      refine f_aload_n hx hb dX5_lay_6 hl 0 rfl rfl ?_
      refine f_iload_n hx hb dX5_lay_7 hl 2 rfl rfl ?_
      refine q_cq (q_runV (C := RX5) (T := TX5) (N := 10) ⟨hx, hb, hml, hown, hts⟩ (c_X5_rampAt l hI y) (cwV 1 hts gX5_lay_X5_rampAt rfl rfl rfl (by decide +kernel) ⟨Nat.le_of_ble_eq_true rfl, Nat.le_of_ble_eq_true rfl⟩) hK hw Ew_fq rfl rfl hl.1 rfl (by simp [Value.category, va_rf]) dX5_lay_8 ⟨Nat.le_of_ble_eq_true rfl, Nat.le_of_ble_eq_true rfl⟩) hS (fun H locs hw hS => ?_)
      refine f_val (y := .null) (by rw [hiy]; rfl) ?_
      refine f_astoreN hx hb dX5_lay_11 hl (by decide) (fun ls hl => ?_)
      refine f_aload_nN hx hb dX5_lay_13 hl 3 rfl rfl ?_
      refine lv_ifnullN (tgt := 27) hx hb dX5_lay_14 (by decide) ?_
      refine lv_bipush (v := (-2)) hx hb dX5_lay_27 (by decide) ?_
      exact q_isp hx hb hr hlk hK hw hS dX5_lay_29 (by rw [sp_lay, hix]; exact rfl)
    · refine f_aload_n hx hb dX5_lay_0 hl 0 rfl rfl ?_
      refine f_iload_n hx hb dX5_lay_1 hl 1 rfl rfl ?_
      refine q_cq (q_runV (C := RX5) (T := TX5) (N := 10) ⟨hx, hb, hml, hown, hts⟩ (c_X5_berthAt l hI x) (cwV 1 hts gX5_lay_X5_berthAt rfl rfl rfl (by decide +kernel) ⟨Nat.le_of_ble_eq_true rfl, Nat.le_of_ble_eq_true rfl⟩) hK hw Ew_fq rfl rfl hl.1 rfl (by simp [Value.category, va_rf]) dX5_lay_2 ⟨Nat.le_of_ble_eq_true rfl, Nat.le_of_ble_eq_true rfl⟩) hS (fun H locs hw hS => ?_)
      refine f_val (y := .null) (by rw [hix]; rfl) ?_
      refine f_astore_nN hx hb dX5_lay_5 hl 3 rfl (by decide) (fun ls hl => ?_)
      refine f_aload_n hx hb dX5_lay_6 hl 0 rfl rfl ?_
      refine f_iload_n hx hb dX5_lay_7 hl 2 rfl rfl ?_
      refine q_cq (q_runV (C := RX5) (T := TX5) (N := 10) ⟨hx, hb, hml, hown, hts⟩ (c_X5_rampAt l hI (nI k)) (cwV 1 hts gX5_lay_X5_rampAt rfl rfl rfl (by decide +kernel) ⟨Nat.le_of_ble_eq_true rfl, Nat.le_of_ble_eq_true rfl⟩) hK hw Ew_fq rfl rfl hl.1 rfl (by simp [Value.category, va_rf]) dX5_lay_8 ⟨Nat.le_of_ble_eq_true rfl, Nat.le_of_ble_eq_true rfl⟩) hS (fun H locs hw hS => ?_)
      refine f_val (y := .ref (ad 2 k)) (by rw [hiy]; rfl) ?_
      refine f_astore hx hb dX5_lay_11 hl (by decide) (fun ls hl => ?_)
      refine f_aload_nN hx hb dX5_lay_13 hl 3 rfl rfl ?_
      refine lv_ifnullN (tgt := 27) hx hb dX5_lay_14 (by decide) ?_
      refine lv_bipush (v := (-2)) hx hb dX5_lay_27 (by decide) ?_
      exact q_isp hx hb hr hlk hK hw hS dX5_lay_29 (by rw [sp_lay, hix]; exact rfl)
  · rcases ix_cases y hI.nr2 with ⟨hiy, hbad2⟩ | ⟨k, hk, rfl, hiy⟩
    · refine f_aload_n hx hb dX5_lay_0 hl 0 rfl rfl ?_
      refine f_iload_n hx hb dX5_lay_1 hl 1 rfl rfl ?_
      refine q_cq (q_runV (C := RX5) (T := TX5) (N := 10) ⟨hx, hb, hml, hown, hts⟩ (c_X5_berthAt l hI (nI j)) (cwV 1 hts gX5_lay_X5_berthAt rfl rfl rfl (by decide +kernel) ⟨Nat.le_of_ble_eq_true rfl, Nat.le_of_ble_eq_true rfl⟩) hK hw Ew_fq rfl rfl hl.1 rfl (by simp [Value.category, va_rf]) dX5_lay_2 ⟨Nat.le_of_ble_eq_true rfl, Nat.le_of_ble_eq_true rfl⟩) hS (fun H locs hw hS => ?_)
      refine f_val (y := .ref (ad 3 j)) (by rw [hix]; rfl) ?_
      refine f_astore_n hx hb dX5_lay_5 hl 3 rfl (by decide) (fun ls hl => ?_)
      refine f_aload_n hx hb dX5_lay_6 hl 0 rfl rfl ?_
      refine f_iload_n hx hb dX5_lay_7 hl 2 rfl rfl ?_
      refine q_cq (q_runV (C := RX5) (T := TX5) (N := 10) ⟨hx, hb, hml, hown, hts⟩ (c_X5_rampAt l hI y) (cwV 1 hts gX5_lay_X5_rampAt rfl rfl rfl (by decide +kernel) ⟨Nat.le_of_ble_eq_true rfl, Nat.le_of_ble_eq_true rfl⟩) hK hw Ew_fq rfl rfl hl.1 rfl (by simp [Value.category, va_rf]) dX5_lay_8 ⟨Nat.le_of_ble_eq_true rfl, Nat.le_of_ble_eq_true rfl⟩) hS (fun H locs hw hS => ?_)
      refine f_val (y := .null) (by rw [hiy]; rfl) ?_
      refine f_astoreN hx hb dX5_lay_11 hl (by decide) (fun ls hl => ?_)
      refine f_aload_n hx hb dX5_lay_13 hl 3 rfl rfl ?_
      refine lv_ifnull hx hb dX5_lay_14 ?_
      refine f_aloadN hx hb dX5_lay_17 hl rfl ?_
      refine lv_ifnonnullN hx hb dX5_lay_19 ?_
      refine f_iload_n hx hb dX5_lay_22 hl 2 rfl rfl ?_
      refine lv_iconst (v := (-1)) hx hb dX5_lay_23 (by decide) ?_
      refine lv_icmp_eq (tgt := 30) hx hb dX5_lay_24 (by decide) (fun c24 => ?_) (fun c24 => ?_)
      · refine f_aload_n hx hb dX5_lay_30 hl 3 rfl rfl ?_
        refine q_ci (q_runV (C := RX0) (T := TX0) (N := 4) ⟨hx, hb, hml, hown, hts⟩ (c_X0_rampNumber l hI (by assumption)) (cwV 0 hts gX5_lay_X0_rampNumber rfl rfl rfl (by decide +kernel) ⟨Nat.le_of_ble_eq_true rfl, Nat.le_of_ble_eq_true rfl⟩) hK hw (Ew_berth (by assumption)) rfl rfl hl.1 rfl (by simp [Value.category, va_rf]) dX5_lay_31 ⟨Nat.le_of_ble_eq_true rfl, Nat.le_of_ble_eq_true rfl⟩) hS (fun H locs hw hS => ?_)
        refine f_istore hx hb dX5_lay_34 hl (by decide) (fun ls hl => ?_)
        refine f_aload_n hx hb dX5_lay_36 hl 3 rfl rfl ?_
        refine f_aloadN hx hb dX5_lay_37 hl rfl ?_
        subst c24
        refine e_put (C := RX0) (T := TX0) (N := 4) (ty := .object "FerryQuay$Ramp") hx hb hts i0 tyX0 tyX0_ok nmX0 hown hK hw hS (Ew_berth (by assumption)) rfl 3 (by decide) (hts (.fieldLink RX5 71 "FerryQuay$Berth" "ramp" "LFerryQuay$Ramp;") (by decide +kernel)) rfl (by decide +kernel) rfl rfl (Nat.le_of_ble_eq_true rfl) dX5_lay_39 (fun H locs hw hS => ?_)
        have hw := hw.cast (Ep_b3N (by assumption))
        refine f_iload hx hb dX5_lay_42 hl rfl ?_
        exact q_isp hx hb hr hlk hK hw hS dX5_lay_44 (by rw [sp_lay, hix]; dsimp only [Option.elim]; exact if_pos rfl)
      · refine lv_bipush (v := (-2)) hx hb dX5_lay_27 (by decide) ?_
        exact q_isp hx hb hr hlk hK hw hS dX5_lay_29 (by rw [sp_lay, hix]; exact (if_neg c24).trans (by rw [hiy]; rfl))
    · refine f_aload_n hx hb dX5_lay_0 hl 0 rfl rfl ?_
      refine f_iload_n hx hb dX5_lay_1 hl 1 rfl rfl ?_
      refine q_cq (q_runV (C := RX5) (T := TX5) (N := 10) ⟨hx, hb, hml, hown, hts⟩ (c_X5_berthAt l hI (nI j)) (cwV 1 hts gX5_lay_X5_berthAt rfl rfl rfl (by decide +kernel) ⟨Nat.le_of_ble_eq_true rfl, Nat.le_of_ble_eq_true rfl⟩) hK hw Ew_fq rfl rfl hl.1 rfl (by simp [Value.category, va_rf]) dX5_lay_2 ⟨Nat.le_of_ble_eq_true rfl, Nat.le_of_ble_eq_true rfl⟩) hS (fun H locs hw hS => ?_)
      refine f_val (y := .ref (ad 3 j)) (by rw [hix]; rfl) ?_
      refine f_astore_n hx hb dX5_lay_5 hl 3 rfl (by decide) (fun ls hl => ?_)
      refine f_aload_n hx hb dX5_lay_6 hl 0 rfl rfl ?_
      refine f_iload_n hx hb dX5_lay_7 hl 2 rfl rfl ?_
      refine q_cq (q_runV (C := RX5) (T := TX5) (N := 10) ⟨hx, hb, hml, hown, hts⟩ (c_X5_rampAt l hI (nI k)) (cwV 1 hts gX5_lay_X5_rampAt rfl rfl rfl (by decide +kernel) ⟨Nat.le_of_ble_eq_true rfl, Nat.le_of_ble_eq_true rfl⟩) hK hw Ew_fq rfl rfl hl.1 rfl (by simp [Value.category, va_rf]) dX5_lay_8 ⟨Nat.le_of_ble_eq_true rfl, Nat.le_of_ble_eq_true rfl⟩) hS (fun H locs hw hS => ?_)
      refine f_val (y := .ref (ad 2 k)) (by rw [hiy]; rfl) ?_
      refine f_astore hx hb dX5_lay_11 hl (by decide) (fun ls hl => ?_)
      refine f_aload_n hx hb dX5_lay_13 hl 3 rfl rfl ?_
      refine lv_ifnull hx hb dX5_lay_14 ?_
      refine f_aload hx hb dX5_lay_17 hl rfl ?_
      refine lv_ifnonnull (tgt := 30) hx hb dX5_lay_19 (by decide) ?_
      refine f_aload_n hx hb dX5_lay_30 hl 3 rfl rfl ?_
      refine q_ci (q_runV (C := RX0) (T := TX0) (N := 4) ⟨hx, hb, hml, hown, hts⟩ (c_X0_rampNumber l hI (by assumption)) (cwV 0 hts gX5_lay_X0_rampNumber rfl rfl rfl (by decide +kernel) ⟨Nat.le_of_ble_eq_true rfl, Nat.le_of_ble_eq_true rfl⟩) hK hw (Ew_berth (by assumption)) rfl rfl hl.1 rfl (by simp [Value.category, va_rf]) dX5_lay_31 ⟨Nat.le_of_ble_eq_true rfl, Nat.le_of_ble_eq_true rfl⟩) hS (fun H locs hw hS => ?_)
      refine f_istore hx hb dX5_lay_34 hl (by decide) (fun ls hl => ?_)
      refine f_aload_n hx hb dX5_lay_36 hl 3 rfl rfl ?_
      refine f_aload hx hb dX5_lay_37 hl rfl ?_
      refine e_put (C := RX0) (T := TX0) (N := 4) (ty := .object "FerryQuay$Ramp") hx hb hts i0 tyX0 tyX0_ok nmX0 hown hK hw hS (Ew_berth (by assumption)) rfl 3 (by decide) (hts (.fieldLink RX5 71 "FerryQuay$Berth" "ramp" "LFerryQuay$Ramp;") (by decide +kernel)) rfl (by decide +kernel) rfl rfl (Nat.le_of_ble_eq_true rfl) dX5_lay_39 (fun H locs hw hS => ?_)
      have hw := hw.cast (Ep_b3R (by assumption) (by omega))
      refine f_iload hx hb dX5_lay_42 hl rfl ?_
      exact q_isp hx hb hr hlk hK hw hS dX5_lay_44 (by rw [sp_lay, hix]; exact (if_neg (nI_m1 (by omega))).trans (by rw [hiy]; rfl))
set_option maxHeartbeats 4000000 in
set_option maxRecDepth 100000 in
theorem c_X5_ofGate (l : Launch) {G : va_G} {Y : YT} {lo : Nat} {ad : Nat → Nat → Nat} {ng nr nb : Nat} {z u : St} (hI : Inv z ng nr nb) (x y : Int32) : Met l yX5_ofGate wsX5_ofGate ({ frames := 1, cells := 0, slots := 0, locals := 21 }) (va_Pc [.ref (ad 0 0), .int x, .int y] (cS G (tysY Y) lo (Ew Y ng nr nb z u ad) ad)) (QI G (tysY Y) lo (sp_ofGate ng z x y) (Ew Y ng nr nb z u ad) ad) 0 0 (fun q => lo ≤ q) := by
  refine met_of (cc := cX5_ofGate) (maxL := 4) (ret := (some .int)) (by decide) rfl (Nat.le_of_ble_eq_true rfl) rfl ?_
  intro p e s m below meth c ls hx hb hr hlk hml hts hown hnm hw hK hl hS
  have i2 : ∀ w ∈ wsX20, w ∈ wsX5_ofGate := by decide +kernel
  have i5 : ∀ w ∈ wsX50, w ∈ wsX5_ofGate := by decide +kernel
  have hng := hI.mg
  have hnr := hI.mr
  have hnb := hI.mb
  rcases ix_cases x hI.ng2 with ⟨hix, hbad⟩ | ⟨j, hj, rfl, hix⟩
  · refine f_aload_n hx hb dX5_ofGate_0 hl 0 rfl rfl ?_
    refine f_iload_n hx hb dX5_ofGate_1 hl 1 rfl rfl ?_
    refine q_cq (q_runV (C := RX5) (T := TX5) (N := 10) ⟨hx, hb, hml, hown, hts⟩ (c_X5_gateAt l hI x) (cwV 1 hts gX5_ofGate_X5_gateAt rfl rfl rfl (by decide +kernel) ⟨Nat.le_of_ble_eq_true rfl, Nat.le_of_ble_eq_true rfl⟩) hK hw Ew_fq rfl rfl hl.1 rfl (by simp [Value.category, va_rf]) dX5_ofGate_2 ⟨Nat.le_of_ble_eq_true rfl, Nat.le_of_ble_eq_true rfl⟩) hS (fun H locs hw hS => ?_)
    refine f_val (y := .null) (by rw [hix]; rfl) ?_
    refine f_astore_nN hx hb dX5_ofGate_5 hl 3 rfl (by decide) (fun ls hl => ?_)
    refine f_aload_nN hx hb dX5_ofGate_6 hl 3 rfl rfl ?_
    refine lv_ifnonnullN hx hb dX5_ofGate_7 ?_
    refine lv_bipush (v := (-2)) hx hb dX5_ofGate_10 (by decide) ?_
    exact q_iret hx hb hr hlk hK hw hS dX5_ofGate_12 (Eq.symm (by rw [sp_ofGate, hix]; exact rfl)) rfl
  · refine f_aload_n hx hb dX5_ofGate_0 hl 0 rfl rfl ?_
    refine f_iload_n hx hb dX5_ofGate_1 hl 1 rfl rfl ?_
    refine q_cq (q_runV (C := RX5) (T := TX5) (N := 10) ⟨hx, hb, hml, hown, hts⟩ (c_X5_gateAt l hI (nI j)) (cwV 1 hts gX5_ofGate_X5_gateAt rfl rfl rfl (by decide +kernel) ⟨Nat.le_of_ble_eq_true rfl, Nat.le_of_ble_eq_true rfl⟩) hK hw Ew_fq rfl rfl hl.1 rfl (by simp [Value.category, va_rf]) dX5_ofGate_2 ⟨Nat.le_of_ble_eq_true rfl, Nat.le_of_ble_eq_true rfl⟩) hS (fun H locs hw hS => ?_)
    refine f_val (y := .ref (ad 1 j)) (by rw [hix]; rfl) ?_
    refine f_astore_n hx hb dX5_ofGate_5 hl 3 rfl (by decide) (fun ls hl => ?_)
    refine f_aload_n hx hb dX5_ofGate_6 hl 3 rfl rfl ?_
    refine lv_ifnonnull (tgt := 13) hx hb dX5_ofGate_7 (by decide) ?_
    refine f_iload_n hx hb dX5_ofGate_13 hl 2 rfl rfl ?_
    by_cases hs0 : y = 0
    · subst hs0
      refine lv_tableIn (tgt := 40) hx hb dX5_ofGate_14 (by decide) (by decide) rfl (by decide) ?_
      refine f_aload_n hx hb dX5_ofGate_40 hl 3 rfl rfl ?_
      refine e_get (C := RX2) (T := TX2) (N := 4) hx hb hts i2 hown hK hw (Ew_gate (by assumption)) rfl 2 (by decide) (hts (.fieldLink RX5 101 "FerryQuay$Gate" "taken" "I") (by decide +kernel)) rfl dX5_ofGate_41 ?_
      exact q_iret hx hb hr hlk hK hw hS dX5_ofGate_44 (Eq.symm (by rw [sp_ofGate, hix]; dsimp only [Option.elim]; exact (if_pos rfl))) rfl
    · by_cases hs1 : y = 1
      · subst hs1
        refine lv_tableIn (tgt := 45) hx hb dX5_ofGate_14 (by decide) (by decide) rfl (by decide) ?_
        refine f_aload_n hx hb dX5_ofGate_45 hl 3 rfl rfl ?_
        refine e_get (C := RX2) (T := TX2) (N := 4) hx hb hts i2 hown hK hw (Ew_gate (by assumption)) rfl 3 (by decide) (hts (.fieldLink RX5 138 "FerryQuay$Gate" "passed" "I") (by decide +kernel)) rfl dX5_ofGate_46 ?_
        exact q_iret hx hb hr hlk hK hw hS dX5_ofGate_49 (Eq.symm (by rw [sp_ofGate, hix]; dsimp only [Option.elim]; exact (Eq.trans (if_neg (by decide)) (if_pos rfl)))) rfl
      · by_cases hs2 : y = 2
        · subst hs2
          refine lv_tableIn (tgt := 50) hx hb dX5_ofGate_14 (by decide) (by decide) rfl (by decide) ?_
          refine f_aload_n hx hb dX5_ofGate_50 hl 3 rfl rfl ?_
          refine q_ci (q_runV (C := RX2) (T := TX2) (N := 4) ⟨hx, hb, hml, hown, hts⟩ (c_X2_shutAsNumber l hI (by assumption)) (cwV 0 hts gX5_ofGate_X2_shutAsNumber rfl rfl rfl (by decide +kernel) ⟨Nat.le_of_ble_eq_true rfl, Nat.le_of_ble_eq_true rfl⟩) hK hw (Ew_gate (by assumption)) rfl rfl hl.1 rfl (by simp [Value.category, va_rf]) dX5_ofGate_51 ⟨Nat.le_of_ble_eq_true rfl, Nat.le_of_ble_eq_true rfl⟩) hS (fun H locs hw hS => ?_)
          exact q_iret hx hb hr hlk hK hw hS dX5_ofGate_54 (Eq.symm (by rw [sp_ofGate, hix]; dsimp only [Option.elim]; exact (Eq.trans (if_neg (by decide)) (Eq.trans (if_neg (by decide)) (if_pos rfl))))) rfl
        · refine lv_tableOut (tgt := 55) hx hb dX5_ofGate_14 (sw_out (n := 2) (by decide) (fun k hk => by rcases (show k = 0 ∨ k = 1 ∨ k = 2 by omega) with rfl | rfl | rfl <;> assumption)) (by decide) ?_
          refine lv_bipush (v := (-2)) hx hb dX5_ofGate_55 (by decide) ?_
          exact q_iret hx hb hr hlk hK hw hS dX5_ofGate_57 (Eq.symm (by rw [sp_ofGate, hix]; dsimp only [Option.elim]; exact (Eq.trans (if_neg hs0) (Eq.trans (if_neg hs1) (if_neg hs2))))) rfl
set_option maxHeartbeats 4000000 in
set_option maxRecDepth 100000 in
theorem c_X5_ofRamp (l : Launch) {G : va_G} {Y : YT} {lo : Nat} {ad : Nat → Nat → Nat} {ng nr nb : Nat} {z u : St} (hI : Inv z ng nr nb) (x y : Int32) : Met l yX5_ofRamp wsX5_ofRamp ({ frames := 1, cells := 0, slots := 0, locals := 21 }) (va_Pc [.ref (ad 0 0), .int x, .int y] (cS G (tysY Y) lo (Ew Y ng nr nb z u ad) ad)) (QI G (tysY Y) lo (sp_ofRamp nr z x y) (Ew Y ng nr nb z u ad) ad) 0 0 (fun q => lo ≤ q) := by
  refine met_of (cc := cX5_ofRamp) (maxL := 4) (ret := (some .int)) (by decide) rfl (Nat.le_of_ble_eq_true rfl) rfl ?_
  intro p e s m below meth c ls hx hb hr hlk hml hts hown hnm hw hK hl hS
  have i3 : ∀ w ∈ wsX30, w ∈ wsX5_ofRamp := by decide +kernel
  have i5 : ∀ w ∈ wsX50, w ∈ wsX5_ofRamp := by decide +kernel
  have hng := hI.mg
  have hnr := hI.mr
  have hnb := hI.mb
  rcases ix_cases x hI.nr2 with ⟨hix, hbad⟩ | ⟨j, hj, rfl, hix⟩
  · refine f_aload_n hx hb dX5_ofRamp_0 hl 0 rfl rfl ?_
    refine f_iload_n hx hb dX5_ofRamp_1 hl 1 rfl rfl ?_
    refine q_cq (q_runV (C := RX5) (T := TX5) (N := 10) ⟨hx, hb, hml, hown, hts⟩ (c_X5_rampAt l hI x) (cwV 1 hts gX5_ofRamp_X5_rampAt rfl rfl rfl (by decide +kernel) ⟨Nat.le_of_ble_eq_true rfl, Nat.le_of_ble_eq_true rfl⟩) hK hw Ew_fq rfl rfl hl.1 rfl (by simp [Value.category, va_rf]) dX5_ofRamp_2 ⟨Nat.le_of_ble_eq_true rfl, Nat.le_of_ble_eq_true rfl⟩) hS (fun H locs hw hS => ?_)
    refine f_val (y := .null) (by rw [hix]; rfl) ?_
    refine f_astore_nN hx hb dX5_ofRamp_5 hl 3 rfl (by decide) (fun ls hl => ?_)
    refine f_aload_nN hx hb dX5_ofRamp_6 hl 3 rfl rfl ?_
    refine lv_ifnonnullN hx hb dX5_ofRamp_7 ?_
    refine lv_bipush (v := (-2)) hx hb dX5_ofRamp_10 (by decide) ?_
    exact q_iret hx hb hr hlk hK hw hS dX5_ofRamp_12 (Eq.symm (by rw [sp_ofRamp, hix]; exact rfl)) rfl
  · refine f_aload_n hx hb dX5_ofRamp_0 hl 0 rfl rfl ?_
    refine f_iload_n hx hb dX5_ofRamp_1 hl 1 rfl rfl ?_
    refine q_cq (q_runV (C := RX5) (T := TX5) (N := 10) ⟨hx, hb, hml, hown, hts⟩ (c_X5_rampAt l hI (nI j)) (cwV 1 hts gX5_ofRamp_X5_rampAt rfl rfl rfl (by decide +kernel) ⟨Nat.le_of_ble_eq_true rfl, Nat.le_of_ble_eq_true rfl⟩) hK hw Ew_fq rfl rfl hl.1 rfl (by simp [Value.category, va_rf]) dX5_ofRamp_2 ⟨Nat.le_of_ble_eq_true rfl, Nat.le_of_ble_eq_true rfl⟩) hS (fun H locs hw hS => ?_)
    refine f_val (y := .ref (ad 2 j)) (by rw [hix]; rfl) ?_
    refine f_astore_n hx hb dX5_ofRamp_5 hl 3 rfl (by decide) (fun ls hl => ?_)
    refine f_aload_n hx hb dX5_ofRamp_6 hl 3 rfl rfl ?_
    refine lv_ifnonnull (tgt := 13) hx hb dX5_ofRamp_7 (by decide) ?_
    refine f_iload_n hx hb dX5_ofRamp_13 hl 2 rfl rfl ?_
    by_cases hs0 : y = 0
    · subst hs0
      refine lv_tableIn (tgt := 40) hx hb dX5_ofRamp_14 (by decide) (by decide) rfl (by decide) ?_
      refine f_aload_n hx hb dX5_ofRamp_40 hl 3 rfl rfl ?_
      refine e_get (C := RX3) (T := TX3) (N := 4) hx hb hts i3 hown hK hw (Ew_ramp (by assumption)) rfl 2 (by decide) (hts (.fieldLink RX5 108 "FerryQuay$Ramp" "taken" "I") (by decide +kernel)) rfl dX5_ofRamp_41 ?_
      exact q_iret hx hb hr hlk hK hw hS dX5_ofRamp_44 (Eq.symm (by rw [sp_ofRamp, hix]; dsimp only [Option.elim]; exact (if_pos rfl))) rfl
    · by_cases hs1 : y = 1
      · subst hs1
        refine lv_tableIn (tgt := 45) hx hb dX5_ofRamp_14 (by decide) (by decide) rfl (by decide) ?_
        refine f_aload_n hx hb dX5_ofRamp_45 hl 3 rfl rfl ?_
        refine e_get (C := RX3) (T := TX3) (N := 4) hx hb hts i3 hown hK hw (Ew_ramp (by assumption)) rfl 3 (by decide) (hts (.fieldLink RX5 141 "FerryQuay$Ramp" "wear" "I") (by decide +kernel)) rfl dX5_ofRamp_46 ?_
        exact q_iret hx hb hr hlk hK hw hS dX5_ofRamp_49 (Eq.symm (by rw [sp_ofRamp, hix]; dsimp only [Option.elim]; exact (Eq.trans (if_neg (by decide)) (if_pos rfl)))) rfl
      · by_cases hs2 : y = 2
        · subst hs2
          refine lv_tableIn (tgt := 50) hx hb dX5_ofRamp_14 (by decide) (by decide) rfl (by decide) ?_
          refine f_aload_n hx hb dX5_ofRamp_50 hl 3 rfl rfl ?_
          refine e_get (C := RX3) (T := TX3) (N := 4) hx hb hts i3 hown hK hw (Ew_ramp (by assumption)) rfl 1 (by decide) (hts (.fieldLink RX5 122 "FerryQuay$Ramp" "limit" "I") (by decide +kernel)) rfl dX5_ofRamp_51 ?_
          exact q_iret hx hb hr hlk hK hw hS dX5_ofRamp_54 (Eq.symm (by rw [sp_ofRamp, hix]; dsimp only [Option.elim]; exact (Eq.trans (if_neg (by decide)) (Eq.trans (if_neg (by decide)) (if_pos rfl))))) rfl
        · refine lv_tableOut (tgt := 55) hx hb dX5_ofRamp_14 (sw_out (n := 2) (by decide) (fun k hk => by rcases (show k = 0 ∨ k = 1 ∨ k = 2 by omega) with rfl | rfl | rfl <;> assumption)) (by decide) ?_
          refine lv_bipush (v := (-2)) hx hb dX5_ofRamp_55 (by decide) ?_
          exact q_iret hx hb hr hlk hK hw hS dX5_ofRamp_57 (Eq.symm (by rw [sp_ofRamp, hix]; dsimp only [Option.elim]; exact (Eq.trans (if_neg hs0) (Eq.trans (if_neg hs1) (if_neg hs2))))) rfl
set_option maxHeartbeats 4000000 in
set_option maxRecDepth 100000 in
theorem c_X5_state (l : Launch) {G : va_G} {Y : YT} {lo : Nat} {ad : Nat → Nat → Nat} {ng nr nb : Nat} {z u : St} (hI : Inv z ng nr nb) (x y : Int32) : Met l yX5_state wsX5_state ({ frames := 1, cells := 0, slots := 0, locals := 21 }) (va_Pc [.ref (ad 0 0), .int x, .int y] (cS G (tysY Y) lo (Ew Y ng nr nb z u ad) ad)) (QI G (tysY Y) lo (sp_state nb z x y) (Ew Y ng nr nb z u ad) ad) 0 0 (fun q => lo ≤ q) := by
  refine met_of (cc := cX5_state) (maxL := 4) (ret := (some .int)) (by decide) rfl (Nat.le_of_ble_eq_true rfl) rfl ?_
  intro p e s m below meth c ls hx hb hr hlk hml hts hown hnm hw hK hl hS
  have i0 : ∀ w ∈ wsX00, w ∈ wsX5_state := by decide +kernel
  have i1 : ∀ w ∈ wsX10, w ∈ wsX5_state := by decide +kernel
  have i4 : ∀ w ∈ wsX40, w ∈ wsX5_state := by decide +kernel
  have i5 : ∀ w ∈ wsX50, w ∈ wsX5_state := by decide +kernel
  have hng := hI.mg
  have hnr := hI.mr
  have hnb := hI.mb
  rcases ix_cases x hI.nb2 with ⟨hix, hbad⟩ | ⟨j, hj, rfl, hix⟩
  · refine f_aload_n hx hb dX5_state_0 hl 0 rfl rfl ?_
    refine f_iload_n hx hb dX5_state_1 hl 1 rfl rfl ?_
    refine q_cq (q_runV (C := RX5) (T := TX5) (N := 10) ⟨hx, hb, hml, hown, hts⟩ (c_X5_berthAt l hI x) (cwV 1 hts gX5_state_X5_berthAt rfl rfl rfl (by decide +kernel) ⟨Nat.le_of_ble_eq_true rfl, Nat.le_of_ble_eq_true rfl⟩) hK hw Ew_fq rfl rfl hl.1 rfl (by simp [Value.category, va_rf]) dX5_state_2 ⟨Nat.le_of_ble_eq_true rfl, Nat.le_of_ble_eq_true rfl⟩) hS (fun H locs hw hS => ?_)
    refine f_val (y := .null) (by rw [hix]; rfl) ?_
    refine f_astore_nN hx hb dX5_state_5 hl 3 rfl (by decide) (fun ls hl => ?_)
    refine f_aload_nN hx hb dX5_state_6 hl 3 rfl rfl ?_
    refine lv_ifnonnullN hx hb dX5_state_7 ?_
    refine lv_bipush (v := (-2)) hx hb dX5_state_10 (by decide) ?_
    exact q_iret hx hb hr hlk hK hw hS dX5_state_12 (Eq.symm (by rw [sp_state, hix]; exact rfl)) rfl
  · obtain ⟨f, hf, hF, hFt⟩ := hI.ferry hj
    refine f_aload_n hx hb dX5_state_0 hl 0 rfl rfl ?_
    refine f_iload_n hx hb dX5_state_1 hl 1 rfl rfl ?_
    refine q_cq (q_runV (C := RX5) (T := TX5) (N := 10) ⟨hx, hb, hml, hown, hts⟩ (c_X5_berthAt l hI (nI j)) (cwV 1 hts gX5_state_X5_berthAt rfl rfl rfl (by decide +kernel) ⟨Nat.le_of_ble_eq_true rfl, Nat.le_of_ble_eq_true rfl⟩) hK hw Ew_fq rfl rfl hl.1 rfl (by simp [Value.category, va_rf]) dX5_state_2 ⟨Nat.le_of_ble_eq_true rfl, Nat.le_of_ble_eq_true rfl⟩) hS (fun H locs hw hS => ?_)
    refine f_val (y := .ref (ad 3 j)) (by rw [hix]; rfl) ?_
    refine f_astore_n hx hb dX5_state_5 hl 3 rfl (by decide) (fun ls hl => ?_)
    refine f_aload_n hx hb dX5_state_6 hl 3 rfl rfl ?_
    refine lv_ifnonnull (tgt := 13) hx hb dX5_state_7 (by decide) ?_
    refine f_iload_n hx hb dX5_state_13 hl 2 rfl rfl ?_
    by_cases hs0 : y = 0
    · subst hs0
      refine lv_tableIn (tgt := 52) hx hb dX5_state_14 (by decide) (by decide) rfl (by decide) ?_
      refine f_aload_n hx hb dX5_state_52 hl 3 rfl rfl ?_
      refine q_ci (q_runV (C := RX0) (T := TX0) (N := 4) ⟨hx, hb, hml, hown, hts⟩ (c_X0_gateNumber l hI (by assumption)) (cwV 0 hts gX5_state_X0_gateNumber rfl rfl rfl (by decide +kernel) ⟨Nat.le_of_ble_eq_true rfl, Nat.le_of_ble_eq_true rfl⟩) hK hw (Ew_berth (by assumption)) rfl rfl hl.1 rfl (by simp [Value.category, va_rf]) dX5_state_53 ⟨Nat.le_of_ble_eq_true rfl, Nat.le_of_ble_eq_true rfl⟩) hS (fun H locs hw hS => ?_)
      exact q_iret hx hb hr hlk hK hw hS dX5_state_56 (Eq.symm (by rw [sp_state, hix]; dsimp only [Option.elim]; exact (if_pos rfl))) rfl
    · by_cases hs1 : y = 1
      · subst hs1
        refine lv_tableIn (tgt := 57) hx hb dX5_state_14 (by decide) (by decide) rfl (by decide) ?_
        refine f_aload_n hx hb dX5_state_57 hl 3 rfl rfl ?_
        refine q_ci (q_runV (C := RX0) (T := TX0) (N := 4) ⟨hx, hb, hml, hown, hts⟩ (c_X0_rampNumber l hI (by assumption)) (cwV 0 hts gX5_state_X0_rampNumber rfl rfl rfl (by decide +kernel) ⟨Nat.le_of_ble_eq_true rfl, Nat.le_of_ble_eq_true rfl⟩) hK hw (Ew_berth (by assumption)) rfl rfl hl.1 rfl (by simp [Value.category, va_rf]) dX5_state_58 ⟨Nat.le_of_ble_eq_true rfl, Nat.le_of_ble_eq_true rfl⟩) hS (fun H locs hw hS => ?_)
        exact q_iret hx hb hr hlk hK hw hS dX5_state_61 (Eq.symm (by rw [sp_state, hix]; dsimp only [Option.elim]; exact (Eq.trans (if_neg (by decide)) (if_pos rfl)))) rfl
      · by_cases hs2 : y = 2
        · subst hs2
          refine lv_tableIn (tgt := 62) hx hb dX5_state_14 (by decide) (by decide) rfl (by decide) ?_
          refine f_aload_n hx hb dX5_state_62 hl 3 rfl rfl ?_
          refine e_get (C := RX0) (T := TX0) (N := 4) hx hb hts i0 hown hK hw (Ew_berth (by assumption)) rfl 0 (by decide) (hts (.fieldLink RX5 82 "FerryQuay$Berth" "lane" "LFerryQuay$Row;") (by decide +kernel)) rfl dX5_state_63 ?_
          refine e_get (C := RX4) (T := TX4) (N := 2) hx hb hts i4 hown hK hw (Ew_lane (by assumption)) rfl 1 (by decide) (hts (.fieldLink RX5 98 "FerryQuay$Row" "size" "I") (by decide +kernel)) rfl dX5_state_66 ?_
          exact q_iret hx hb hr hlk hK hw hS dX5_state_69 (Eq.symm (by rw [sp_state, hix]; dsimp only [Option.elim]; exact (Eq.trans (if_neg (by decide)) (Eq.trans (if_neg (by decide)) (if_pos rfl))))) rfl
        · by_cases hs3 : y = 3
          · subst hs3
            refine lv_tableIn (tgt := 70) hx hb dX5_state_14 (by decide) (by decide) rfl (by decide) ?_
            refine f_aload_n hx hb dX5_state_70 hl 3 rfl rfl ?_
            refine e_get (C := RX0) (T := TX0) (N := 4) hx hb hts i0 hown hK hw (Ew_berth (by assumption)) rfl 1 (by decide) (hts (.fieldLink RX5 125 "FerryQuay$Berth" "ferry" "LFerryQuay$Ferry;") (by decide +kernel)) rfl dX5_state_71 ?_
            refine f_val (congrArg (fun q => Value.ref (ad 6 q)) hFt) ?_
            refine e_get (C := RX1) (T := TX1) (N := 3) hx hb hts i1 hown hK hw (Ew_ferry (by assumption)) rfl 1 (by decide) (hts (.fieldLink RX5 148 "FerryQuay$Ferry" "vehicles" "LFerryQuay$Row;") (by decide +kernel)) rfl dX5_state_74 ?_
            refine e_get (C := RX4) (T := TX4) (N := 2) hx hb hts i4 hown hK hw (Ew_frow (by assumption)) rfl 1 (by decide) (hts (.fieldLink RX5 98 "FerryQuay$Row" "size" "I") (by decide +kernel)) rfl dX5_state_77 ?_
            exact q_iret hx hb hr hlk hK hw hS dX5_state_80 (Eq.symm (by rw [sp_state, hix]; dsimp only [Option.elim]; exact (Eq.trans (if_neg (by decide)) (Eq.trans (if_neg (by decide)) (Eq.trans (if_neg (by decide)) (Eq.trans (if_pos rfl) (congrArg (fun q => sc z 14 q) hFt))))))) rfl
          · by_cases hs4 : y = 4
            · subst hs4
              refine lv_tableIn (tgt := 81) hx hb dX5_state_14 (by decide) (by decide) rfl (by decide) ?_
              refine f_aload_n hx hb dX5_state_81 hl 3 rfl rfl ?_
              refine e_get (C := RX0) (T := TX0) (N := 4) hx hb hts i0 hown hK hw (Ew_berth (by assumption)) rfl 1 (by decide) (hts (.fieldLink RX5 125 "FerryQuay$Berth" "ferry" "LFerryQuay$Ferry;") (by decide +kernel)) rfl dX5_state_82 ?_
              refine f_val (congrArg (fun q => Value.ref (ad 6 q)) hFt) ?_
              refine e_get (C := RX1) (T := TX1) (N := 3) hx hb hts i1 hown hK hw (Ew_ferry (by assumption)) rfl 2 (by decide) (hts (.fieldLink RX5 160 "FerryQuay$Ferry" "load" "I") (by decide +kernel)) rfl dX5_state_85 ?_
              exact q_iret hx hb hr hlk hK hw hS dX5_state_88 (Eq.symm (by rw [sp_state, hix]; dsimp only [Option.elim]; exact (Eq.trans (if_neg (by decide)) (Eq.trans (if_neg (by decide)) (Eq.trans (if_neg (by decide)) (Eq.trans (if_neg (by decide)) (Eq.trans (if_pos rfl) (congrArg (fun q => sc z 13 q) hFt)))))))) rfl
            · by_cases hs5 : y = 5
              · subst hs5
                refine lv_tableIn (tgt := 89) hx hb dX5_state_14 (by decide) (by decide) rfl (by decide) ?_
                refine f_aload_n hx hb dX5_state_89 hl 3 rfl rfl ?_
                refine e_get (C := RX0) (T := TX0) (N := 4) hx hb hts i0 hown hK hw (Ew_berth (by assumption)) rfl 1 (by decide) (hts (.fieldLink RX5 125 "FerryQuay$Berth" "ferry" "LFerryQuay$Ferry;") (by decide +kernel)) rfl dX5_state_90 ?_
                refine f_val (congrArg (fun q => Value.ref (ad 6 q)) hFt) ?_
                refine e_get (C := RX1) (T := TX1) (N := 3) hx hb hts i1 hown hK hw (Ew_ferry (by assumption)) rfl 0 (by decide) (hts (.fieldLink RX5 167 "FerryQuay$Ferry" "room" "I") (by decide +kernel)) rfl dX5_state_93 ?_
                exact q_iret hx hb hr hlk hK hw hS dX5_state_96 (Eq.symm (by rw [sp_state, hix]; dsimp only [Option.elim]; exact (Eq.trans (if_neg (by decide)) (Eq.trans (if_neg (by decide)) (Eq.trans (if_neg (by decide)) (Eq.trans (if_neg (by decide)) (Eq.trans (if_neg (by decide)) (Eq.trans (if_pos rfl) (congrArg (fun q => sc z 12 q) hFt))))))))) rfl
              · refine lv_tableOut (tgt := 97) hx hb dX5_state_14 (sw_out (n := 5) (by decide) (fun k hk => by rcases (show k = 0 ∨ k = 1 ∨ k = 2 ∨ k = 3 ∨ k = 4 ∨ k = 5 by omega) with rfl | rfl | rfl | rfl | rfl | rfl <;> assumption)) (by decide) ?_
                refine lv_bipush (v := (-2)) hx hb dX5_state_97 (by decide) ?_
                exact q_iret hx hb hr hlk hK hw hS dX5_state_99 (Eq.symm (by rw [sp_state, hix]; dsimp only [Option.elim]; exact (Eq.trans (if_neg hs0) (Eq.trans (if_neg hs1) (Eq.trans (if_neg hs2) (Eq.trans (if_neg hs3) (Eq.trans (if_neg hs4) (if_neg hs5)))))))) rfl
set_option maxHeartbeats 4000000 in
set_option maxRecDepth 100000 in
theorem c_X5_count (l : Launch) {G : va_G} {Y : YT} {lo : Nat} {ad : Nat → Nat → Nat} {ng nr nb : Nat} {z u : St} (hI : Inv z ng nr nb) (y : Int32) : Met l yX5_count wsX5_count ({ frames := 0, cells := 0, slots := 0, locals := 0 }) (va_Pc [.ref (ad 0 0), .int y] (cS G (tysY Y) lo (Ew Y ng nr nb z u ad) ad)) (QI G (tysY Y) lo (sp_count z y) (Ew Y ng nr nb z u ad) ad) 0 0 (fun q => lo ≤ q) := by
  refine met_of (cc := cX5_count) (maxL := 2) (ret := (some .int)) (by decide) rfl (Nat.le_of_ble_eq_true rfl) rfl ?_
  intro p e s m below meth c ls hx hb hr hlk hml hts hown hnm hw hK hl hS
  have i5 : ∀ w ∈ wsX50, w ∈ wsX5_count := by decide +kernel
  have hng := hI.mg
  have hnr := hI.mr
  have hnb := hI.mb
  refine f_iload_n hx hb dX5_count_0 hl 1 rfl rfl ?_
  by_cases hs0 : y = 0
  · subst hs0
    refine lv_tableIn (tgt := 44) hx hb dX5_count_1 (by decide) (by decide) rfl (by decide) ?_
    refine f_aload_n hx hb dX5_count_44 hl 0 rfl rfl ?_
    refine e_get (C := RX5) (T := TX5) (N := 10) hx hb hts i5 hown hK hw Ew_fq rfl 3 (by decide) (hts (.fieldLink RX5 27 "FerryQuay" "gateCount" "I") (by decide +kernel)) rfl dX5_count_45 ?_
    exact q_iret hx hb hr hlk hK hw hS dX5_count_48 (Eq.symm (by rw [sp_count]; exact (if_pos rfl))) rfl
  · by_cases hs1 : y = 1
    · subst hs1
      refine lv_tableIn (tgt := 49) hx hb dX5_count_1 (by decide) (by decide) rfl (by decide) ?_
      refine f_aload_n hx hb dX5_count_49 hl 0 rfl rfl ?_
      refine e_get (C := RX5) (T := TX5) (N := 10) hx hb hts i5 hown hK hw Ew_fq rfl 4 (by decide) (hts (.fieldLink RX5 38 "FerryQuay" "rampCount" "I") (by decide +kernel)) rfl dX5_count_50 ?_
      exact q_iret hx hb hr hlk hK hw hS dX5_count_53 (Eq.symm (by rw [sp_count]; exact (Eq.trans (if_neg (by decide)) (if_pos rfl)))) rfl
    · by_cases hs2 : y = 2
      · subst hs2
        refine lv_tableIn (tgt := 54) hx hb dX5_count_1 (by decide) (by decide) rfl (by decide) ?_
        refine f_aload_n hx hb dX5_count_54 hl 0 rfl rfl ?_
        refine e_get (C := RX5) (T := TX5) (N := 10) hx hb hts i5 hown hK hw Ew_fq rfl 5 (by decide) (hts (.fieldLink RX5 44 "FerryQuay" "berthCount" "I") (by decide +kernel)) rfl dX5_count_55 ?_
        exact q_iret hx hb hr hlk hK hw hS dX5_count_58 (Eq.symm (by rw [sp_count]; exact (Eq.trans (if_neg (by decide)) (Eq.trans (if_neg (by decide)) (if_pos rfl))))) rfl
      · by_cases hs3 : y = 3
        · subst hs3
          refine lv_tableIn (tgt := 59) hx hb dX5_count_1 (by decide) (by decide) rfl (by decide) ?_
          refine f_aload_n hx hb dX5_count_59 hl 0 rfl rfl ?_
          refine e_get (C := RX5) (T := TX5) (N := 10) hx hb hts i5 hown hK hw Ew_fq rfl 6 (by decide) (hts (.fieldLink RX5 95 "FerryQuay" "arrived" "I") (by decide +kernel)) rfl dX5_count_60 ?_
          exact q_iret hx hb hr hlk hK hw hS dX5_count_63 (Eq.symm (by rw [sp_count]; exact (Eq.trans (if_neg (by decide)) (Eq.trans (if_neg (by decide)) (Eq.trans (if_neg (by decide)) (if_pos rfl)))))) rfl
        · by_cases hs4 : y = 4
          · subst hs4
            refine lv_tableIn (tgt := 64) hx hb dX5_count_1 (by decide) (by decide) rfl (by decide) ?_
            refine f_aload_n hx hb dX5_count_64 hl 0 rfl rfl ?_
            refine e_get (C := RX5) (T := TX5) (N := 10) hx hb hts i5 hown hK hw Ew_fq rfl 7 (by decide) (hts (.fieldLink RX5 157 "FerryQuay" "gone" "I") (by decide +kernel)) rfl dX5_count_65 ?_
            exact q_iret hx hb hr hlk hK hw hS dX5_count_68 (Eq.symm (by rw [sp_count]; exact (Eq.trans (if_neg (by decide)) (Eq.trans (if_neg (by decide)) (Eq.trans (if_neg (by decide)) (Eq.trans (if_neg (by decide)) (if_pos rfl))))))) rfl
          · by_cases hs5 : y = 5
            · subst hs5
              refine lv_tableIn (tgt := 69) hx hb dX5_count_1 (by decide) (by decide) rfl (by decide) ?_
              refine f_aload_n hx hb dX5_count_69 hl 0 rfl rfl ?_
              refine e_get (C := RX5) (T := TX5) (N := 10) hx hb hts i5 hown hK hw Ew_fq rfl 8 (by decide) (hts (.fieldLink RX5 116 "FerryQuay" "towed" "I") (by decide +kernel)) rfl dX5_count_70 ?_
              exact q_iret hx hb hr hlk hK hw hS dX5_count_73 (Eq.symm (by rw [sp_count]; exact (Eq.trans (if_neg (by decide)) (Eq.trans (if_neg (by decide)) (Eq.trans (if_neg (by decide)) (Eq.trans (if_neg (by decide)) (Eq.trans (if_neg (by decide)) (if_pos rfl)))))))) rfl
            · by_cases hs6 : y = 6
              · subst hs6
                refine lv_tableIn (tgt := 74) hx hb dX5_count_1 (by decide) (by decide) rfl (by decide) ?_
                refine f_aload_n hx hb dX5_count_74 hl 0 rfl rfl ?_
                refine e_get (C := RX5) (T := TX5) (N := 10) hx hb hts i5 hown hK hw Ew_fq rfl 9 (by decide) (hts (.fieldLink RX5 170 "FerryQuay" "alarms" "I") (by decide +kernel)) rfl dX5_count_75 ?_
                exact q_iret hx hb hr hlk hK hw hS dX5_count_78 (Eq.symm (by rw [sp_count]; exact (Eq.trans (if_neg (by decide)) (Eq.trans (if_neg (by decide)) (Eq.trans (if_neg (by decide)) (Eq.trans (if_neg (by decide)) (Eq.trans (if_neg (by decide)) (Eq.trans (if_neg (by decide)) (if_pos rfl))))))))) rfl
              · refine lv_tableOut (tgt := 79) hx hb dX5_count_1 (sw_out (n := 6) (by decide) (fun k hk => by rcases (show k = 0 ∨ k = 1 ∨ k = 2 ∨ k = 3 ∨ k = 4 ∨ k = 5 ∨ k = 6 by omega) with rfl | rfl | rfl | rfl | rfl | rfl | rfl <;> assumption)) (by decide) ?_
                refine lv_bipush (v := (-2)) hx hb dX5_count_79 (by decide) ?_
                exact q_iret hx hb hr hlk hK hw hS dX5_count_81 (Eq.symm (by rw [sp_count]; exact (Eq.trans (if_neg hs0) (Eq.trans (if_neg hs1) (Eq.trans (if_neg hs2) (Eq.trans (if_neg hs3) (Eq.trans (if_neg hs4) (Eq.trans (if_neg hs5) (if_neg hs6))))))))) rfl
theorem wAt_w {n cap : Nat} {a : Int32} {f : Nat → Int32} {y : Int32} (ha : a = nI n) (hn : n ≤ cap) (hcap : cap < 2 ^ 31) : (if y < 0 then (-1 : Int32) else if a ≤ y then -1 else f (tn y)) = (if y < 0 then -1 else if nI n ≤ y then -1 else if nI cap ≤ y then -1 else f y.toNatClampNeg) := by
  subst ha
  by_cases h1 : y < 0
  · rw [if_pos h1, if_pos h1]
  · rw [if_neg h1, if_neg h1]
    by_cases h2 : nI n ≤ y
    · rw [if_pos h2, if_pos h2]
    · rw [if_neg h2, if_neg h2, if_neg (fun h3 => h2 (Int32.le_trans (nI_le hn hcap) h3))]
theorem he_size {E : Option va_E} {r : Value} {a : Int32} {n : Nat} (h : E = some (.inr (4, [r, .int a]))) (ha : a = nI n) : E = some (.inr (4, [r, .int (nI n)])) := ha ▸ h
set_option maxHeartbeats 4000000 in
set_option maxRecDepth 100000 in
theorem c_X5_waiting (l : Launch) {G : va_G} {Y : YT} {lo : Nat} {ad : Nat → Nat → Nat} {ng nr nb : Nat} {z u : St} (hI : Inv z ng nr nb) (x y : Int32) : Met l yX5_waiting wsX5_waiting ({ frames := 1, cells := 0, slots := 0, locals := 21 }) (va_Pc [.ref (ad 0 0), .int x, .int y] (cS G (tysY Y) lo (Ew Y ng nr nb z u ad) ad)) (QI G (tysY Y) lo (sp_waiting nb z x y) (Ew Y ng nr nb z u ad) ad) 0 0 (fun q => lo ≤ q) := by
  refine met_of (cc := cX5_waiting) (maxL := 4) (ret := (some .int)) (by decide) rfl (Nat.le_of_ble_eq_true rfl) rfl ?_
  intro p e s m below meth c ls hx hb hr hlk hml hts hown hnm hw hK hl hS
  have i0 : ∀ w ∈ wsX00, w ∈ wsX5_waiting := by decide +kernel
  have hng := hI.mg
  have hnr := hI.mr
  have hnb := hI.mb
  rcases ix_cases x hI.nb2 with ⟨hix, hbad⟩ | ⟨j, hj, rfl, hix⟩
  · refine f_aload_n hx hb dX5_waiting_0 hl 0 rfl rfl ?_
    refine f_iload_n hx hb dX5_waiting_1 hl 1 rfl rfl ?_
    refine q_cq (q_runV (C := RX5) (T := TX5) (N := 10) ⟨hx, hb, hml, hown, hts⟩ (c_X5_berthAt l hI x) (cwV 1 hts gX5_waiting_X5_berthAt rfl rfl rfl (by decide +kernel) ⟨Nat.le_of_ble_eq_true rfl, Nat.le_of_ble_eq_true rfl⟩) hK hw Ew_fq rfl rfl hl.1 rfl (by simp [Value.category, va_rf]) dX5_waiting_2 ⟨Nat.le_of_ble_eq_true rfl, Nat.le_of_ble_eq_true rfl⟩) hS (fun H locs hw hS => ?_)
    refine f_val (y := .null) (by rw [hix]; rfl) ?_
    refine f_astore_nN hx hb dX5_waiting_5 hl 3 rfl (by decide) (fun ls hl => ?_)
    refine f_aload_nN hx hb dX5_waiting_6 hl 3 rfl rfl ?_
    refine lv_ifnonnullN hx hb dX5_waiting_7 ?_
    refine lv_bipush (v := (-2)) hx hb dX5_waiting_10 (by decide) ?_
    refine lv_goto (tgt := 23) hx hb dX5_waiting_12 (by decide) ?_
    exact q_iret hx hb hr hlk hK hw hS dX5_waiting_23 (Eq.symm (by rw [sp_waiting, hix]; exact rfl)) rfl
  · obtain ⟨hL, hLn⟩ := hI.lane hj
    refine f_aload_n hx hb dX5_waiting_0 hl 0 rfl rfl ?_
    refine f_iload_n hx hb dX5_waiting_1 hl 1 rfl rfl ?_
    refine q_cq (q_runV (C := RX5) (T := TX5) (N := 10) ⟨hx, hb, hml, hown, hts⟩ (c_X5_berthAt l hI (nI j)) (cwV 1 hts gX5_waiting_X5_berthAt rfl rfl rfl (by decide +kernel) ⟨Nat.le_of_ble_eq_true rfl, Nat.le_of_ble_eq_true rfl⟩) hK hw Ew_fq rfl rfl hl.1 rfl (by simp [Value.category, va_rf]) dX5_waiting_2 ⟨Nat.le_of_ble_eq_true rfl, Nat.le_of_ble_eq_true rfl⟩) hS (fun H locs hw hS => ?_)
    refine f_val (y := .ref (ad 3 j)) (by rw [hix]; rfl) ?_
    refine f_astore_n hx hb dX5_waiting_5 hl 3 rfl (by decide) (fun ls hl => ?_)
    refine f_aload_n hx hb dX5_waiting_6 hl 3 rfl rfl ?_
    refine lv_ifnonnull (tgt := 15) hx hb dX5_waiting_7 (by decide) ?_
    refine f_aload_n hx hb dX5_waiting_15 hl 3 rfl rfl ?_
    refine e_get (C := RX0) (T := TX0) (N := 4) hx hb hts i0 hown hK hw (Ew_berth (by assumption)) rfl 0 (by decide) (hts (.fieldLink RX5 82 "FerryQuay$Berth" "lane" "LFerryQuay$Row;") (by decide +kernel)) rfl dX5_waiting_16 ?_
    refine f_iload_n hx hb dX5_waiting_19 hl 2 rfl rfl ?_
    refine q_ci (q_runV (C := RX4) (T := TX4) (N := 2) ⟨hx, hb, hml, hown, hts⟩ (c_X4_weightAt l (he_size (Ew_lane hj) hLn) (Ew_larr hj) (by decide) y) (cwV 1 hts gX5_waiting_X4_weightAt rfl rfl rfl (by decide +kernel) ⟨Nat.le_of_ble_eq_true rfl, Nat.le_of_ble_eq_true rfl⟩) hK hw (Ew_lane (by assumption)) rfl rfl hl.1 rfl (by simp [Value.category, va_rf]) dX5_waiting_20 ⟨Nat.le_of_ble_eq_true rfl, Nat.le_of_ble_eq_true rfl⟩) hS (fun H locs hw hS => ?_)
    exact q_iret hx hb hr hlk hK hw hS dX5_waiting_23 (Eq.symm (by rw [sp_waiting, hix]; dsimp only [Option.elim]; exact wAt_w hLn hL (by decide))) rfl
set_option maxHeartbeats 4000000 in
set_option maxRecDepth 100000 in
theorem c_X5_aboard (l : Launch) {G : va_G} {Y : YT} {lo : Nat} {ad : Nat → Nat → Nat} {ng nr nb : Nat} {z u : St} (hI : Inv z ng nr nb) (x y : Int32) : Met l yX5_aboard wsX5_aboard ({ frames := 1, cells := 0, slots := 0, locals := 21 }) (va_Pc [.ref (ad 0 0), .int x, .int y] (cS G (tysY Y) lo (Ew Y ng nr nb z u ad) ad)) (QI G (tysY Y) lo (sp_aboard nb z x y) (Ew Y ng nr nb z u ad) ad) 0 0 (fun q => lo ≤ q) := by
  refine met_of (cc := cX5_aboard) (maxL := 4) (ret := (some .int)) (by decide) rfl (Nat.le_of_ble_eq_true rfl) rfl ?_
  intro p e s m below meth c ls hx hb hr hlk hml hts hown hnm hw hK hl hS
  have i0 : ∀ w ∈ wsX00, w ∈ wsX5_aboard := by decide +kernel
  have i1 : ∀ w ∈ wsX10, w ∈ wsX5_aboard := by decide +kernel
  have hng := hI.mg
  have hnr := hI.mr
  have hnb := hI.mb
  rcases ix_cases x hI.nb2 with ⟨hix, hbad⟩ | ⟨j, hj, rfl, hix⟩
  · refine f_aload_n hx hb dX5_aboard_0 hl 0 rfl rfl ?_
    refine f_iload_n hx hb dX5_aboard_1 hl 1 rfl rfl ?_
    refine q_cq (q_runV (C := RX5) (T := TX5) (N := 10) ⟨hx, hb, hml, hown, hts⟩ (c_X5_berthAt l hI x) (cwV 1 hts gX5_aboard_X5_berthAt rfl rfl rfl (by decide +kernel) ⟨Nat.le_of_ble_eq_true rfl, Nat.le_of_ble_eq_true rfl⟩) hK hw Ew_fq rfl rfl hl.1 rfl (by simp [Value.category, va_rf]) dX5_aboard_2 ⟨Nat.le_of_ble_eq_true rfl, Nat.le_of_ble_eq_true rfl⟩) hS (fun H locs hw hS => ?_)
    refine f_val (y := .null) (by rw [hix]; rfl) ?_
    refine f_astore_nN hx hb dX5_aboard_5 hl 3 rfl (by decide) (fun ls hl => ?_)
    refine f_aload_nN hx hb dX5_aboard_6 hl 3 rfl rfl ?_
    refine lv_ifnonnullN hx hb dX5_aboard_7 ?_
    refine lv_bipush (v := (-2)) hx hb dX5_aboard_10 (by decide) ?_
    refine lv_goto (tgt := 26) hx hb dX5_aboard_12 (by decide) ?_
    exact q_iret hx hb hr hlk hK hw hS dX5_aboard_26 (Eq.symm (by rw [sp_aboard, hix]; exact rfl)) rfl
  · obtain ⟨f, hf, hF, hFt⟩ := hI.ferry hj
    obtain ⟨hL, hLn⟩ := hI.deck hf
    refine f_aload_n hx hb dX5_aboard_0 hl 0 rfl rfl ?_
    refine f_iload_n hx hb dX5_aboard_1 hl 1 rfl rfl ?_
    refine q_cq (q_runV (C := RX5) (T := TX5) (N := 10) ⟨hx, hb, hml, hown, hts⟩ (c_X5_berthAt l hI (nI j)) (cwV 1 hts gX5_aboard_X5_berthAt rfl rfl rfl (by decide +kernel) ⟨Nat.le_of_ble_eq_true rfl, Nat.le_of_ble_eq_true rfl⟩) hK hw Ew_fq rfl rfl hl.1 rfl (by simp [Value.category, va_rf]) dX5_aboard_2 ⟨Nat.le_of_ble_eq_true rfl, Nat.le_of_ble_eq_true rfl⟩) hS (fun H locs hw hS => ?_)
    refine f_val (y := .ref (ad 3 j)) (by rw [hix]; rfl) ?_
    refine f_astore_n hx hb dX5_aboard_5 hl 3 rfl (by decide) (fun ls hl => ?_)
    refine f_aload_n hx hb dX5_aboard_6 hl 3 rfl rfl ?_
    refine lv_ifnonnull (tgt := 15) hx hb dX5_aboard_7 (by decide) ?_
    refine f_aload_n hx hb dX5_aboard_15 hl 3 rfl rfl ?_
    refine e_get (C := RX0) (T := TX0) (N := 4) hx hb hts i0 hown hK hw (Ew_berth (by assumption)) rfl 1 (by decide) (hts (.fieldLink RX5 125 "FerryQuay$Berth" "ferry" "LFerryQuay$Ferry;") (by decide +kernel)) rfl dX5_aboard_16 ?_
    refine f_val (congrArg (fun q => Value.ref (ad 6 q)) hFt) ?_
    refine e_get (C := RX1) (T := TX1) (N := 3) hx hb hts i1 hown hK hw (Ew_ferry (by assumption)) rfl 1 (by decide) (hts (.fieldLink RX5 148 "FerryQuay$Ferry" "vehicles" "LFerryQuay$Row;") (by decide +kernel)) rfl dX5_aboard_19 ?_
    refine f_iload_n hx hb dX5_aboard_22 hl 2 rfl rfl ?_
    refine q_ci (q_runV (C := RX4) (T := TX4) (N := 2) ⟨hx, hb, hml, hown, hts⟩ (c_X4_weightAt l (he_size (Ew_frow hf) hLn) (Ew_farr hf) (by decide) y) (cwV 1 hts gX5_aboard_X4_weightAt rfl rfl rfl (by decide +kernel) ⟨Nat.le_of_ble_eq_true rfl, Nat.le_of_ble_eq_true rfl⟩) hK hw (Ew_frow (by assumption)) rfl rfl hl.1 rfl (by simp [Value.category, va_rf]) dX5_aboard_23 ⟨Nat.le_of_ble_eq_true rfl, Nat.le_of_ble_eq_true rfl⟩) hS (fun H locs hw hS => ?_)
    exact q_iret hx hb hr hlk hK hw hS dX5_aboard_26 (Eq.symm (by rw [sp_aboard, hix]; dsimp only [Option.elim]; exact (by rw [hFt]; exact wAt_w hLn hL (by decide)))) rfl
set_option maxHeartbeats 4000000 in
set_option maxRecDepth 100000 in
theorem c_X5_arrive (l : Launch) {G : va_G} {Y : YT} {lo : Nat} {ad : Nat → Nat → Nat} {ng nr nb : Nat} {z u : St} (hI : Inv z ng nr nb) (x y : Int32) : Met l yX5_arrive wsX5_arrive ({ frames := 1, cells := 0, slots := 0, locals := 22 }) (va_Pc [.ref (ad 0 0), .int x, .int y] (cS G (tysY Y) lo (Ew Y ng nr nb z u ad) ad)) (QI G (tysY Y) lo (sp_arrive nb z x y).1 (Ew Y ng nr nb (sp_arrive nb z x y).2 u ad) ad) 0 0 (fun q => lo ≤ q) := by
  refine met_of (cc := cX5_arrive) (maxL := 4) (ret := (some .int)) (by decide) rfl (Nat.le_of_ble_eq_true rfl) rfl ?_
  intro p e s m below meth c ls hx hb hr hlk hml hts hown hnm hw hK hl hS
  have i0 : ∀ w ∈ wsX00, w ∈ wsX5_arrive := by decide +kernel
  have i4 : ∀ w ∈ wsX40, w ∈ wsX5_arrive := by decide +kernel
  have i5 : ∀ w ∈ wsX50, w ∈ wsX5_arrive := by decide +kernel
  have hng := hI.mg
  have hnr := hI.mr
  have hnb := hI.mb
  rcases ix_cases x hI.nb2 with ⟨hix, hbad⟩ | ⟨j, hj, rfl, hix⟩
  · refine f_aload_n hx hb dX5_arrive_0 hl 0 rfl rfl ?_
    refine f_iload_n hx hb dX5_arrive_1 hl 1 rfl rfl ?_
    refine q_cq (q_runV (C := RX5) (T := TX5) (N := 10) ⟨hx, hb, hml, hown, hts⟩ (c_X5_berthAt l hI x) (cwV 1 hts gX5_arrive_X5_berthAt rfl rfl rfl (by decide +kernel) ⟨Nat.le_of_ble_eq_true rfl, Nat.le_of_ble_eq_true rfl⟩) hK hw Ew_fq rfl rfl hl.1 rfl (by simp [Value.category, va_rf]) dX5_arrive_2 ⟨Nat.le_of_ble_eq_true rfl, Nat.le_of_ble_eq_true rfl⟩) hS (fun H locs hw hS => ?_)
    refine f_val (y := .null) (by rw [hix]; rfl) ?_
    refine f_astore_nN hx hb dX5_arrive_5 hl 3 rfl (by decide) (fun ls hl => ?_)
    refine f_aload_nN hx hb dX5_arrive_6 hl 3 rfl rfl ?_
    refine lv_ifnullN (tgt := 21) hx hb dX5_arrive_7 (by decide) ?_
    refine lv_bipush (v := (-2)) hx hb dX5_arrive_21 (by decide) ?_
    exact q_isp hx hb hr hlk hK hw hS dX5_arrive_23 (by rw [sp_arrive, hix]; exact rfl)
  · obtain ⟨hL, hLn⟩ := hI.lane hj
    by_cases h1 : y < 0
    · refine f_aload_n hx hb dX5_arrive_0 hl 0 rfl rfl ?_
      refine f_iload_n hx hb dX5_arrive_1 hl 1 rfl rfl ?_
      refine q_cq (q_runV (C := RX5) (T := TX5) (N := 10) ⟨hx, hb, hml, hown, hts⟩ (c_X5_berthAt l hI (nI j)) (cwV 1 hts gX5_arrive_X5_berthAt rfl rfl rfl (by decide +kernel) ⟨Nat.le_of_ble_eq_true rfl, Nat.le_of_ble_eq_true rfl⟩) hK hw Ew_fq rfl rfl hl.1 rfl (by simp [Value.category, va_rf]) dX5_arrive_2 ⟨Nat.le_of_ble_eq_true rfl, Nat.le_of_ble_eq_true rfl⟩) hS (fun H locs hw hS => ?_)
      refine f_val (y := .ref (ad 3 j)) (by rw [hix]; rfl) ?_
      refine f_astore_n hx hb dX5_arrive_5 hl 3 rfl (by decide) (fun ls hl => ?_)
      refine f_aload_n hx hb dX5_arrive_6 hl 3 rfl rfl ?_
      refine lv_ifnull hx hb dX5_arrive_7 ?_
      refine f_iload_n hx hb dX5_arrive_10 hl 2 rfl rfl ?_
      refine lv_iconst (v := 0) hx hb dX5_arrive_11 (by decide) ?_
      refine lv_sipush (v := 2000) hx hb dX5_arrive_12 (by decide) ?_
      refine q_ci (q_runS ⟨hx, hb, hml, hown, hts⟩ (c_X5_isWithin l y 0 2000) (va_cwS 3 hts gX5_arrive_X5_isWithin rfl rfl rfl (by decide +kernel) ⟨Nat.le_of_ble_eq_true rfl, Nat.le_of_ble_eq_true rfl⟩) hK hw rfl hl.1 rfl (by simp [Value.category, va_rf]) dX5_arrive_15 ⟨Nat.le_of_ble_eq_true rfl, Nat.le_of_ble_eq_true rfl⟩) hS (fun H locs hw hS => ?_)
      refine f_top (y := 0) (if_pos h1) ?_
      refine lv_if_ne (tgt := 24) hx hb dX5_arrive_18 (by decide) (fun c18 => absurd (by decide) c18) (fun c18 => ?_)
      refine lv_bipush (v := (-2)) hx hb dX5_arrive_21 (by decide) ?_
      exact q_isp hx hb hr hlk hK hw hS dX5_arrive_23 (by rw [sp_arrive, hix]; dsimp only [Option.elim]; exact (if_pos h1))
    · by_cases h2 : 2000 < y
      · refine f_aload_n hx hb dX5_arrive_0 hl 0 rfl rfl ?_
        refine f_iload_n hx hb dX5_arrive_1 hl 1 rfl rfl ?_
        refine q_cq (q_runV (C := RX5) (T := TX5) (N := 10) ⟨hx, hb, hml, hown, hts⟩ (c_X5_berthAt l hI (nI j)) (cwV 1 hts gX5_arrive_X5_berthAt rfl rfl rfl (by decide +kernel) ⟨Nat.le_of_ble_eq_true rfl, Nat.le_of_ble_eq_true rfl⟩) hK hw Ew_fq rfl rfl hl.1 rfl (by simp [Value.category, va_rf]) dX5_arrive_2 ⟨Nat.le_of_ble_eq_true rfl, Nat.le_of_ble_eq_true rfl⟩) hS (fun H locs hw hS => ?_)
        refine f_val (y := .ref (ad 3 j)) (by rw [hix]; rfl) ?_
        refine f_astore_n hx hb dX5_arrive_5 hl 3 rfl (by decide) (fun ls hl => ?_)
        refine f_aload_n hx hb dX5_arrive_6 hl 3 rfl rfl ?_
        refine lv_ifnull hx hb dX5_arrive_7 ?_
        refine f_iload_n hx hb dX5_arrive_10 hl 2 rfl rfl ?_
        refine lv_iconst (v := 0) hx hb dX5_arrive_11 (by decide) ?_
        refine lv_sipush (v := 2000) hx hb dX5_arrive_12 (by decide) ?_
        refine q_ci (q_runS ⟨hx, hb, hml, hown, hts⟩ (c_X5_isWithin l y 0 2000) (va_cwS 3 hts gX5_arrive_X5_isWithin rfl rfl rfl (by decide +kernel) ⟨Nat.le_of_ble_eq_true rfl, Nat.le_of_ble_eq_true rfl⟩) hK hw rfl hl.1 rfl (by simp [Value.category, va_rf]) dX5_arrive_15 ⟨Nat.le_of_ble_eq_true rfl, Nat.le_of_ble_eq_true rfl⟩) hS (fun H locs hw hS => ?_)
        refine f_top (y := 0) ((if_neg h1).trans (if_pos h2)) ?_
        refine lv_if_ne (tgt := 24) hx hb dX5_arrive_18 (by decide) (fun c18 => absurd (by decide) c18) (fun c18 => ?_)
        refine lv_bipush (v := (-2)) hx hb dX5_arrive_21 (by decide) ?_
        exact q_isp hx hb hr hlk hK hw hS dX5_arrive_23 (by rw [sp_arrive, hix]; dsimp only [Option.elim]; exact (Eq.trans (if_neg h1) (if_pos h2)))
      · by_cases hq : ln z j = 30
        · refine f_aload_n hx hb dX5_arrive_0 hl 0 rfl rfl ?_
          refine f_iload_n hx hb dX5_arrive_1 hl 1 rfl rfl ?_
          refine q_cq (q_runV (C := RX5) (T := TX5) (N := 10) ⟨hx, hb, hml, hown, hts⟩ (c_X5_berthAt l hI (nI j)) (cwV 1 hts gX5_arrive_X5_berthAt rfl rfl rfl (by decide +kernel) ⟨Nat.le_of_ble_eq_true rfl, Nat.le_of_ble_eq_true rfl⟩) hK hw Ew_fq rfl rfl hl.1 rfl (by simp [Value.category, va_rf]) dX5_arrive_2 ⟨Nat.le_of_ble_eq_true rfl, Nat.le_of_ble_eq_true rfl⟩) hS (fun H locs hw hS => ?_)
          refine f_val (y := .ref (ad 3 j)) (by rw [hix]; rfl) ?_
          refine f_astore_n hx hb dX5_arrive_5 hl 3 rfl (by decide) (fun ls hl => ?_)
          refine f_aload_n hx hb dX5_arrive_6 hl 3 rfl rfl ?_
          refine lv_ifnull hx hb dX5_arrive_7 ?_
          refine f_iload_n hx hb dX5_arrive_10 hl 2 rfl rfl ?_
          refine lv_iconst (v := 0) hx hb dX5_arrive_11 (by decide) ?_
          refine lv_sipush (v := 2000) hx hb dX5_arrive_12 (by decide) ?_
          refine q_ci (q_runS ⟨hx, hb, hml, hown, hts⟩ (c_X5_isWithin l y 0 2000) (va_cwS 3 hts gX5_arrive_X5_isWithin rfl rfl rfl (by decide +kernel) ⟨Nat.le_of_ble_eq_true rfl, Nat.le_of_ble_eq_true rfl⟩) hK hw rfl hl.1 rfl (by simp [Value.category, va_rf]) dX5_arrive_15 ⟨Nat.le_of_ble_eq_true rfl, Nat.le_of_ble_eq_true rfl⟩) hS (fun H locs hw hS => ?_)
          refine f_top (y := 1) ((if_neg h1).trans (if_neg h2)) ?_
          refine lv_if_ne (tgt := 24) hx hb dX5_arrive_18 (by decide) (fun c18 => ?_) (fun c18 => absurd c18 (by decide))
          refine f_aload_n hx hb dX5_arrive_24 hl 3 rfl rfl ?_
          refine e_get (C := RX0) (T := TX0) (N := 4) hx hb hts i0 hown hK hw (Ew_berth (by assumption)) rfl 0 (by decide) (hts (.fieldLink RX5 82 "FerryQuay$Berth" "lane" "LFerryQuay$Row;") (by decide +kernel)) rfl dX5_arrive_25 ?_
          refine q_ci (q_runV (C := RX4) (T := TX4) (N := 2) ⟨hx, hb, hml, hown, hts⟩ (c_X4_isFull l (he_size (Ew_lane hj) hLn) (Ew_larr hj) (by decide) hL) (cwV 0 hts gX5_arrive_X4_isFull rfl rfl rfl (by decide +kernel) ⟨Nat.le_of_ble_eq_true rfl, Nat.le_of_ble_eq_true rfl⟩) hK hw (Ew_lane (by assumption)) rfl rfl hl.1 rfl (by simp [Value.category, va_rf]) dX5_arrive_28 ⟨Nat.le_of_ble_eq_true rfl, Nat.le_of_ble_eq_true rfl⟩) hS (fun H locs hw hS => ?_)
          refine f_top (y := 1) (if_neg (by omega)) ?_
          refine lv_if_eq (tgt := 37) hx hb dX5_arrive_31 (by decide) (fun c31 => absurd c31 (by decide)) (fun c31 => ?_)
          refine lv_bipush (v := (-3)) hx hb dX5_arrive_34 (by decide) ?_
          exact q_isp hx hb hr hlk hK hw hS dX5_arrive_36 (by rw [sp_arrive, hix]; dsimp only [Option.elim]; exact (Eq.trans (if_neg h1) (Eq.trans (if_neg h2) (if_pos hq))))
        · refine f_aload_n hx hb dX5_arrive_0 hl 0 rfl rfl ?_
          refine f_iload_n hx hb dX5_arrive_1 hl 1 rfl rfl ?_
          refine q_cq (q_runV (C := RX5) (T := TX5) (N := 10) ⟨hx, hb, hml, hown, hts⟩ (c_X5_berthAt l hI (nI j)) (cwV 1 hts gX5_arrive_X5_berthAt rfl rfl rfl (by decide +kernel) ⟨Nat.le_of_ble_eq_true rfl, Nat.le_of_ble_eq_true rfl⟩) hK hw Ew_fq rfl rfl hl.1 rfl (by simp [Value.category, va_rf]) dX5_arrive_2 ⟨Nat.le_of_ble_eq_true rfl, Nat.le_of_ble_eq_true rfl⟩) hS (fun H locs hw hS => ?_)
          refine f_val (y := .ref (ad 3 j)) (by rw [hix]; rfl) ?_
          refine f_astore_n hx hb dX5_arrive_5 hl 3 rfl (by decide) (fun ls hl => ?_)
          refine f_aload_n hx hb dX5_arrive_6 hl 3 rfl rfl ?_
          refine lv_ifnull hx hb dX5_arrive_7 ?_
          refine f_iload_n hx hb dX5_arrive_10 hl 2 rfl rfl ?_
          refine lv_iconst (v := 0) hx hb dX5_arrive_11 (by decide) ?_
          refine lv_sipush (v := 2000) hx hb dX5_arrive_12 (by decide) ?_
          refine q_ci (q_runS ⟨hx, hb, hml, hown, hts⟩ (c_X5_isWithin l y 0 2000) (va_cwS 3 hts gX5_arrive_X5_isWithin rfl rfl rfl (by decide +kernel) ⟨Nat.le_of_ble_eq_true rfl, Nat.le_of_ble_eq_true rfl⟩) hK hw rfl hl.1 rfl (by simp [Value.category, va_rf]) dX5_arrive_15 ⟨Nat.le_of_ble_eq_true rfl, Nat.le_of_ble_eq_true rfl⟩) hS (fun H locs hw hS => ?_)
          refine f_top (y := 1) ((if_neg h1).trans (if_neg h2)) ?_
          refine lv_if_ne (tgt := 24) hx hb dX5_arrive_18 (by decide) (fun c18 => ?_) (fun c18 => absurd c18 (by decide))
          refine f_aload_n hx hb dX5_arrive_24 hl 3 rfl rfl ?_
          refine e_get (C := RX0) (T := TX0) (N := 4) hx hb hts i0 hown hK hw (Ew_berth (by assumption)) rfl 0 (by decide) (hts (.fieldLink RX5 82 "FerryQuay$Berth" "lane" "LFerryQuay$Row;") (by decide +kernel)) rfl dX5_arrive_25 ?_
          refine q_ci (q_runV (C := RX4) (T := TX4) (N := 2) ⟨hx, hb, hml, hown, hts⟩ (c_X4_isFull l (he_size (Ew_lane hj) hLn) (Ew_larr hj) (by decide) hL) (cwV 0 hts gX5_arrive_X4_isFull rfl rfl rfl (by decide +kernel) ⟨Nat.le_of_ble_eq_true rfl, Nat.le_of_ble_eq_true rfl⟩) hK hw (Ew_lane (by assumption)) rfl rfl hl.1 rfl (by simp [Value.category, va_rf]) dX5_arrive_28 ⟨Nat.le_of_ble_eq_true rfl, Nat.le_of_ble_eq_true rfl⟩) hS (fun H locs hw hS => ?_)
          refine f_top (y := 0) (if_pos (by omega)) ?_
          refine lv_if_eq (tgt := 37) hx hb dX5_arrive_31 (by decide) (fun c31 => ?_) (fun c31 => absurd (by decide) c31)
          refine f_aload_n hx hb dX5_arrive_37 hl 3 rfl rfl ?_
          refine e_get (C := RX0) (T := TX0) (N := 4) hx hb hts i0 hown hK hw (Ew_berth (by assumption)) rfl 0 (by decide) (hts (.fieldLink RX5 82 "FerryQuay$Berth" "lane" "LFerryQuay$Row;") (by decide +kernel)) rfl dX5_arrive_38 ?_
          refine f_iload_n hx hb dX5_arrive_41 hl 2 rfl rfl ?_
          refine q_cv (q_runV (C := RX4) (T := TX4) (N := 2) ⟨hx, hb, hml, hown, hts⟩ (c_X4_addLast l (he_size (Ew_lane hj) hLn) (Ew_larr hj) (by decide) y (by omega)) (cwV 1 hts gX5_arrive_X4_addLast rfl rfl rfl (by decide +kernel) ⟨Nat.le_of_ble_eq_true rfl, Nat.le_of_ble_eq_true rfl⟩) hK hw (Ew_lane (by assumption)) rfl rfl hl.1 rfl (by simp [Value.category, va_rf]) dX5_arrive_42 ⟨Nat.le_of_ble_eq_true rfl, Nat.le_of_ble_eq_true rfl⟩) hS (fun H locs hw hS => ?_)
          have hw := hw.cast (Ep_comes hj rfl)
          refine f_aload_n hx hb dX5_arrive_45 hl 0 rfl rfl ?_
          refine lv_dup hx hb dX5_arrive_46 rfl ?_
          refine e_get (C := RX5) (T := TX5) (N := 10) hx hb hts i5 hown hK hw Ew_fq rfl 6 (by decide) (hts (.fieldLink RX5 95 "FerryQuay" "arrived" "I") (by decide +kernel)) rfl dX5_arrive_47 ?_
          refine lv_iconst (v := 1) hx hb dX5_arrive_50 (by decide) ?_
          refine lv_iadd hx hb dX5_arrive_51 ?_
          refine e_put (C := RX5) (T := TX5) (N := 10) (ty := .int) hx hb hts i5 tyX5 tyX5_ok nmX5 hown hK hw hS Ew_fq rfl 6 (by decide) (hts (.fieldLink RX5 95 "FerryQuay" "arrived" "I") (by decide +kernel)) rfl (by decide +kernel) rfl rfl (Nat.le_of_ble_eq_true rfl) dX5_arrive_52 (fun H locs hw hS => ?_)
          have hw := hw.cast Ep_fq3
          refine f_aload_n hx hb dX5_arrive_55 hl 3 rfl rfl ?_
          refine e_get (C := RX0) (T := TX0) (N := 4) hx hb hts i0 hown hK hw (Ew_berth (by assumption)) rfl 0 (by decide) (hts (.fieldLink RX5 82 "FerryQuay$Berth" "lane" "LFerryQuay$Row;") (by decide +kernel)) rfl dX5_arrive_56 ?_
          refine e_get (C := RX4) (T := TX4) (N := 2) hx hb hts i4 hown hK hw (Ew_lane (by assumption)) rfl 1 (by decide) (hts (.fieldLink RX5 98 "FerryQuay$Row" "size" "I") (by decide +kernel)) rfl dX5_arrive_59 ?_
          refine f_top (y := nI (ln z j + 1)) ((sc_k (by decide)).trans sc_s) ?_
          exact q_isp hx hb hr hlk hK hw hS dX5_arrive_62 (by rw [sp_arrive, hix]; dsimp only [Option.elim]; exact (Eq.trans (if_neg h1) (Eq.trans (if_neg h2) (if_neg hq))))
