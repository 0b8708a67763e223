set_option maxHeartbeats 4000000 in
set_option maxRecDepth 100000 in
theorem c_X6_arrive (l : Launch) {G : va_G} {Y : YT} {lo : Nat} {ad : Nat → Nat → Nat} {ng nr nb : Nat} {z u : St} (hI : Inv u ng nr nb) (x y : Int32) : Met l yX6_arrive wsX6_arrive ({ frames := 1, cells := 0, slots := 0, locals := 22 }) (va_Pc [.ref (ad 0 4), .int x, .int y] (cS G (tysY Y) lo (Ew Y ng nr nb z u ad) ad)) (QI G (tysY Y) lo (sp_arrive nb u x y).1 (Ew Y ng nr nb z (sp_arrive nb u x y).2 ad) ad) 0 0 (fun q => lo ≤ q) := by
  refine met_of (cc := cX6_arrive) (maxL := 3) (ret := (some .int)) (by decide) rfl (Nat.le_of_ble_eq_true rfl) rfl ?_
  intro p e s m below meth c ls hx hb hr hlk hml hts hown hnm hw hK hl hS
  have i6 : ∀ w ∈ wsX60, w ∈ wsX6_arrive := by decide +kernel
  have hng := hI.mg
  have hnr := hI.mr
  have hnb := hI.mb
  rcases ix_cases x hI.nb2 with ⟨hix, hbad⟩ | ⟨j, hj, rfl, hix⟩
  · refine f_aload_n hx hb dX6_arrive_0 hl 0 rfl rfl ?_
    refine f_iload_n hx hb dX6_arrive_1 hl 1 rfl rfl ?_
    refine q_ci (q_runV (C := RX6) (T := TX6) (N := 22) ⟨hx, hb, hml, hown, hts⟩ (c_X6_isBerth l hI x) (cwV 1 hts gX6_arrive_X6_isBerth rfl rfl rfl (by decide +kernel) ⟨Nat.le_of_ble_eq_true rfl, Nat.le_of_ble_eq_true rfl⟩) hK hw Ew_mo rfl rfl hl.1 rfl (by simp [Value.category, va_rf]) dX6_arrive_2 ⟨Nat.le_of_ble_eq_true rfl, Nat.le_of_ble_eq_true rfl⟩) hS (fun H locs hw hS => ?_)
    refine f_top (y := 0) (is_bad hbad) ?_
    refine lv_if_eq (tgt := 19) hx hb dX6_arrive_5 (by decide) (fun c5 => ?_) (fun c5 => absurd (by decide) c5)
    refine lv_bipush (v := (-2)) hx hb dX6_arrive_19 (by decide) ?_
    exact q_ism hx hb hr hlk hK hw hS dX6_arrive_21 (by rw [sp_arrive, hix]; exact rfl)
  · obtain ⟨hL, hLn⟩ := hI.lane hj
    refine f_aload_n hx hb dX6_arrive_0 hl 0 rfl rfl ?_
    refine f_iload_n hx hb dX6_arrive_1 hl 1 rfl rfl ?_
    refine q_ci (q_runV (C := RX6) (T := TX6) (N := 22) ⟨hx, hb, hml, hown, hts⟩ (c_X6_isBerth l hI (nI j)) (cwV 1 hts gX6_arrive_X6_isBerth rfl rfl rfl (by decide +kernel) ⟨Nat.le_of_ble_eq_true rfl, Nat.le_of_ble_eq_true rfl⟩) hK hw Ew_mo rfl rfl hl.1 rfl (by simp [Value.category, va_rf]) dX6_arrive_2 ⟨Nat.le_of_ble_eq_true rfl, Nat.le_of_ble_eq_true rfl⟩) hS (fun H locs hw hS => ?_)
    refine f_top (y := 1) (is_ok hj hI.nb2) ?_
    refine lv_if_eq (tgt := 19) hx hb dX6_arrive_5 (by decide) (fun c5 => absurd c5 (by decide)) (fun c5 => ?_)
    refine f_iload_n hx hb dX6_arrive_8 hl 2 rfl rfl ?_
    refine lv_if_lt (tgt := 19) hx hb dX6_arrive_9 (by decide) (fun c9 => ?_) (fun c9 => ?_)
    · refine lv_bipush (v := (-2)) hx hb dX6_arrive_19 (by decide) ?_
      exact q_ism hx hb hr hlk hK hw hS dX6_arrive_21 (by rw [sp_arrive, hix]; dsimp only [Option.elim]; exact (if_pos c9))
    · refine f_iload_n hx hb dX6_arrive_12 hl 2 rfl rfl ?_
      refine lv_sipush (v := 2000) hx hb dX6_arrive_13 (by decide) ?_
      refine lv_icmp_le (tgt := 22) hx hb dX6_arrive_16 (by decide) (fun c16 => ?_) (fun c16 => ?_)
      · refine f_aload_n hx hb dX6_arrive_22 hl 0 rfl rfl ?_
        refine e_get (C := RX6) (T := TX6) (N := 22) hx hb hts i6 hown hK hw Ew_mo rfl 16 (by decide) (hts (.fieldLink RX6 38 "FerryQuayModel" "waits" "[I") (by decide +kernel)) rfl dX6_arrive_23 ?_
        refine f_iload_n hx hb dX6_arrive_26 hl 1 rfl rfl ?_
        refine e_ialdN hx hb hK hw 0 Ew_m10 rfl rfl (by omega) (by decide) dX6_arrive_27 ?_
        refine f_top (y := nI (ln u j)) hLn ?_
        by_cases hq : ln u j = 30
        · refine lv_bipush (v := 30) hx hb dX6_arrive_28 (by decide) ?_
          refine lv_icmp_ne (tgt := 36) hx hb dX6_arrive_30 (by decide) (fun c30 => absurd (by rw [hq]; rfl) c30) (fun c30 => ?_)
          refine lv_bipush (v := (-3)) hx hb dX6_arrive_33 (by decide) ?_
          exact q_ism hx hb hr hlk hK hw hS dX6_arrive_35 (by rw [sp_arrive, hix]; dsimp only [Option.elim]; exact (Eq.trans (if_neg c9) (Eq.trans (if_neg (Int32.not_lt.mpr c16)) (if_pos hq))))
        · refine lv_bipush (v := 30) hx hb dX6_arrive_28 (by decide) ?_
          refine lv_icmp_ne (tgt := 36) hx hb dX6_arrive_30 (by decide) (fun c30 => ?_) (fun c30 => absurd c30 (fun q => hq ((nI_eq (b := 30) (by omega) (by decide)).mp q)))
          refine f_aload_n hx hb dX6_arrive_36 hl 0 rfl rfl ?_
          refine f_iload_n hx hb dX6_arrive_37 hl 1 rfl rfl ?_
          refine f_iload_n hx hb dX6_arrive_38 hl 2 rfl rfl ?_
          refine q_cv (q_runV (C := RX6) (T := TX6) (N := 22) ⟨hx, hb, hml, hown, hts⟩ (c_X6_comes l hI hj y (by omega)) (cwV 2 hts gX6_arrive_X6_comes rfl rfl rfl (by decide +kernel) ⟨Nat.le_of_ble_eq_true rfl, Nat.le_of_ble_eq_true rfl⟩) hK hw Ew_mo rfl rfl hl.1 rfl (by simp [Value.category, va_rf]) dX6_arrive_39 ⟨Nat.le_of_ble_eq_true rfl, Nat.le_of_ble_eq_true rfl⟩) hS (fun H locs hw hS => ?_)
          refine f_aload_n hx hb dX6_arrive_42 hl 0 rfl rfl ?_
          refine lv_dup hx hb dX6_arrive_43 rfl ?_
          refine e_get (C := RX6) (T := TX6) (N := 22) hx hb hts i6 hown hK hw Ew_mo rfl 3 (by decide) (hts (.fieldLink RX6 83 "FerryQuayModel" "arrived" "I") (by decide +kernel)) rfl dX6_arrive_44 ?_
          refine lv_iconst (v := 1) hx hb dX6_arrive_47 (by decide) ?_
          refine lv_iadd hx hb dX6_arrive_48 ?_
          refine e_put (C := RX6) (T := TX6) (N := 22) (ty := .int) hx hb hts i6 tyX6 tyX6_ok nmX6 hown hK hw hS Ew_mo rfl 3 (by decide) (hts (.fieldLink RX6 83 "FerryQuayModel" "arrived" "I") (by decide +kernel)) rfl (by decide +kernel) rfl rfl (Nat.le_of_ble_eq_true rfl) dX6_arrive_49 (fun H locs hw hS => ?_)
          have hw := hw.cast Ep_mo3
          refine f_aload_n hx hb dX6_arrive_52 hl 0 rfl rfl ?_
          refine e_get (C := RX6) (T := TX6) (N := 22) hx hb hts i6 hown hK hw Ew_mo rfl 16 (by decide) (hts (.fieldLink RX6 38 "FerryQuayModel" "waits" "[I") (by decide +kernel)) rfl dX6_arrive_53 ?_
          refine f_iload_n hx hb dX6_arrive_56 hl 1 rfl rfl ?_
          refine e_ialdN hx hb hK hw 0 Ew_m10 rfl rfl (by omega) (by decide) dX6_arrive_57 ?_
          refine f_top (y := nI (ln u j + 1)) ((sc_k (by decide)).trans sc_s) ?_
          exact q_ism hx hb hr hlk hK hw hS dX6_arrive_58 (by rw [sp_arrive, hix]; dsimp only [Option.elim]; exact (Eq.trans (if_neg c9) (Eq.trans (if_neg (Int32.not_lt.mpr c16)) (if_neg hq))))
      · refine lv_bipush (v := (-2)) hx hb dX6_arrive_19 (by decide) ?_
        exact q_ism hx hb hr hlk hK hw hS dX6_arrive_21 (by rw [sp_arrive, hix]; dsimp only [Option.elim]; exact (Eq.trans (if_neg c9) (if_pos (Int32.not_le.mp c16))))
set_option maxHeartbeats 4000000 in
set_option maxRecDepth 100000 in
theorem c_X6_state (l : Launch) {G : va_G} {Y : YT} {lo : Nat} {ad : Nat → Nat → Nat} {ng nr nb : Nat} {z u : St} (hI : Inv u ng nr nb) (x y : Int32) : Met l yX6_state wsX6_state ({ frames := 1, cells := 0, slots := 0, locals := 21 }) (va_Pc [.ref (ad 0 4), .int x, .int y] (cS G (tysY Y) lo (Ew Y ng nr nb z u ad) ad)) (QI G (tysY Y) lo (sp_state nb u x y) (Ew Y ng nr nb z u ad) ad) 0 0 (fun q => lo ≤ q) := by
  refine met_of (cc := cX6_state) (maxL := 4) (ret := (some .int)) (by decide) rfl (Nat.le_of_ble_eq_true rfl) rfl ?_
  intro p e s m below meth c ls hx hb hr hlk hml hts hown hnm hw hK hl hS
  have i6 : ∀ w ∈ wsX60, w ∈ wsX6_state := by decide +kernel
  have hng := hI.mg
  have hnr := hI.mr
  have hnb := hI.mb
  rcases ix_cases x hI.nb2 with ⟨hix, hbad⟩ | ⟨j, hj, rfl, hix⟩
  · refine f_aload_n hx hb dX6_state_0 hl 0 rfl rfl ?_
    refine f_iload_n hx hb dX6_state_1 hl 1 rfl rfl ?_
    refine q_ci (q_runV (C := RX6) (T := TX6) (N := 22) ⟨hx, hb, hml, hown, hts⟩ (c_X6_isBerth l hI x) (cwV 1 hts gX6_state_X6_isBerth rfl rfl rfl (by decide +kernel) ⟨Nat.le_of_ble_eq_true rfl, Nat.le_of_ble_eq_true rfl⟩) hK hw Ew_mo rfl rfl hl.1 rfl (by simp [Value.category, va_rf]) dX6_state_2 ⟨Nat.le_of_ble_eq_true rfl, Nat.le_of_ble_eq_true rfl⟩) hS (fun H locs hw hS => ?_)
    refine f_top (y := 0) (is_bad hbad) ?_
    refine lv_if_ne (tgt := 11) hx hb dX6_state_5 (by decide) (fun c5 => absurd (by decide) c5) (fun c5 => ?_)
    refine lv_bipush (v := (-2)) hx hb dX6_state_8 (by decide) ?_
    exact q_iret hx hb hr hlk hK hw hS dX6_state_10 (Eq.symm (by rw [sp_state, hix]; exact rfl)) rfl
  · obtain ⟨f, hf, hF, hFt⟩ := hI.ferry hj
    refine f_aload_n hx hb dX6_state_0 hl 0 rfl rfl ?_
    refine f_iload_n hx hb dX6_state_1 hl 1 rfl rfl ?_
    refine q_ci (q_runV (C := RX6) (T := TX6) (N := 22) ⟨hx, hb, hml, hown, hts⟩ (c_X6_isBerth l hI (nI j)) (cwV 1 hts gX6_state_X6_isBerth rfl rfl rfl (by decide +kernel) ⟨Nat.le_of_ble_eq_true rfl, Nat.le_of_ble_eq_true rfl⟩) hK hw Ew_mo rfl rfl hl.1 rfl (by simp [Value.category, va_rf]) dX6_state_2 ⟨Nat.le_of_ble_eq_true rfl, Nat.le_of_ble_eq_true rfl⟩) hS (fun H locs hw hS => ?_)
    refine f_top (y := 1) (is_ok hj hI.nb2) ?_
    refine lv_if_ne (tgt := 11) hx hb dX6_state_5 (by decide) (fun c5 => ?_) (fun c5 => absurd c5 (by decide))
    refine f_aload_n hx hb dX6_state_11 hl 0 rfl rfl ?_
    refine e_get (C := RX6) (T := TX6) (N := 22) hx hb hts i6 hown hK hw Ew_mo rfl 15 (by decide) (hts (.fieldLink RX6 35 "FerryQuayModel" "ferryOf" "[I") (by decide +kernel)) rfl dX6_state_12 ?_
    refine f_iload_n hx hb dX6_state_15 hl 1 rfl rfl ?_
    refine e_ialdN hx hb hK hw 0 Ew_m9 rfl rfl (by omega) (by decide) dX6_state_16 ?_
    refine f_istore_n hx hb dX6_state_17 hl 3 rfl (by decide) (fun ls hl => ?_)
    refine f_iload_n hx hb dX6_state_18 hl 2 rfl rfl ?_
    by_cases hs0 : y = 0
    · subst hs0
      refine lv_tableIn (tgt := 56) hx hb dX6_state_19 (by decide) (by decide) rfl (by decide) ?_
      refine f_aload_n hx hb dX6_state_56 hl 0 rfl rfl ?_
      refine e_get (C := RX6) (T := TX6) (N := 22) hx hb hts i6 hown hK hw Ew_mo rfl 13 (by decide) (hts (.fieldLink RX6 29 "FerryQuayModel" "gateOf" "[I") (by decide +kernel)) rfl dX6_state_57 ?_
      refine f_iload_n hx hb dX6_state_60 hl 1 rfl rfl ?_
      refine e_ialdN hx hb hK hw 0 Ew_m7 rfl rfl (by omega) (by decide) dX6_state_61 ?_
      exact q_iret hx hb hr hlk hK hw hS dX6_state_62 (Eq.symm (by rw [sp_state, hix]; dsimp only [Option.elim]; exact (if_pos rfl))) rfl
    · by_cases hs1 : y = 1
      · subst hs1
        refine lv_tableIn (tgt := 63) hx hb dX6_state_19 (by decide) (by decide) rfl (by decide) ?_
        refine f_aload_n hx hb dX6_state_63 hl 0 rfl rfl ?_
        refine e_get (C := RX6) (T := TX6) (N := 22) hx hb hts i6 hown hK hw Ew_mo rfl 14 (by decide) (hts (.fieldLink RX6 32 "FerryQuayModel" "rampOf" "[I") (by decide +kernel)) rfl dX6_state_64 ?_
        refine f_iload_n hx hb dX6_state_67 hl 1 rfl rfl ?_
        refine e_ialdN hx hb hK hw 0 Ew_m8 rfl rfl (by omega) (by decide) dX6_state_68 ?_
        exact q_iret hx hb hr hlk hK hw hS dX6_state_69 (Eq.symm (by rw [sp_state, hix]; dsimp only [Option.elim]; exact (Eq.trans (if_neg (by decide)) (if_pos rfl)))) rfl
      · by_cases hs2 : y = 2
        · subst hs2
          refine lv_tableIn (tgt := 70) hx hb dX6_state_19 (by decide) (by decide) rfl (by decide) ?_
          refine f_aload_n hx hb dX6_state_70 hl 0 rfl rfl ?_
          refine e_get (C := RX6) (T := TX6) (N := 22) hx hb hts i6 hown hK hw Ew_mo rfl 16 (by decide) (hts (.fieldLink RX6 38 "FerryQuayModel" "waits" "[I") (by decide +kernel)) rfl dX6_state_71 ?_
          refine f_iload_n hx hb dX6_state_74 hl 1 rfl rfl ?_
          refine e_ialdN hx hb hK hw 0 Ew_m10 rfl rfl (by omega) (by decide) dX6_state_75 ?_
          exact q_iret hx hb hr hlk hK hw hS dX6_state_76 (Eq.symm (by rw [sp_state, hix]; dsimp only [Option.elim]; exact (Eq.trans (if_neg (by decide)) (Eq.trans (if_neg (by decide)) (if_pos rfl))))) rfl
        · by_cases hs3 : y = 3
          · subst hs3
            refine lv_tableIn (tgt := 77) hx hb dX6_state_19 (by decide) (by decide) rfl (by decide) ?_
            refine f_aload_n hx hb dX6_state_77 hl 0 rfl rfl ?_
            refine e_get (C := RX6) (T := TX6) (N := 22) hx hb hts i6 hown hK hw Ew_mo rfl 20 (by decide) (hts (.fieldLink RX6 50 "FerryQuayModel" "many" "[I") (by decide +kernel)) rfl dX6_state_78 ?_
            refine f_iload_n hx hb dX6_state_81 hl 3 rfl rfl ?_
            refine e_ialdN hx hb hK hw 0 Ew_m14 rfl hF (by omega) (by decide) dX6_state_82 ?_
            exact q_iret hx hb hr hlk hK hw hS dX6_state_83 (Eq.symm (by rw [sp_state, hix]; dsimp only [Option.elim]; exact (Eq.trans (if_neg (by decide)) (Eq.trans (if_neg (by decide)) (Eq.trans (if_neg (by decide)) (Eq.trans (if_pos rfl) (congrArg (fun q => sc u 14 q) hFt))))))) rfl
          · by_cases hs4 : y = 4
            · subst hs4
              refine lv_tableIn (tgt := 84) hx hb dX6_state_19 (by decide) (by decide) rfl (by decide) ?_
              refine f_aload_n hx hb dX6_state_84 hl 0 rfl rfl ?_
              refine e_get (C := RX6) (T := TX6) (N := 22) hx hb hts i6 hown hK hw Ew_mo rfl 19 (by decide) (hts (.fieldLink RX6 47 "FerryQuayModel" "load" "[I") (by decide +kernel)) rfl dX6_state_85 ?_
              refine f_iload_n hx hb dX6_state_88 hl 3 rfl rfl ?_
              refine e_ialdN hx hb hK hw 0 Ew_m13 rfl hF (by omega) (by decide) dX6_state_89 ?_
              exact q_iret hx hb hr hlk hK hw hS dX6_state_90 (Eq.symm (by rw [sp_state, hix]; dsimp only [Option.elim]; exact (Eq.trans (if_neg (by decide)) (Eq.trans (if_neg (by decide)) (Eq.trans (if_neg (by decide)) (Eq.trans (if_neg (by decide)) (Eq.trans (if_pos rfl) (congrArg (fun q => sc u 13 q) hFt)))))))) rfl
            · by_cases hs5 : y = 5
              · subst hs5
                refine lv_tableIn (tgt := 91) hx hb dX6_state_19 (by decide) (by decide) rfl (by decide) ?_
                refine f_aload_n hx hb dX6_state_91 hl 0 rfl rfl ?_
                refine e_get (C := RX6) (T := TX6) (N := 22) hx hb hts i6 hown hK hw Ew_mo rfl 18 (by decide) (hts (.fieldLink RX6 44 "FerryQuayModel" "room" "[I") (by decide +kernel)) rfl dX6_state_92 ?_
                refine f_iload_n hx hb dX6_state_95 hl 3 rfl rfl ?_
                refine e_ialdN hx hb hK hw 0 Ew_m12 rfl hF (by omega) (by decide) dX6_state_96 ?_
                exact q_iret hx hb hr hlk hK hw hS dX6_state_97 (Eq.symm (by rw [sp_state, hix]; dsimp only [Option.elim]; exact (Eq.trans (if_neg (by decide)) (Eq.trans (if_neg (by decide)) (Eq.trans (if_neg (by decide)) (Eq.trans (if_neg (by decide)) (Eq.trans (if_neg (by decide)) (Eq.trans (if_pos rfl) (congrArg (fun q => sc u 12 q) hFt))))))))) rfl
              · refine lv_tableOut (tgt := 98) hx hb dX6_state_19 (sw_out (n := 5) (by decide) (fun k hk => by rcases (show k = 0 ∨ k = 1 ∨ k = 2 ∨ k = 3 ∨ k = 4 ∨ k = 5 by omega) with rfl | rfl | rfl | rfl | rfl | rfl <;> assumption)) (by decide) ?_
                refine lv_bipush (v := (-2)) hx hb dX6_state_98 (by decide) ?_
                exact q_iret hx hb hr hlk hK hw hS dX6_state_100 (Eq.symm (by rw [sp_state, hix]; dsimp only [Option.elim]; exact (Eq.trans (if_neg hs0) (Eq.trans (if_neg hs1) (Eq.trans (if_neg hs2) (Eq.trans (if_neg hs3) (Eq.trans (if_neg hs4) (if_neg hs5)))))))) rfl
set_option maxHeartbeats 4000000 in
set_option maxRecDepth 100000 in
theorem c_X6_count (l : Launch) {G : va_G} {Y : YT} {lo : Nat} {ad : Nat → Nat → Nat} {ng nr nb : Nat} {z u : St} (hI : Inv u ng nr nb) (y : Int32) : Met l yX6_count wsX6_count ({ frames := 0, cells := 0, slots := 0, locals := 0 }) (va_Pc [.ref (ad 0 4), .int y] (cS G (tysY Y) lo (Ew Y ng nr nb z u ad) ad)) (QI G (tysY Y) lo (sp_count u y) (Ew Y ng nr nb z u ad) ad) 0 0 (fun q => lo ≤ q) := by
  refine met_of (cc := cX6_count) (maxL := 2) (ret := (some .int)) (by decide) rfl (Nat.le_of_ble_eq_true rfl) rfl ?_
  intro p e s m below meth c ls hx hb hr hlk hml hts hown hnm hw hK hl hS
  have i6 : ∀ w ∈ wsX60, w ∈ wsX6_count := by decide +kernel
  have hng := hI.mg
  have hnr := hI.mr
  have hnb := hI.mb
  refine f_iload_n hx hb dX6_count_0 hl 1 rfl rfl ?_
  by_cases hs0 : y = 0
  · subst hs0
    refine lv_tableIn (tgt := 44) hx hb dX6_count_1 (by decide) (by decide) rfl (by decide) ?_
    refine f_aload_n hx hb dX6_count_44 hl 0 rfl rfl ?_
    refine e_get (C := RX6) (T := TX6) (N := 22) hx hb hts i6 hown hK hw Ew_mo rfl 0 (by decide) (hts (.fieldLink RX6 56 "FerryQuayModel" "gates" "I") (by decide +kernel)) rfl dX6_count_45 ?_
    exact q_iret hx hb hr hlk hK hw hS dX6_count_48 (Eq.symm (by rw [sp_count]; exact (if_pos rfl))) rfl
  · by_cases hs1 : y = 1
    · subst hs1
      refine lv_tableIn (tgt := 49) hx hb dX6_count_1 (by decide) (by decide) rfl (by decide) ?_
      refine f_aload_n hx hb dX6_count_49 hl 0 rfl rfl ?_
      refine e_get (C := RX6) (T := TX6) (N := 22) hx hb hts i6 hown hK hw Ew_mo rfl 1 (by decide) (hts (.fieldLink RX6 60 "FerryQuayModel" "ramps" "I") (by decide +kernel)) rfl dX6_count_50 ?_
      exact q_iret hx hb hr hlk hK hw hS dX6_count_53 (Eq.symm (by rw [sp_count]; exact (Eq.trans (if_neg (by decide)) (if_pos rfl)))) rfl
    · by_cases hs2 : y = 2
      · subst hs2
        refine lv_tableIn (tgt := 54) hx hb dX6_count_1 (by decide) (by decide) rfl (by decide) ?_
        refine f_aload_n hx hb dX6_count_54 hl 0 rfl rfl ?_
        refine e_get (C := RX6) (T := TX6) (N := 22) hx hb hts i6 hown hK hw Ew_mo rfl 2 (by decide) (hts (.fieldLink RX6 63 "FerryQuayModel" "berths" "I") (by decide +kernel)) rfl dX6_count_55 ?_
        exact q_iret hx hb hr hlk hK hw hS dX6_count_58 (Eq.symm (by rw [sp_count]; exact (Eq.trans (if_neg (by decide)) (Eq.trans (if_neg (by decide)) (if_pos rfl))))) rfl
      · by_cases hs3 : y = 3
        · subst hs3
          refine lv_tableIn (tgt := 59) hx hb dX6_count_1 (by decide) (by decide) rfl (by decide) ?_
          refine f_aload_n hx hb dX6_count_59 hl 0 rfl rfl ?_
          refine e_get (C := RX6) (T := TX6) (N := 22) hx hb hts i6 hown hK hw Ew_mo rfl 3 (by decide) (hts (.fieldLink RX6 83 "FerryQuayModel" "arrived" "I") (by decide +kernel)) rfl dX6_count_60 ?_
          exact q_iret hx hb hr hlk hK hw hS dX6_count_63 (Eq.symm (by rw [sp_count]; exact (Eq.trans (if_neg (by decide)) (Eq.trans (if_neg (by decide)) (Eq.trans (if_neg (by decide)) (if_pos rfl)))))) rfl
        · by_cases hs4 : y = 4
          · subst hs4
            refine lv_tableIn (tgt := 64) hx hb dX6_count_1 (by decide) (by decide) rfl (by decide) ?_
            refine f_aload_n hx hb dX6_count_64 hl 0 rfl rfl ?_
            refine e_get (C := RX6) (T := TX6) (N := 22) hx hb hts i6 hown hK hw Ew_mo rfl 4 (by decide) (hts (.fieldLink RX6 96 "FerryQuayModel" "gone" "I") (by decide +kernel)) rfl dX6_count_65 ?_
            exact q_iret hx hb hr hlk hK hw hS dX6_count_68 (Eq.symm (by rw [sp_count]; exact (Eq.trans (if_neg (by decide)) (Eq.trans (if_neg (by decide)) (Eq.trans (if_neg (by decide)) (Eq.trans (if_neg (by decide)) (if_pos rfl))))))) rfl
          · by_cases hs5 : y = 5
            · subst hs5
              refine lv_tableIn (tgt := 69) hx hb dX6_count_1 (by decide) (by decide) rfl (by decide) ?_
              refine f_aload_n hx hb dX6_count_69 hl 0 rfl rfl ?_
              refine e_get (C := RX6) (T := TX6) (N := 22) hx hb hts i6 hown hK hw Ew_mo rfl 5 (by decide) (hts (.fieldLink RX6 90 "FerryQuayModel" "towed" "I") (by decide +kernel)) rfl dX6_count_70 ?_
              exact q_iret hx hb hr hlk hK hw hS dX6_count_73 (Eq.symm (by rw [sp_count]; exact (Eq.trans (if_neg (by decide)) (Eq.trans (if_neg (by decide)) (Eq.trans (if_neg (by decide)) (Eq.trans (if_neg (by decide)) (Eq.trans (if_neg (by decide)) (if_pos rfl)))))))) rfl
            · by_cases hs6 : y = 6
              · subst hs6
                refine lv_tableIn (tgt := 74) hx hb dX6_count_1 (by decide) (by decide) rfl (by decide) ?_
                refine f_aload_n hx hb dX6_count_74 hl 0 rfl rfl ?_
                refine e_get (C := RX6) (T := TX6) (N := 22) hx hb hts i6 hown hK hw Ew_mo rfl 6 (by decide) (hts (.fieldLink RX6 66 "FerryQuayModel" "alarms" "I") (by decide +kernel)) rfl dX6_count_75 ?_
                exact q_iret hx hb hr hlk hK hw hS dX6_count_78 (Eq.symm (by rw [sp_count]; exact (Eq.trans (if_neg (by decide)) (Eq.trans (if_neg (by decide)) (Eq.trans (if_neg (by decide)) (Eq.trans (if_neg (by decide)) (Eq.trans (if_neg (by decide)) (Eq.trans (if_neg (by decide)) (if_pos rfl))))))))) rfl
              · refine lv_tableOut (tgt := 79) hx hb dX6_count_1 (sw_out (n := 6) (by decide) (fun k hk => by rcases (show k = 0 ∨ k = 1 ∨ k = 2 ∨ k = 3 ∨ k = 4 ∨ k = 5 ∨ k = 6 by omega) with rfl | rfl | rfl | rfl | rfl | rfl | rfl <;> assumption)) (by decide) ?_
                refine lv_bipush (v := (-2)) hx hb dX6_count_79 (by decide) ?_
                exact q_iret hx hb hr hlk hK hw hS dX6_count_81 (Eq.symm (by rw [sp_count]; exact (Eq.trans (if_neg hs0) (Eq.trans (if_neg hs1) (Eq.trans (if_neg hs2) (Eq.trans (if_neg hs3) (Eq.trans (if_neg hs4) (Eq.trans (if_neg hs5) (if_neg hs6))))))))) rfl
set_option maxHeartbeats 4000000 in
set_option maxRecDepth 100000 in
theorem c_X6_waiting (l : Launch) {G : va_G} {Y : YT} {lo : Nat} {ad : Nat → Nat → Nat} {ng nr nb : Nat} {z u : St} (hI : Inv u ng nr nb) (x y : Int32) : Met l yX6_waiting wsX6_waiting ({ frames := 1, cells := 0, slots := 0, locals := 21 }) (va_Pc [.ref (ad 0 4), .int x, .int y] (cS G (tysY Y) lo (Ew Y ng nr nb z u ad) ad)) (QI G (tysY Y) lo (sp_waiting nb u x y) (Ew Y ng nr nb z u ad) ad) 0 0 (fun q => lo ≤ q) := by
  refine met_of (cc := cX6_waiting) (maxL := 3) (ret := (some .int)) (by decide) rfl (Nat.le_of_ble_eq_true rfl) rfl ?_
  intro p e s m below meth c ls hx hb hr hlk hml hts hown hnm hw hK hl hS
  have i6 : ∀ w ∈ wsX60, w ∈ wsX6_waiting := by decide +kernel
  have hng := hI.mg
  have hnr := hI.mr
  have hnb := hI.mb
  rcases ix_cases x hI.nb2 with ⟨hix, hbad⟩ | ⟨j, hj, rfl, hix⟩
  · refine f_aload_n hx hb dX6_waiting_0 hl 0 rfl rfl ?_
    refine f_iload_n hx hb dX6_waiting_1 hl 1 rfl rfl ?_
    refine q_ci (q_runV (C := RX6) (T := TX6) (N := 22) ⟨hx, hb, hml, hown, hts⟩ (c_X6_isBerth l hI x) (cwV 1 hts gX6_waiting_X6_isBerth rfl rfl rfl (by decide +kernel) ⟨Nat.le_of_ble_eq_true rfl, Nat.le_of_ble_eq_true rfl⟩) hK hw Ew_mo rfl rfl hl.1 rfl (by simp [Value.category, va_rf]) dX6_waiting_2 ⟨Nat.le_of_ble_eq_true rfl, Nat.le_of_ble_eq_true rfl⟩) hS (fun H locs hw hS => ?_)
    refine f_top (y := 0) (is_bad hbad) ?_
    refine lv_if_ne (tgt := 11) hx hb dX6_waiting_5 (by decide) (fun c5 => absurd (by decide) c5) (fun c5 => ?_)
    refine lv_bipush (v := (-2)) hx hb dX6_waiting_8 (by decide) ?_
    exact q_iret hx hb hr hlk hK hw hS dX6_waiting_10 (Eq.symm (by rw [sp_waiting, hix]; exact rfl)) rfl
  · obtain ⟨hL, hLn⟩ := hI.lane hj
    refine f_aload_n hx hb dX6_waiting_0 hl 0 rfl rfl ?_
    refine f_iload_n hx hb dX6_waiting_1 hl 1 rfl rfl ?_
    refine q_ci (q_runV (C := RX6) (T := TX6) (N := 22) ⟨hx, hb, hml, hown, hts⟩ (c_X6_isBerth l hI (nI j)) (cwV 1 hts gX6_waiting_X6_isBerth rfl rfl rfl (by decide +kernel) ⟨Nat.le_of_ble_eq_true rfl, Nat.le_of_ble_eq_true rfl⟩) hK hw Ew_mo rfl rfl hl.1 rfl (by simp [Value.category, va_rf]) dX6_waiting_2 ⟨Nat.le_of_ble_eq_true rfl, Nat.le_of_ble_eq_true rfl⟩) hS (fun H locs hw hS => ?_)
    refine f_top (y := 1) (is_ok hj hI.nb2) ?_
    refine lv_if_ne (tgt := 11) hx hb dX6_waiting_5 (by decide) (fun c5 => ?_) (fun c5 => absurd c5 (by decide))
    refine f_iload_n hx hb dX6_waiting_11 hl 2 rfl rfl ?_
    refine lv_if_lt (tgt := 39) hx hb dX6_waiting_12 (by decide) (fun c12 => ?_) (fun c12 => ?_)
    · refine lv_iconst (v := (-1)) hx hb dX6_waiting_39 (by decide) ?_
      exact q_iret hx hb hr hlk hK hw hS dX6_waiting_40 (Eq.symm (by rw [sp_waiting, hix]; dsimp only [Option.elim]; exact (if_pos c12))) rfl
    · refine f_iload_n hx hb dX6_waiting_15 hl 2 rfl rfl ?_
      refine f_aload_n hx hb dX6_waiting_16 hl 0 rfl rfl ?_
      refine e_get (C := RX6) (T := TX6) (N := 22) hx hb hts i6 hown hK hw Ew_mo rfl 16 (by decide) (hts (.fieldLink RX6 38 "FerryQuayModel" "waits" "[I") (by decide +kernel)) rfl dX6_waiting_17 ?_
      refine f_iload_n hx hb dX6_waiting_20 hl 1 rfl rfl ?_
      refine e_ialdN hx hb hK hw 0 Ew_m10 rfl rfl (by omega) (by decide) dX6_waiting_21 ?_
      refine lv_icmp_ge (tgt := 39) hx hb dX6_waiting_22 (by decide) (fun c22 => ?_) (fun c22 => ?_)
      · refine lv_iconst (v := (-1)) hx hb dX6_waiting_39 (by decide) ?_
        exact q_iret hx hb hr hlk hK hw hS dX6_waiting_40 (Eq.symm (by rw [sp_waiting, hix]; dsimp only [Option.elim]; exact (Eq.trans (if_neg c12) (if_pos c22)))) rfl
      · obtain ⟨q, hq, rfl⟩ := lt_of hLn (by omega) c12 c22
        refine f_aload_n hx hb dX6_waiting_25 hl 0 rfl rfl ?_
        refine e_get (C := RX6) (T := TX6) (N := 22) hx hb hts i6 hown hK hw Ew_mo rfl 17 (by decide) (hts (.fieldLink RX6 41 "FerryQuayModel" "lane" "[I") (by decide +kernel)) rfl dX6_waiting_26 ?_
        refine lv_bipush (v := 30) hx hb dX6_waiting_29 (by decide) ?_
        refine f_iload_n hx hb dX6_waiting_31 hl 1 rfl rfl ?_
        refine lv_imul hx hb dX6_waiting_32 ?_
        refine f_iload_n hx hb dX6_waiting_33 hl 2 rfl rfl ?_
        refine lv_iadd hx hb dX6_waiting_34 ?_
        refine f_top (idx_add (k := 30) rfl rfl) ?_
        refine e_ialdN hx hb hK hw 0 Ew_m11 rfl rfl (by omega) (by decide) dX6_waiting_35 ?_
        refine f_top (y := u 11 j q) (fl30 (by omega)) ?_
        refine lv_goto (tgt := 40) hx hb dX6_waiting_36 (by decide) ?_
        exact q_iret hx hb hr hlk hK hw hS dX6_waiting_40 (Eq.symm (by rw [sp_waiting, hix]; dsimp only [Option.elim]; exact (Eq.trans (if_neg c12) (Eq.trans (if_neg c22) (congrArg (fun t => u 11 j t) (nI_clamp (by omega))))))) rfl
set_option maxHeartbeats 4000000 in
set_option maxRecDepth 100000 in
theorem c_X6_aboard (l : Launch) {G : va_G} {Y : YT} {lo : Nat} {ad : Nat → Nat → Nat} {ng nr nb : Nat} {z u : St} (hI : Inv u ng nr nb) (x y : Int32) : Met l yX6_aboard wsX6_aboard ({ frames := 1, cells := 0, slots := 0, locals := 21 }) (va_Pc [.ref (ad 0 4), .int x, .int y] (cS G (tysY Y) lo (Ew Y ng nr nb z u ad) ad)) (QI G (tysY Y) lo (sp_aboard nb u x y) (Ew Y ng nr nb z u ad) ad) 0 0 (fun q => lo ≤ q) := by
  refine met_of (cc := cX6_aboard) (maxL := 4) (ret := (some .int)) (by decide) rfl (Nat.le_of_ble_eq_true rfl) rfl ?_
  intro p e s m below meth c ls hx hb hr hlk hml hts hown hnm hw hK hl hS
  have i6 : ∀ w ∈ wsX60, w ∈ wsX6_aboard := by decide +kernel
  have hng := hI.mg
  have hnr := hI.mr
  have hnb := hI.mb
  rcases ix_cases x hI.nb2 with ⟨hix, hbad⟩ | ⟨j, hj, rfl, hix⟩
  · refine f_aload_n hx hb dX6_aboard_0 hl 0 rfl rfl ?_
    refine f_iload_n hx hb dX6_aboard_1 hl 1 rfl rfl ?_
    refine q_ci (q_runV (C := RX6) (T := TX6) (N := 22) ⟨hx, hb, hml, hown, hts⟩ (c_X6_isBerth l hI x) (cwV 1 hts gX6_aboard_X6_isBerth rfl rfl rfl (by decide +kernel) ⟨Nat.le_of_ble_eq_true rfl, Nat.le_of_ble_eq_true rfl⟩) hK hw Ew_mo rfl rfl hl.1 rfl (by simp [Value.category, va_rf]) dX6_aboard_2 ⟨Nat.le_of_ble_eq_true rfl, Nat.le_of_ble_eq_true rfl⟩) hS (fun H locs hw hS => ?_)
    refine f_top (y := 0) (is_bad hbad) ?_
    refine lv_if_ne (tgt := 11) hx hb dX6_aboard_5 (by decide) (fun c5 => absurd (by decide) c5) (fun c5 => ?_)
    refine lv_bipush (v := (-2)) hx hb dX6_aboard_8 (by decide) ?_
    exact q_iret hx hb hr hlk hK hw hS dX6_aboard_10 (Eq.symm (by rw [sp_aboard, hix]; exact rfl)) rfl
  · obtain ⟨f, hf, hF, hFt⟩ := hI.ferry hj
    obtain ⟨hL, hLn⟩ := hI.deck hf
    refine f_aload_n hx hb dX6_aboard_0 hl 0 rfl rfl ?_
    refine f_iload_n hx hb dX6_aboard_1 hl 1 rfl rfl ?_
    refine q_ci (q_runV (C := RX6) (T := TX6) (N := 22) ⟨hx, hb, hml, hown, hts⟩ (c_X6_isBerth l hI (nI j)) (cwV 1 hts gX6_aboard_X6_isBerth rfl rfl rfl (by decide +kernel) ⟨Nat.le_of_ble_eq_true rfl, Nat.le_of_ble_eq_true rfl⟩) hK hw Ew_mo rfl rfl hl.1 rfl (by simp [Value.category, va_rf]) dX6_aboard_2 ⟨Nat.le_of_ble_eq_true rfl, Nat.le_of_ble_eq_true rfl⟩) hS (fun H locs hw hS => ?_)
    refine f_top (y := 1) (is_ok hj hI.nb2) ?_
    refine lv_if_ne (tgt := 11) hx hb dX6_aboard_5 (by decide) (fun c5 => ?_) (fun c5 => absurd c5 (by decide))
    refine f_aload_n hx hb dX6_aboard_11 hl 0 rfl rfl ?_
    refine e_get (C := RX6) (T := TX6) (N := 22) hx hb hts i6 hown hK hw Ew_mo rfl 15 (by decide) (hts (.fieldLink RX6 35 "FerryQuayModel" "ferryOf" "[I") (by decide +kernel)) rfl dX6_aboard_12 ?_
    refine f_iload_n hx hb dX6_aboard_15 hl 1 rfl rfl ?_
    refine e_ialdN hx hb hK hw 0 Ew_m9 rfl rfl (by omega) (by decide) dX6_aboard_16 ?_
    refine f_istore_n hx hb dX6_aboard_17 hl 3 rfl (by decide) (fun ls hl => ?_)
    refine f_iload_n hx hb dX6_aboard_18 hl 2 rfl rfl ?_
    refine lv_if_lt (tgt := 46) hx hb dX6_aboard_19 (by decide) (fun c19 => ?_) (fun c19 => ?_)
    · refine lv_iconst (v := (-1)) hx hb dX6_aboard_46 (by decide) ?_
      exact q_iret hx hb hr hlk hK hw hS dX6_aboard_47 (Eq.symm (by rw [sp_aboard, hix]; dsimp only [Option.elim]; rw [hFt]; exact (if_pos c19))) rfl
    · refine f_iload_n hx hb dX6_aboard_22 hl 2 rfl rfl ?_
      refine f_aload_n hx hb dX6_aboard_23 hl 0 rfl rfl ?_
      refine e_get (C := RX6) (T := TX6) (N := 22) hx hb hts i6 hown hK hw Ew_mo rfl 20 (by decide) (hts (.fieldLink RX6 50 "FerryQuayModel" "many" "[I") (by decide +kernel)) rfl dX6_aboard_24 ?_
      refine f_iload_n hx hb dX6_aboard_27 hl 3 rfl rfl ?_
      refine e_ialdN hx hb hK hw 0 Ew_m14 rfl hF (by omega) (by decide) dX6_aboard_28 ?_
      refine lv_icmp_ge (tgt := 46) hx hb dX6_aboard_29 (by decide) (fun c29 => ?_) (fun c29 => ?_)
      · refine lv_iconst (v := (-1)) hx hb dX6_aboard_46 (by decide) ?_
        exact q_iret hx hb hr hlk hK hw hS dX6_aboard_47 (Eq.symm (by rw [sp_aboard, hix]; dsimp only [Option.elim]; rw [hFt]; exact (Eq.trans (if_neg c19) (if_pos c29)))) rfl
      · obtain ⟨q, hq, rfl⟩ := lt_of hLn (by omega) c19 c29
        refine f_aload_n hx hb dX6_aboard_32 hl 0 rfl rfl ?_
        refine e_get (C := RX6) (T := TX6) (N := 22) hx hb hts i6 hown hK hw Ew_mo rfl 21 (by decide) (hts (.fieldLink RX6 53 "FerryQuayModel" "deck" "[I") (by decide +kernel)) rfl dX6_aboard_33 ?_
        refine lv_bipush (v := 40) hx hb dX6_aboard_36 (by decide) ?_
        refine f_iload_n hx hb dX6_aboard_38 hl 3 rfl rfl ?_
        refine lv_imul hx hb dX6_aboard_39 ?_
        refine f_iload_n hx hb dX6_aboard_40 hl 2 rfl rfl ?_
        refine lv_iadd hx hb dX6_aboard_41 ?_
        refine f_top (y := nI (40 * f + q)) (by rw [hF]; exact idx_add (k := 40) rfl rfl) ?_
        refine e_ialdN hx hb hK hw 0 Ew_m15 rfl rfl (by omega) (by decide) dX6_aboard_42 ?_
        refine f_top (y := u 15 f q) (fl40 (by omega)) ?_
        refine lv_goto (tgt := 47) hx hb dX6_aboard_43 (by decide) ?_
        exact q_iret hx hb hr hlk hK hw hS dX6_aboard_47 (Eq.symm (by rw [sp_aboard, hix]; dsimp only [Option.elim]; rw [hFt]; exact (Eq.trans (if_neg c19) (Eq.trans (if_neg c29) (congrArg (fun t => u 15 f t) (nI_clamp (by omega))))))) rfl
set_option maxHeartbeats 4000000 in
set_option maxRecDepth 100000 in
theorem c_X6_ofGate (l : Launch) {G : va_G} {Y : YT} {lo : Nat} {ad : Nat → Nat → Nat} {ng nr nb : Nat} {z u : St} (hI : Inv u ng nr nb) (x y : Int32) : Met l yX6_ofGate wsX6_ofGate ({ frames := 1, cells := 0, slots := 0, locals := 21 }) (va_Pc [.ref (ad 0 4), .int x, .int y] (cS G (tysY Y) lo (Ew Y ng nr nb z u ad) ad)) (QI G (tysY Y) lo (sp_ofGate ng u x y) (Ew Y ng nr nb z u ad) ad) 0 0 (fun q => lo ≤ q) := by
  refine met_of (cc := cX6_ofGate) (maxL := 3) (ret := (some .int)) (by decide) rfl (Nat.le_of_ble_eq_true rfl) rfl ?_
  intro p e s m below meth c ls hx hb hr hlk hml hts hown hnm hw hK hl hS
  have i6 : ∀ w ∈ wsX60, w ∈ wsX6_ofGate := by decide +kernel
  have hng := hI.mg
  have hnr := hI.mr
  have hnb := hI.mb
  rcases ix_cases x hI.ng2 with ⟨hix, hbad⟩ | ⟨j, hj, rfl, hix⟩
  · refine f_aload_n hx hb dX6_ofGate_0 hl 0 rfl rfl ?_
    refine f_iload_n hx hb dX6_ofGate_1 hl 1 rfl rfl ?_
    refine q_ci (q_runV (C := RX6) (T := TX6) (N := 22) ⟨hx, hb, hml, hown, hts⟩ (c_X6_isGate l hI x) (cwV 1 hts gX6_ofGate_X6_isGate rfl rfl rfl (by decide +kernel) ⟨Nat.le_of_ble_eq_true rfl, Nat.le_of_ble_eq_true rfl⟩) hK hw Ew_mo rfl rfl hl.1 rfl (by simp [Value.category, va_rf]) dX6_ofGate_2 ⟨Nat.le_of_ble_eq_true rfl, Nat.le_of_ble_eq_true rfl⟩) hS (fun H locs hw hS => ?_)
    refine f_top (y := 0) (is_bad hbad) ?_
    refine lv_if_eq (tgt := 17) hx hb dX6_ofGate_5 (by decide) (fun c5 => ?_) (fun c5 => absurd (by decide) c5)
    refine lv_bipush (v := (-2)) hx hb dX6_ofGate_17 (by decide) ?_
    exact q_iret hx hb hr hlk hK hw hS dX6_ofGate_19 (Eq.symm (by rw [sp_ofGate, hix]; exact rfl)) rfl
  · refine f_aload_n hx hb dX6_ofGate_0 hl 0 rfl rfl ?_
    refine f_iload_n hx hb dX6_ofGate_1 hl 1 rfl rfl ?_
    refine q_ci (q_runV (C := RX6) (T := TX6) (N := 22) ⟨hx, hb, hml, hown, hts⟩ (c_X6_isGate l hI (nI j)) (cwV 1 hts gX6_ofGate_X6_isGate rfl rfl rfl (by decide +kernel) ⟨Nat.le_of_ble_eq_true rfl, Nat.le_of_ble_eq_true rfl⟩) hK hw Ew_mo rfl rfl hl.1 rfl (by simp [Value.category, va_rf]) dX6_ofGate_2 ⟨Nat.le_of_ble_eq_true rfl, Nat.le_of_ble_eq_true rfl⟩) hS (fun H locs hw hS => ?_)
    refine f_top (y := 1) (is_ok hj hI.ng2) ?_
    refine lv_if_eq (tgt := 17) hx hb dX6_ofGate_5 (by decide) (fun c5 => absurd c5 (by decide)) (fun c5 => ?_)
    refine f_iload_n hx hb dX6_ofGate_8 hl 2 rfl rfl ?_
    refine lv_if_lt (tgt := 17) hx hb dX6_ofGate_9 (by decide) (fun c9 => ?_) (fun c9 => ?_)
    · refine lv_bipush (v := (-2)) hx hb dX6_ofGate_17 (by decide) ?_
      exact q_iret hx hb hr hlk hK hw hS dX6_ofGate_19 (Eq.symm (by rw [sp_ofGate, hix]; dsimp only [Option.elim]; exact (Eq.trans (if_neg (fun q => absurd (q ▸ c9) (by decide))) (Eq.trans (if_neg (fun q => absurd (q ▸ c9) (by decide))) (if_neg (fun q => absurd (q ▸ c9) (by decide))))))) rfl
    · refine f_iload_n hx hb dX6_ofGate_12 hl 2 rfl rfl ?_
      refine lv_iconst (v := 2) hx hb dX6_ofGate_13 (by decide) ?_
      refine lv_icmp_le (tgt := 20) hx hb dX6_ofGate_14 (by decide) (fun c14 => ?_) (fun c14 => ?_)
      · refine f_iload_n hx hb dX6_ofGate_20 hl 2 rfl rfl ?_
        refine lv_if_ne (tgt := 33) hx hb dX6_ofGate_21 (by decide) (fun c21 => ?_) (fun c21 => ?_)
        · refine f_iload_n hx hb dX6_ofGate_33 hl 2 rfl rfl ?_
          refine lv_iconst (v := 1) hx hb dX6_ofGate_34 (by decide) ?_
          refine lv_icmp_ne (tgt := 47) hx hb dX6_ofGate_35 (by decide) (fun c35 => ?_) (fun c35 => ?_)
          · refine f_aload_n hx hb dX6_ofGate_47 hl 0 rfl rfl ?_
            refine e_get (C := RX6) (T := TX6) (N := 22) hx hb hts i6 hown hK hw Ew_mo rfl 7 (by decide) (hts (.fieldLink RX6 7 "FerryQuayModel" "isShut" "[Z") (by decide +kernel)) rfl dX6_ofGate_48 ?_
            refine f_iload_n hx hb dX6_ofGate_51 hl 1 rfl rfl ?_
            refine e_zaldN hx hb hK hw 1 Ew_m1 rfl rfl (by omega) (by decide) dX6_ofGate_52 ?_
            refine lv_if_eq (tgt := 60) hx hb dX6_ofGate_53 (by decide) (fun c53 => ?_) (fun c53 => ?_)
            · refine lv_iconst (v := 0) hx hb dX6_ofGate_60 (by decide) ?_
              exact q_iret hx hb hr hlk hK hw hS dX6_ofGate_61 (Eq.symm (by rw [sp_ofGate, hix]; dsimp only [Option.elim]; exact (Eq.trans (if_neg c21) (Eq.trans (if_neg c35) (Eq.trans (if_pos (eq_2 c9 c14 c21 c35)) (by rcases hI.b1 j with hq | hq <;> first | exact hq | exact absurd hq c53 | exact absurd (hq.symm.trans c53) (by decide))))))) rfl
            · refine lv_iconst (v := 1) hx hb dX6_ofGate_56 (by decide) ?_
              refine lv_goto (tgt := 61) hx hb dX6_ofGate_57 (by decide) ?_
              exact q_iret hx hb hr hlk hK hw hS dX6_ofGate_61 (Eq.symm (by rw [sp_ofGate, hix]; dsimp only [Option.elim]; exact (Eq.trans (if_neg c21) (Eq.trans (if_neg c35) (Eq.trans (if_pos (eq_2 c9 c14 c21 c35)) (by rcases hI.b1 j with hq | hq <;> first | exact hq | exact absurd hq c53 | exact absurd (hq.symm.trans c53) (by decide))))))) rfl
          · refine f_aload_n hx hb dX6_ofGate_38 hl 0 rfl rfl ?_
            refine e_get (C := RX6) (T := TX6) (N := 22) hx hb hts i6 hown hK hw Ew_mo rfl 9 (by decide) (hts (.fieldLink RX6 17 "FerryQuayModel" "passed" "[I") (by decide +kernel)) rfl dX6_ofGate_39 ?_
            refine f_iload_n hx hb dX6_ofGate_42 hl 1 rfl rfl ?_
            refine e_ialdN hx hb hK hw 0 Ew_m3 rfl rfl (by omega) (by decide) dX6_ofGate_43 ?_
            refine lv_goto (tgt := 61) hx hb dX6_ofGate_44 (by decide) ?_
            exact q_iret hx hb hr hlk hK hw hS dX6_ofGate_61 (Eq.symm (by rw [sp_ofGate, hix]; dsimp only [Option.elim]; exact (Eq.trans (if_neg c21) (if_pos c35)))) rfl
        · refine f_aload_n hx hb dX6_ofGate_24 hl 0 rfl rfl ?_
          refine e_get (C := RX6) (T := TX6) (N := 22) hx hb hts i6 hown hK hw Ew_mo rfl 8 (by decide) (hts (.fieldLink RX6 13 "FerryQuayModel" "gateTaken" "[I") (by decide +kernel)) rfl dX6_ofGate_25 ?_
          refine f_iload_n hx hb dX6_ofGate_28 hl 1 rfl rfl ?_
          refine e_ialdN hx hb hK hw 0 Ew_m2 rfl rfl (by omega) (by decide) dX6_ofGate_29 ?_
          refine lv_goto (tgt := 61) hx hb dX6_ofGate_30 (by decide) ?_
          exact q_iret hx hb hr hlk hK hw hS dX6_ofGate_61 (Eq.symm (by rw [sp_ofGate, hix]; dsimp only [Option.elim]; exact (if_pos c21))) rfl
      · refine lv_bipush (v := (-2)) hx hb dX6_ofGate_17 (by decide) ?_
        exact q_iret hx hb hr hlk hK hw hS dX6_ofGate_19 (Eq.symm (by rw [sp_ofGate, hix]; dsimp only [Option.elim]; exact (Eq.trans (if_neg (fun q => c14 (by rw [q]; decide))) (Eq.trans (if_neg (fun q => c14 (by rw [q]; decide))) (if_neg (fun q => c14 (by rw [q]; decide))))))) rfl
set_option maxHeartbeats 4000000 in
set_option maxRecDepth 100000 in
theorem c_X6_ofRamp (l : Launch) {G : va_G} {Y : YT} {lo : Nat} {ad : Nat → Nat → Nat} {ng nr nb : Nat} {z u : St} (hI : Inv u ng nr nb) (x y : Int32) : Met l yX6_ofRamp wsX6_ofRamp ({ frames := 1, cells := 0, slots := 0, locals := 21 }) (va_Pc [.ref (ad 0 4), .int x, .int y] (cS G (tysY Y) lo (Ew Y ng nr nb z u ad) ad)) (QI G (tysY Y) lo (sp_ofRamp nr u x y) (Ew Y ng nr nb z u ad) ad) 0 0 (fun q => lo ≤ q) := by
  refine met_of (cc := cX6_ofRamp) (maxL := 3) (ret := (some .int)) (by decide) rfl (Nat.le_of_ble_eq_true rfl) rfl ?_
  intro p e s m below meth c ls hx hb hr hlk hml hts hown hnm hw hK hl hS
  have i6 : ∀ w ∈ wsX60, w ∈ wsX6_ofRamp := by decide +kernel
  have hng := hI.mg
  have hnr := hI.mr
  have hnb := hI.mb
  rcases ix_cases x hI.nr2 with ⟨hix, hbad⟩ | ⟨j, hj, rfl, hix⟩
  · refine f_aload_n hx hb dX6_ofRamp_0 hl 0 rfl rfl ?_
    refine f_iload_n hx hb dX6_ofRamp_1 hl 1 rfl rfl ?_
    refine q_ci (q_runV (C := RX6) (T := TX6) (N := 22) ⟨hx, hb, hml, hown, hts⟩ (c_X6_isRamp l hI x) (cwV 1 hts gX6_ofRamp_X6_isRamp rfl rfl rfl (by decide +kernel) ⟨Nat.le_of_ble_eq_true rfl, Nat.le_of_ble_eq_true rfl⟩) hK hw Ew_mo rfl rfl hl.1 rfl (by simp [Value.category, va_rf]) dX6_ofRamp_2 ⟨Nat.le_of_ble_eq_true rfl, Nat.le_of_ble_eq_true rfl⟩) hS (fun H locs hw hS => ?_)
    refine f_top (y := 0) (is_bad hbad) ?_
    refine lv_if_eq (tgt := 17) hx hb dX6_ofRamp_5 (by decide) (fun c5 => ?_) (fun c5 => absurd (by decide) c5)
    refine lv_bipush (v := (-2)) hx hb dX6_ofRamp_17 (by decide) ?_
    exact q_iret hx hb hr hlk hK hw hS dX6_ofRamp_19 (Eq.symm (by rw [sp_ofRamp, hix]; exact rfl)) rfl
  · refine f_aload_n hx hb dX6_ofRamp_0 hl 0 rfl rfl ?_
    refine f_iload_n hx hb dX6_ofRamp_1 hl 1 rfl rfl ?_
    refine q_ci (q_runV (C := RX6) (T := TX6) (N := 22) ⟨hx, hb, hml, hown, hts⟩ (c_X6_isRamp l hI (nI j)) (cwV 1 hts gX6_ofRamp_X6_isRamp rfl rfl rfl (by decide +kernel) ⟨Nat.le_of_ble_eq_true rfl, Nat.le_of_ble_eq_true rfl⟩) hK hw Ew_mo rfl rfl hl.1 rfl (by simp [Value.category, va_rf]) dX6_ofRamp_2 ⟨Nat.le_of_ble_eq_true rfl, Nat.le_of_ble_eq_true rfl⟩) hS (fun H locs hw hS => ?_)
    refine f_top (y := 1) (is_ok hj hI.nr2) ?_
    refine lv_if_eq (tgt := 17) hx hb dX6_ofRamp_5 (by decide) (fun c5 => absurd c5 (by decide)) (fun c5 => ?_)
    refine f_iload_n hx hb dX6_ofRamp_8 hl 2 rfl rfl ?_
    refine lv_if_lt (tgt := 17) hx hb dX6_ofRamp_9 (by decide) (fun c9 => ?_) (fun c9 => ?_)
    · refine lv_bipush (v := (-2)) hx hb dX6_ofRamp_17 (by decide) ?_
      exact q_iret hx hb hr hlk hK hw hS dX6_ofRamp_19 (Eq.symm (by rw [sp_ofRamp, hix]; dsimp only [Option.elim]; exact (Eq.trans (if_neg (fun q => absurd (q ▸ c9) (by decide))) (Eq.trans (if_neg (fun q => absurd (q ▸ c9) (by decide))) (if_neg (fun q => absurd (q ▸ c9) (by decide))))))) rfl
    · refine f_iload_n hx hb dX6_ofRamp_12 hl 2 rfl rfl ?_
      refine lv_iconst (v := 2) hx hb dX6_ofRamp_13 (by decide) ?_
      refine lv_icmp_le (tgt := 20) hx hb dX6_ofRamp_14 (by decide) (fun c14 => ?_) (fun c14 => ?_)
      · refine f_iload_n hx hb dX6_ofRamp_20 hl 2 rfl rfl ?_
        refine lv_if_ne (tgt := 33) hx hb dX6_ofRamp_21 (by decide) (fun c21 => ?_) (fun c21 => ?_)
        · refine f_iload_n hx hb dX6_ofRamp_33 hl 2 rfl rfl ?_
          refine lv_iconst (v := 1) hx hb dX6_ofRamp_34 (by decide) ?_
          refine lv_icmp_ne (tgt := 47) hx hb dX6_ofRamp_35 (by decide) (fun c35 => ?_) (fun c35 => ?_)
          · refine f_aload_n hx hb dX6_ofRamp_47 hl 0 rfl rfl ?_
            refine e_get (C := RX6) (T := TX6) (N := 22) hx hb hts i6 hown hK hw Ew_mo rfl 10 (by decide) (hts (.fieldLink RX6 20 "FerryQuayModel" "limit" "[I") (by decide +kernel)) rfl dX6_ofRamp_48 ?_
            refine f_iload_n hx hb dX6_ofRamp_51 hl 1 rfl rfl ?_
            refine e_ialdN hx hb hK hw 0 Ew_m4 rfl rfl (by omega) (by decide) dX6_ofRamp_52 ?_
            exact q_iret hx hb hr hlk hK hw hS dX6_ofRamp_53 (Eq.symm (by rw [sp_ofRamp, hix]; dsimp only [Option.elim]; exact (Eq.trans (if_neg c21) (Eq.trans (if_neg c35) (if_pos (eq_2 c9 c14 c21 c35)))))) rfl
          · refine f_aload_n hx hb dX6_ofRamp_38 hl 0 rfl rfl ?_
            refine e_get (C := RX6) (T := TX6) (N := 22) hx hb hts i6 hown hK hw Ew_mo rfl 11 (by decide) (hts (.fieldLink RX6 23 "FerryQuayModel" "wear" "[I") (by decide +kernel)) rfl dX6_ofRamp_39 ?_
            refine f_iload_n hx hb dX6_ofRamp_42 hl 1 rfl rfl ?_
            refine e_ialdN hx hb hK hw 0 Ew_m5 rfl rfl (by omega) (by decide) dX6_ofRamp_43 ?_
            refine lv_goto (tgt := 53) hx hb dX6_ofRamp_44 (by decide) ?_
            exact q_iret hx hb hr hlk hK hw hS dX6_ofRamp_53 (Eq.symm (by rw [sp_ofRamp, hix]; dsimp only [Option.elim]; exact (Eq.trans (if_neg c21) (if_pos c35)))) rfl
        · refine f_aload_n hx hb dX6_ofRamp_24 hl 0 rfl rfl ?_
          refine e_get (C := RX6) (T := TX6) (N := 22) hx hb hts i6 hown hK hw Ew_mo rfl 12 (by decide) (hts (.fieldLink RX6 26 "FerryQuayModel" "rampTaken" "[I") (by decide +kernel)) rfl dX6_ofRamp_25 ?_
          refine f_iload_n hx hb dX6_ofRamp_28 hl 1 rfl rfl ?_
          refine e_ialdN hx hb hK hw 0 Ew_m6 rfl rfl (by omega) (by decide) dX6_ofRamp_29 ?_
          refine lv_goto (tgt := 53) hx hb dX6_ofRamp_30 (by decide) ?_
          exact q_iret hx hb hr hlk hK hw hS dX6_ofRamp_53 (Eq.symm (by rw [sp_ofRamp, hix]; dsimp only [Option.elim]; exact (if_pos c21))) rfl
      · refine lv_bipush (v := (-2)) hx hb dX6_ofRamp_17 (by decide) ?_
        exact q_iret hx hb hr hlk hK hw hS dX6_ofRamp_19 (Eq.symm (by rw [sp_ofRamp, hix]; dsimp only [Option.elim]; exact (Eq.trans (if_neg (fun q => c14 (by rw [q]; decide))) (Eq.trans (if_neg (fun q => c14 (by rw [q]; decide))) (if_neg (fun q => c14 (by rw [q]; decide))))))) rfl
set_option maxHeartbeats 4000000 in
set_option maxRecDepth 100000 in
theorem c_X6_swap (l : Launch) {G : va_G} {Y : YT} {lo : Nat} {ad : Nat → Nat → Nat} {ng nr nb : Nat} {z u : St} (hI : Inv u ng nr nb) (x y : Int32) : Met l yX6_swap wsX6_swap ({ frames := 1, cells := 0, slots := 0, locals := 21 }) (va_Pc [.ref (ad 0 4), .int x, .int y] (cS G (tysY Y) lo (Ew Y ng nr nb z u ad) ad)) (QI G (tysY Y) lo (sp_swap nb u x y).1 (Ew Y ng nr nb z (sp_swap nb u x y).2 ad) ad) 0 0 (fun q => lo ≤ q) := by
  refine met_of (cc := cX6_swap) (maxL := 6) (ret := (some .int)) (by decide) rfl (Nat.le_of_ble_eq_true rfl) rfl ?_
  intro p e s m below meth c ls hx hb hr hlk hml hts hown hnm hw hK hl hS
  have i6 : ∀ w ∈ wsX60, w ∈ wsX6_swap := by decide +kernel
  have hng := hI.mg
  have hnr := hI.mr
  have hnb := hI.mb
  rcases ix_cases x hI.nb2 with ⟨hix, hbad⟩ | ⟨i, hi, rfl, hix⟩
  · refine f_aload_n hx hb dX6_swap_0 hl 0 rfl rfl ?_
    refine f_iload_n hx hb dX6_swap_1 hl 1 rfl rfl ?_
    refine q_ci (q_runV (C := RX6) (T := TX6) (N := 22) ⟨hx, hb, hml, hown, hts⟩ (c_X6_isBerth l hI x) (cwV 1 hts gX6_swap_X6_isBerth rfl rfl rfl (by decide +kernel) ⟨Nat.le_of_ble_eq_true rfl, Nat.le_of_ble_eq_true rfl⟩) hK hw Ew_mo rfl rfl hl.1 rfl (by simp [Value.category, va_rf]) dX6_swap_2 ⟨Nat.le_of_ble_eq_true rfl, Nat.le_of_ble_eq_true rfl⟩) hS (fun H locs hw hS => ?_)
    refine f_top (y := 0) (is_bad hbad) ?_
    refine lv_if_eq (tgt := 16) hx hb dX6_swap_5 (by decide) (fun c5 => ?_) (fun c5 => absurd (by decide) c5)
    refine lv_bipush (v := (-2)) hx hb dX6_swap_16 (by decide) ?_
    exact q_ism hx hb hr hlk hK hw hS dX6_swap_18 (by rw [sp_swap, hix]; rfl)
  · rcases ix_cases y hI.nb2 with ⟨hiy, hbad2⟩ | ⟨j, hj, rfl, hiy⟩
    · refine f_aload_n hx hb dX6_swap_0 hl 0 rfl rfl ?_
      refine f_iload_n hx hb dX6_swap_1 hl 1 rfl rfl ?_
      refine q_ci (q_runV (C := RX6) (T := TX6) (N := 22) ⟨hx, hb, hml, hown, hts⟩ (c_X6_isBerth l hI (nI i)) (cwV 1 hts gX6_swap_X6_isBerth rfl rfl rfl (by decide +kernel) ⟨Nat.le_of_ble_eq_true rfl, Nat.le_of_ble_eq_true rfl⟩) hK hw Ew_mo rfl rfl hl.1 rfl (by simp [Value.category, va_rf]) dX6_swap_2 ⟨Nat.le_of_ble_eq_true rfl, Nat.le_of_ble_eq_true rfl⟩) hS (fun H locs hw hS => ?_)
      refine f_top (y := 1) (is_ok hi hI.nb2) ?_
      refine lv_if_eq (tgt := 16) hx hb dX6_swap_5 (by decide) (fun c5 => absurd c5 (by decide)) (fun c5 => ?_)
      refine f_aload_n hx hb dX6_swap_8 hl 0 rfl rfl ?_
      refine f_iload_n hx hb dX6_swap_9 hl 2 rfl rfl ?_
      refine q_ci (q_runV (C := RX6) (T := TX6) (N := 22) ⟨hx, hb, hml, hown, hts⟩ (c_X6_isBerth l hI y) (cwV 1 hts gX6_swap_X6_isBerth rfl rfl rfl (by decide +kernel) ⟨Nat.le_of_ble_eq_true rfl, Nat.le_of_ble_eq_true rfl⟩) hK hw Ew_mo rfl rfl hl.1 rfl (by simp [Value.category, va_rf]) dX6_swap_10 ⟨Nat.le_of_ble_eq_true rfl, Nat.le_of_ble_eq_true rfl⟩) hS (fun H locs hw hS => ?_)
      refine f_top (y := 0) (is_bad hbad2) ?_
      refine lv_if_ne (tgt := 19) hx hb dX6_swap_13 (by decide) (fun c13 => absurd (by decide) c13) (fun c13 => ?_)
      refine lv_bipush (v := (-2)) hx hb dX6_swap_16 (by decide) ?_
      exact q_ism hx hb hr hlk hK hw hS dX6_swap_18 (by rw [sp_swap, hix, hiy]; rfl)
    · rcases hI.gate hi with hG | ⟨g, hg, hG, hGt⟩
      · refine f_aload_n hx hb dX6_swap_0 hl 0 rfl rfl ?_
        refine f_iload_n hx hb dX6_swap_1 hl 1 rfl rfl ?_
        refine q_ci (q_runV (C := RX6) (T := TX6) (N := 22) ⟨hx, hb, hml, hown, hts⟩ (c_X6_isBerth l hI (nI i)) (cwV 1 hts gX6_swap_X6_isBerth rfl rfl rfl (by decide +kernel) ⟨Nat.le_of_ble_eq_true rfl, Nat.le_of_ble_eq_true rfl⟩) hK hw Ew_mo rfl rfl hl.1 rfl (by simp [Value.category, va_rf]) dX6_swap_2 ⟨Nat.le_of_ble_eq_true rfl, Nat.le_of_ble_eq_true rfl⟩) hS (fun H locs hw hS => ?_)
        refine f_top (y := 1) (is_ok hi hI.nb2) ?_
        refine lv_if_eq (tgt := 16) hx hb dX6_swap_5 (by decide) (fun c5 => absurd c5 (by decide)) (fun c5 => ?_)
        refine f_aload_n hx hb dX6_swap_8 hl 0 rfl rfl ?_
        refine f_iload_n hx hb dX6_swap_9 hl 2 rfl rfl ?_
        refine q_ci (q_runV (C := RX6) (T := TX6) (N := 22) ⟨hx, hb, hml, hown, hts⟩ (c_X6_isBerth l hI (nI j)) (cwV 1 hts gX6_swap_X6_isBerth rfl rfl rfl (by decide +kernel) ⟨Nat.le_of_ble_eq_true rfl, Nat.le_of_ble_eq_true rfl⟩) hK hw Ew_mo rfl rfl hl.1 rfl (by simp [Value.category, va_rf]) dX6_swap_10 ⟨Nat.le_of_ble_eq_true rfl, Nat.le_of_ble_eq_true rfl⟩) hS (fun H locs hw hS => ?_)
        refine f_top (y := 1) (is_ok hj hI.nb2) ?_
        refine lv_if_ne (tgt := 19) hx hb dX6_swap_13 (by decide) (fun c13 => ?_) (fun c13 => absurd c13 (by decide))
        refine f_aload_n hx hb dX6_swap_19 hl 0 rfl rfl ?_
        refine e_get (C := RX6) (T := TX6) (N := 22) hx hb hts i6 hown hK hw Ew_mo rfl 13 (by decide) (hts (.fieldLink RX6 29 "FerryQuayModel" "gateOf" "[I") (by decide +kernel)) rfl dX6_swap_20 ?_
        refine f_iload_n hx hb dX6_swap_23 hl 1 rfl rfl ?_
        refine e_ialdN hx hb hK hw 0 Ew_m7 rfl rfl (by omega) (by decide) dX6_swap_24 ?_
        refine f_istore_n hx hb dX6_swap_25 hl 3 rfl (by decide) (fun ls hl => ?_)
        refine f_iload_n hx hb dX6_swap_26 hl 3 rfl rfl ?_
        refine lv_iconst (v := (-1)) hx hb dX6_swap_27 (by decide) ?_
        refine lv_icmp_ne (tgt := 34) hx hb dX6_swap_28 (by decide) (fun c28 => absurd hG c28) (fun c28 => ?_)
        refine lv_bipush (v := (-4)) hx hb dX6_swap_31 (by decide) ?_
        exact q_ism hx hb hr hlk hK hw hS dX6_swap_33 (by rw [sp_swap, hix, hiy]; dsimp only [Option.elim]; exact (if_pos hG))
      · rcases hI.gate hj with hE | ⟨h, hh, hE, hEt⟩
        · refine f_aload_n hx hb dX6_swap_0 hl 0 rfl rfl ?_
          refine f_iload_n hx hb dX6_swap_1 hl 1 rfl rfl ?_
          refine q_ci (q_runV (C := RX6) (T := TX6) (N := 22) ⟨hx, hb, hml, hown, hts⟩ (c_X6_isBerth l hI (nI i)) (cwV 1 hts gX6_swap_X6_isBerth rfl rfl rfl (by decide +kernel) ⟨Nat.le_of_ble_eq_true rfl, Nat.le_of_ble_eq_true rfl⟩) hK hw Ew_mo rfl rfl hl.1 rfl (by simp [Value.category, va_rf]) dX6_swap_2 ⟨Nat.le_of_ble_eq_true rfl, Nat.le_of_ble_eq_true rfl⟩) hS (fun H locs hw hS => ?_)
          refine f_top (y := 1) (is_ok hi hI.nb2) ?_
          refine lv_if_eq (tgt := 16) hx hb dX6_swap_5 (by decide) (fun c5 => absurd c5 (by decide)) (fun c5 => ?_)
          refine f_aload_n hx hb dX6_swap_8 hl 0 rfl rfl ?_
          refine f_iload_n hx hb dX6_swap_9 hl 2 rfl rfl ?_
          refine q_ci (q_runV (C := RX6) (T := TX6) (N := 22) ⟨hx, hb, hml, hown, hts⟩ (c_X6_isBerth l hI (nI j)) (cwV 1 hts gX6_swap_X6_isBerth rfl rfl rfl (by decide +kernel) ⟨Nat.le_of_ble_eq_true rfl, Nat.le_of_ble_eq_true rfl⟩) hK hw Ew_mo rfl rfl hl.1 rfl (by simp [Value.category, va_rf]) dX6_swap_10 ⟨Nat.le_of_ble_eq_true rfl, Nat.le_of_ble_eq_true rfl⟩) hS (fun H locs hw hS => ?_)
          refine f_top (y := 1) (is_ok hj hI.nb2) ?_
          refine lv_if_ne (tgt := 19) hx hb dX6_swap_13 (by decide) (fun c13 => ?_) (fun c13 => absurd c13 (by decide))
          refine f_aload_n hx hb dX6_swap_19 hl 0 rfl rfl ?_
          refine e_get (C := RX6) (T := TX6) (N := 22) hx hb hts i6 hown hK hw Ew_mo rfl 13 (by decide) (hts (.fieldLink RX6 29 "FerryQuayModel" "gateOf" "[I") (by decide +kernel)) rfl dX6_swap_20 ?_
          refine f_iload_n hx hb dX6_swap_23 hl 1 rfl rfl ?_
          refine e_ialdN hx hb hK hw 0 Ew_m7 rfl rfl (by omega) (by decide) dX6_swap_24 ?_
          refine f_istore_n hx hb dX6_swap_25 hl 3 rfl (by decide) (fun ls hl => ?_)
          refine f_iload_n hx hb dX6_swap_26 hl 3 rfl rfl ?_
          refine lv_iconst (v := (-1)) hx hb dX6_swap_27 (by decide) ?_
          refine lv_icmp_ne (tgt := 34) hx hb dX6_swap_28 (by decide) (fun c28 => ?_) (fun c28 => absurd c28 (notm1 hG (by omega)))
          refine f_aload_n hx hb dX6_swap_34 hl 0 rfl rfl ?_
          refine e_get (C := RX6) (T := TX6) (N := 22) hx hb hts i6 hown hK hw Ew_mo rfl 8 (by decide) (hts (.fieldLink RX6 13 "FerryQuayModel" "gateTaken" "[I") (by decide +kernel)) rfl dX6_swap_35 ?_
          refine f_iload_n hx hb dX6_swap_38 hl 3 rfl rfl ?_
          refine lv_dup2_11 hx hb dX6_swap_39 rfl rfl ?_
          refine e_ialdN hx hb hK hw 0 Ew_m2 rfl hG (by omega) (by decide) dX6_swap_40 ?_
          refine lv_iconst (v := 1) hx hb dX6_swap_41 (by decide) ?_
          refine lv_iadd hx hb dX6_swap_42 ?_
          refine e_iastN hx hb hK hw hS 0 Ew_m2 rfl hG (by omega) (by decide) dX6_swap_43 (fun H locs hw hS => ?_)
          have hw := hw.cast Ep_m2
          refine f_aload_n hx hb dX6_swap_44 hl 0 rfl rfl ?_
          refine e_get (C := RX6) (T := TX6) (N := 22) hx hb hts i6 hown hK hw Ew_mo rfl 13 (by decide) (hts (.fieldLink RX6 29 "FerryQuayModel" "gateOf" "[I") (by decide +kernel)) rfl dX6_swap_45 ?_
          refine f_iload_n hx hb dX6_swap_48 hl 2 rfl rfl ?_
          refine e_ialdN hx hb hK hw 0 Ew_m7 rfl rfl (by omega) (by decide) dX6_swap_49 ?_
          refine f_istore hx hb dX6_swap_50 hl (by decide) (fun ls hl => ?_)
          refine f_iload hx hb dX6_swap_52 hl rfl ?_
          refine lv_iconst (v := (-1)) hx hb dX6_swap_54 (by decide) ?_
          refine lv_icmp_ne (tgt := 61) hx hb dX6_swap_55 (by decide) (fun c55 => absurd hE c55) (fun c55 => ?_)
          refine lv_bipush (v := (-4)) hx hb dX6_swap_58 (by decide) ?_
          exact q_ism hx hb hr hlk hK hw hS dX6_swap_60 (by rw [sp_swap, hix, hiy]; dsimp only [Option.elim]; rw [hGt]; exact (Eq.trans (if_neg (notm1 hG (by omega))) (if_pos hE)))
        · obtain ⟨f1, hf1, hF1, hFt1⟩ := hI.ferry hi
          obtain ⟨f2, hf2, hF2, hFt2⟩ := hI.ferry hj
          refine f_aload_n hx hb dX6_swap_0 hl 0 rfl rfl ?_
          refine f_iload_n hx hb dX6_swap_1 hl 1 rfl rfl ?_
          refine q_ci (q_runV (C := RX6) (T := TX6) (N := 22) ⟨hx, hb, hml, hown, hts⟩ (c_X6_isBerth l hI (nI i)) (cwV 1 hts gX6_swap_X6_isBerth rfl rfl rfl (by decide +kernel) ⟨Nat.le_of_ble_eq_true rfl, Nat.le_of_ble_eq_true rfl⟩) hK hw Ew_mo rfl rfl hl.1 rfl (by simp [Value.category, va_rf]) dX6_swap_2 ⟨Nat.le_of_ble_eq_true rfl, Nat.le_of_ble_eq_true rfl⟩) hS (fun H locs hw hS => ?_)
          refine f_top (y := 1) (is_ok hi hI.nb2) ?_
          refine lv_if_eq (tgt := 16) hx hb dX6_swap_5 (by decide) (fun c5 => absurd c5 (by decide)) (fun c5 => ?_)
          refine f_aload_n hx hb dX6_swap_8 hl 0 rfl rfl ?_
          refine f_iload_n hx hb dX6_swap_9 hl 2 rfl rfl ?_
          refine q_ci (q_runV (C := RX6) (T := TX6) (N := 22) ⟨hx, hb, hml, hown, hts⟩ (c_X6_isBerth l hI (nI j)) (cwV 1 hts gX6_swap_X6_isBerth rfl rfl rfl (by decide +kernel) ⟨Nat.le_of_ble_eq_true rfl, Nat.le_of_ble_eq_true rfl⟩) hK hw Ew_mo rfl rfl hl.1 rfl (by simp [Value.category, va_rf]) dX6_swap_10 ⟨Nat.le_of_ble_eq_true rfl, Nat.le_of_ble_eq_true rfl⟩) hS (fun H locs hw hS => ?_)
          refine f_top (y := 1) (is_ok hj hI.nb2) ?_
          refine lv_if_ne (tgt := 19) hx hb dX6_swap_13 (by decide) (fun c13 => ?_) (fun c13 => absurd c13 (by decide))
          refine f_aload_n hx hb dX6_swap_19 hl 0 rfl rfl ?_
          refine e_get (C := RX6) (T := TX6) (N := 22) hx hb hts i6 hown hK hw Ew_mo rfl 13 (by decide) (hts (.fieldLink RX6 29 "FerryQuayModel" "gateOf" "[I") (by decide +kernel)) rfl dX6_swap_20 ?_
          refine f_iload_n hx hb dX6_swap_23 hl 1 rfl rfl ?_
          refine e_ialdN hx hb hK hw 0 Ew_m7 rfl rfl (by omega) (by decide) dX6_swap_24 ?_
          refine f_istore_n hx hb dX6_swap_25 hl 3 rfl (by decide) (fun ls hl => ?_)
          refine f_iload_n hx hb dX6_swap_26 hl 3 rfl rfl ?_
          refine lv_iconst (v := (-1)) hx hb dX6_swap_27 (by decide) ?_
          refine lv_icmp_ne (tgt := 34) hx hb dX6_swap_28 (by decide) (fun c28 => ?_) (fun c28 => absurd c28 (notm1 hG (by omega)))
          refine f_aload_n hx hb dX6_swap_34 hl 0 rfl rfl ?_
          refine e_get (C := RX6) (T := TX6) (N := 22) hx hb hts i6 hown hK hw Ew_mo rfl 8 (by decide) (hts (.fieldLink RX6 13 "FerryQuayModel" "gateTaken" "[I") (by decide +kernel)) rfl dX6_swap_35 ?_
          refine f_iload_n hx hb dX6_swap_38 hl 3 rfl rfl ?_
          refine lv_dup2_11 hx hb dX6_swap_39 rfl rfl ?_
          refine e_ialdN hx hb hK hw 0 Ew_m2 rfl hG (by omega) (by decide) dX6_swap_40 ?_
          refine lv_iconst (v := 1) hx hb dX6_swap_41 (by decide) ?_
          refine lv_iadd hx hb dX6_swap_42 ?_
          refine e_iastN hx hb hK hw hS 0 Ew_m2 rfl hG (by omega) (by decide) dX6_swap_43 (fun H locs hw hS => ?_)
          have hw := hw.cast Ep_m2
          refine f_aload_n hx hb dX6_swap_44 hl 0 rfl rfl ?_
          refine e_get (C := RX6) (T := TX6) (N := 22) hx hb hts i6 hown hK hw Ew_mo rfl 13 (by decide) (hts (.fieldLink RX6 29 "FerryQuayModel" "gateOf" "[I") (by decide +kernel)) rfl dX6_swap_45 ?_
          refine f_iload_n hx hb dX6_swap_48 hl 2 rfl rfl ?_
          refine e_ialdN hx hb hK hw 0 Ew_m7 rfl rfl (by omega) (by decide) dX6_swap_49 ?_
          refine f_istore hx hb dX6_swap_50 hl (by decide) (fun ls hl => ?_)
          refine f_iload hx hb dX6_swap_52 hl rfl ?_
          refine lv_iconst (v := (-1)) hx hb dX6_swap_54 (by decide) ?_
          refine lv_icmp_ne (tgt := 61) hx hb dX6_swap_55 (by decide) (fun c55 => ?_) (fun c55 => absurd c55 (notm1 hE (by omega)))
          refine f_aload_n hx hb dX6_swap_61 hl 0 rfl rfl ?_
          refine e_get (C := RX6) (T := TX6) (N := 22) hx hb hts i6 hown hK hw Ew_mo rfl 8 (by decide) (hts (.fieldLink RX6 13 "FerryQuayModel" "gateTaken" "[I") (by decide +kernel)) rfl dX6_swap_62 ?_
          refine f_iload hx hb dX6_swap_65 hl rfl ?_
          refine lv_dup2_11 hx hb dX6_swap_67 rfl rfl ?_
          refine e_ialdN hx hb hK hw 0 Ew_m2 rfl hE (by omega) (by decide) dX6_swap_68 ?_
          refine lv_iconst (v := 1) hx hb dX6_swap_69 (by decide) ?_
          refine lv_iadd hx hb dX6_swap_70 ?_
          refine e_iastN hx hb hK hw hS 0 Ew_m2 rfl hE (by omega) (by decide) dX6_swap_71 (fun H locs hw hS => ?_)
          have hw := hw.cast Ep_m2
          refine f_aload_n hx hb dX6_swap_72 hl 0 rfl rfl ?_
          refine e_get (C := RX6) (T := TX6) (N := 22) hx hb hts i6 hown hK hw Ew_mo rfl 7 (by decide) (hts (.fieldLink RX6 7 "FerryQuayModel" "isShut" "[Z") (by decide +kernel)) rfl dX6_swap_73 ?_
          refine f_iload_n hx hb dX6_swap_76 hl 3 rfl rfl ?_
          refine e_zaldN hx hb hK hw 1 Ew_m1 rfl hG (by omega) (by decide) dX6_swap_77 ?_
          refine lv_if_ne (tgt := 91) hx hb dX6_swap_78 (by decide) (fun c78 => ?_) (fun c78 => ?_)
          · refine lv_bipush (v := (-5)) hx hb dX6_swap_91 (by decide) ?_
            exact q_ism hx hb hr hlk hK hw hS dX6_swap_93 (by rw [sp_swap, hix, hiy]; dsimp only [Option.elim]; rw [hGt, hEt]; exact (Eq.trans (if_neg (notm1 hG (by omega))) (Eq.trans (if_neg (notm1 hE (by omega))) (if_neg c78))))
          · refine f_aload_n hx hb dX6_swap_81 hl 0 rfl rfl ?_
            refine e_get (C := RX6) (T := TX6) (N := 22) hx hb hts i6 hown hK hw Ew_mo rfl 7 (by decide) (hts (.fieldLink RX6 7 "FerryQuayModel" "isShut" "[Z") (by decide +kernel)) rfl dX6_swap_82 ?_
            refine f_iload hx hb dX6_swap_85 hl rfl ?_
            refine e_zaldN hx hb hK hw 1 Ew_m1 rfl hE (by omega) (by decide) dX6_swap_87 ?_
            refine lv_if_eq (tgt := 94) hx hb dX6_swap_88 (by decide) (fun c88 => ?_) (fun c88 => ?_)
            · refine f_aload_n hx hb dX6_swap_94 hl 0 rfl rfl ?_
              refine e_get (C := RX6) (T := TX6) (N := 22) hx hb hts i6 hown hK hw Ew_mo rfl 15 (by decide) (hts (.fieldLink RX6 35 "FerryQuayModel" "ferryOf" "[I") (by decide +kernel)) rfl dX6_swap_95 ?_
              refine f_iload_n hx hb dX6_swap_98 hl 1 rfl rfl ?_
              refine e_ialdN hx hb hK hw 0 Ew_m9 rfl rfl (by omega) (by decide) dX6_swap_99 ?_
              refine f_istore hx hb dX6_swap_100 hl (by decide) (fun ls hl => ?_)
              refine f_aload_n hx hb dX6_swap_102 hl 0 rfl rfl ?_
              refine e_get (C := RX6) (T := TX6) (N := 22) hx hb hts i6 hown hK hw Ew_mo rfl 15 (by decide) (hts (.fieldLink RX6 35 "FerryQuayModel" "ferryOf" "[I") (by decide +kernel)) rfl dX6_swap_103 ?_
              refine f_iload_n hx hb dX6_swap_106 hl 1 rfl rfl ?_
              refine f_aload_n hx hb dX6_swap_107 hl 0 rfl rfl ?_
              refine e_get (C := RX6) (T := TX6) (N := 22) hx hb hts i6 hown hK hw Ew_mo rfl 15 (by decide) (hts (.fieldLink RX6 35 "FerryQuayModel" "ferryOf" "[I") (by decide +kernel)) rfl dX6_swap_108 ?_
              refine f_iload_n hx hb dX6_swap_111 hl 2 rfl rfl ?_
              refine e_ialdN hx hb hK hw 0 Ew_m9 rfl rfl (by omega) (by decide) dX6_swap_112 ?_
              refine e_iastN hx hb hK hw hS 0 Ew_m9 rfl rfl (by omega) (by decide) dX6_swap_113 (fun H locs hw hS => ?_)
              have hw := hw.cast Ep_m9
              refine f_aload_n hx hb dX6_swap_114 hl 0 rfl rfl ?_
              refine e_get (C := RX6) (T := TX6) (N := 22) hx hb hts i6 hown hK hw Ew_mo rfl 15 (by decide) (hts (.fieldLink RX6 35 "FerryQuayModel" "ferryOf" "[I") (by decide +kernel)) rfl dX6_swap_115 ?_
              refine f_iload_n hx hb dX6_swap_118 hl 2 rfl rfl ?_
              refine f_iload hx hb dX6_swap_119 hl rfl ?_
              refine e_iastN hx hb hK hw hS 0 Ew_m9 rfl rfl (by omega) (by decide) dX6_swap_121 (fun H locs hw hS => ?_)
              have hw := hw.cast Ep_m9
              refine f_aload_n hx hb dX6_swap_122 hl 0 rfl rfl ?_
              refine e_get (C := RX6) (T := TX6) (N := 22) hx hb hts i6 hown hK hw Ew_mo rfl 19 (by decide) (hts (.fieldLink RX6 47 "FerryQuayModel" "load" "[I") (by decide +kernel)) rfl dX6_swap_123 ?_
              refine f_aload_n hx hb dX6_swap_126 hl 0 rfl rfl ?_
              refine e_get (C := RX6) (T := TX6) (N := 22) hx hb hts i6 hown hK hw Ew_mo rfl 15 (by decide) (hts (.fieldLink RX6 35 "FerryQuayModel" "ferryOf" "[I") (by decide +kernel)) rfl dX6_swap_127 ?_
              refine f_iload_n hx hb dX6_swap_130 hl 1 rfl rfl ?_
              refine e_ialdN hx hb hK hw 0 Ew_m9 rfl rfl (by omega) (by decide) dX6_swap_131 ?_
              refine e_ialdN hx hb hK hw 0 Ew_m13 rfl (swp_at.trans hF2) (by omega) (by decide) dX6_swap_132 ?_
              exact q_ism hx hb hr hlk hK hw hS dX6_swap_133 (by rw [sp_swap, hix, hiy]; dsimp only [Option.elim]; rw [hGt, hEt]; exact (Eq.trans (if_neg (notm1 hG (by omega))) (Eq.trans (if_neg (notm1 hE (by omega))) (Eq.trans (if_pos c78) (Eq.trans (if_pos c88) (by rw [hFt2]; rfl))))))
            · refine lv_bipush (v := (-5)) hx hb dX6_swap_91 (by decide) ?_
              exact q_ism hx hb hr hlk hK hw hS dX6_swap_93 (by rw [sp_swap, hix, hiy]; dsimp only [Option.elim]; rw [hGt, hEt]; exact (Eq.trans (if_neg (notm1 hG (by omega))) (Eq.trans (if_neg (notm1 hE (by omega))) (Eq.trans (if_pos c78) (if_neg c88)))))
