set_option maxHeartbeats 4000000 in
set_option maxRecDepth 100000 in
theorem c_X6_land (l : Launch) {G : va_G} {Y : YT} {lo : Nat} {ad : Nat → Nat → Nat} {ng nr nb : Nat} {z u : St} (hI : Inv u ng nr nb) (x n : Int32) : Met l yX6_land wsX6_land ({ frames := 1, cells := 0, slots := 0, locals := 21 }) (va_Pc [.ref (ad 0 4), .int x, .int n] (cS G (tysY Y) lo (Ew Y ng nr nb z u ad) ad)) (QI G (tysY Y) lo (sp_land nb u x n).1 (Ew Y ng nr nb z (sp_land nb u x n).2 ad) ad) 0 0 (fun q => lo ≤ q) := by
  refine met_of (cc := cX6_land) (maxL := 8) (ret := (some .int)) (by decide) rfl (Nat.le_of_ble_eq_true rfl) rfl ?_
  intro p e s m below meth c ls hx hb hr hlk hml hts hown hnm hw hK hl hS
  have i6 : ∀ w ∈ wsX60, w ∈ wsX6_land := by decide +kernel
  have hng := hI.mg
  have hnr := hI.mr
  have hnb := hI.mb
  rcases ix_cases x hI.nb2 with ⟨hix, hbad⟩ | ⟨j, hj, rfl, hix⟩
  · refine f_aload_n hx hb dX6_land_0 hl 0 rfl rfl ?_
    refine f_iload_n hx hb dX6_land_1 hl 1 rfl rfl ?_
    refine q_ci (q_runV (C := RX6) (T := TX6) (N := 22) ⟨hx, hb, hml, hown, hts⟩ (c_X6_isBerth l hI x) (cwV 1 hts gX6_land_X6_isBerth rfl rfl rfl (by decide +kernel) ⟨Nat.le_of_ble_eq_true rfl, Nat.le_of_ble_eq_true rfl⟩) hK hw Ew_mo rfl rfl hl.1 rfl (by simp [Value.category, va_rf]) dX6_land_2 ⟨Nat.le_of_ble_eq_true rfl, Nat.le_of_ble_eq_true rfl⟩) hS (fun H locs hw hS => ?_)
    refine f_top (y := 0) (is_bad hbad) ?_
    refine lv_if_eq (tgt := 19) hx hb dX6_land_5 (by decide) (fun c5 => ?_) (fun c5 => absurd (by decide) c5)
    refine lv_bipush (v := (-2)) hx hb dX6_land_19 (by decide) ?_
    exact q_ism hx hb hr hlk hK hw hS dX6_land_21 (by rw [sp_land, hix]; exact rfl)
  · by_cases h1 : n < 1
    · refine f_aload_n hx hb dX6_land_0 hl 0 rfl rfl ?_
      refine f_iload_n hx hb dX6_land_1 hl 1 rfl rfl ?_
      refine q_ci (q_runV (C := RX6) (T := TX6) (N := 22) ⟨hx, hb, hml, hown, hts⟩ (c_X6_isBerth l hI (nI j)) (cwV 1 hts gX6_land_X6_isBerth rfl rfl rfl (by decide +kernel) ⟨Nat.le_of_ble_eq_true rfl, Nat.le_of_ble_eq_true rfl⟩) hK hw Ew_mo rfl rfl hl.1 rfl (by simp [Value.category, va_rf]) dX6_land_2 ⟨Nat.le_of_ble_eq_true rfl, Nat.le_of_ble_eq_true rfl⟩) hS (fun H locs hw hS => ?_)
      refine f_top (y := 1) (is_ok hj hI.nb2) ?_
      refine lv_if_eq (tgt := 19) hx hb dX6_land_5 (by decide) (fun c5 => absurd c5 (by decide)) (fun c5 => ?_)
      refine f_iload_n hx hb dX6_land_8 hl 2 rfl rfl ?_
      refine lv_iconst (v := 1) hx hb dX6_land_9 (by decide) ?_
      refine lv_icmp_lt (tgt := 19) hx hb dX6_land_10 (by decide) (fun c10 => ?_) (fun c10 => absurd h1 c10)
      refine lv_bipush (v := (-2)) hx hb dX6_land_19 (by decide) ?_
      exact q_ism hx hb hr hlk hK hw hS dX6_land_21 (by rw [sp_land, hix]; dsimp only [Option.elim]; exact (if_pos h1))
    · by_cases h2 : 40 < n
      · refine f_aload_n hx hb dX6_land_0 hl 0 rfl rfl ?_
        refine f_iload_n hx hb dX6_land_1 hl 1 rfl rfl ?_
        refine q_ci (q_runV (C := RX6) (T := TX6) (N := 22) ⟨hx, hb, hml, hown, hts⟩ (c_X6_isBerth l hI (nI j)) (cwV 1 hts gX6_land_X6_isBerth rfl rfl rfl (by decide +kernel) ⟨Nat.le_of_ble_eq_true rfl, Nat.le_of_ble_eq_true rfl⟩) hK hw Ew_mo rfl rfl hl.1 rfl (by simp [Value.category, va_rf]) dX6_land_2 ⟨Nat.le_of_ble_eq_true rfl, Nat.le_of_ble_eq_true rfl⟩) hS (fun H locs hw hS => ?_)
        refine f_top (y := 1) (is_ok hj hI.nb2) ?_
        refine lv_if_eq (tgt := 19) hx hb dX6_land_5 (by decide) (fun c5 => absurd c5 (by decide)) (fun c5 => ?_)
        refine f_iload_n hx hb dX6_land_8 hl 2 rfl rfl ?_
        refine lv_iconst (v := 1) hx hb dX6_land_9 (by decide) ?_
        refine lv_icmp_lt (tgt := 19) hx hb dX6_land_10 (by decide) (fun c10 => absurd c10 h1) (fun c10 => ?_)
        refine f_iload_n hx hb dX6_land_13 hl 2 rfl rfl ?_
        refine lv_bipush (v := 40) hx hb dX6_land_14 (by decide) ?_
        refine lv_icmp_le (tgt := 22) hx hb dX6_land_16 (by decide) (fun c16 => absurd c16 (Int32.not_le.mpr h2)) (fun c16 => ?_)
        refine lv_bipush (v := (-2)) hx hb dX6_land_19 (by decide) ?_
        exact q_ism hx hb hr hlk hK hw hS dX6_land_21 (by rw [sp_land, hix]; dsimp only [Option.elim]; exact (Eq.trans (if_neg h1) (if_pos h2)))
      · obtain ⟨N, hN, rfl⟩ := rng_of (M := 40) (m := 40) (by decide) h1 h2
        obtain ⟨f, hf, hF, hFt⟩ := hI.ferry hj
        rcases hI.ramp hj with hR | ⟨r, hr2, hR, hRt⟩
        · refine f_aload_n hx hb dX6_land_0 hl 0 rfl rfl ?_
          refine f_iload_n hx hb dX6_land_1 hl 1 rfl rfl ?_
          refine q_ci (q_runV (C := RX6) (T := TX6) (N := 22) ⟨hx, hb, hml, hown, hts⟩ (c_X6_isBerth l hI (nI j)) (cwV 1 hts gX6_land_X6_isBerth rfl rfl rfl (by decide +kernel) ⟨Nat.le_of_ble_eq_true rfl, Nat.le_of_ble_eq_true rfl⟩) hK hw Ew_mo rfl rfl hl.1 rfl (by simp [Value.category, va_rf]) dX6_land_2 ⟨Nat.le_of_ble_eq_true rfl, Nat.le_of_ble_eq_true rfl⟩) hS (fun H locs hw hS => ?_)
          refine f_top (y := 1) (is_ok hj hI.nb2) ?_
          refine lv_if_eq (tgt := 19) hx hb dX6_land_5 (by decide) (fun c5 => absurd c5 (by decide)) (fun c5 => ?_)
          refine f_iload_n hx hb dX6_land_8 hl 2 rfl rfl ?_
          refine lv_iconst (v := 1) hx hb dX6_land_9 (by decide) ?_
          refine lv_icmp_lt (tgt := 19) hx hb dX6_land_10 (by decide) (fun c10 => absurd c10 h1) (fun c10 => ?_)
          refine f_iload_n hx hb dX6_land_13 hl 2 rfl rfl ?_
          refine lv_bipush (v := 40) hx hb dX6_land_14 (by decide) ?_
          refine lv_icmp_le (tgt := 22) hx hb dX6_land_16 (by decide) (fun c16 => ?_) (fun c16 => absurd (Int32.not_lt.mp h2) c16)
          refine f_aload_n hx hb dX6_land_22 hl 0 rfl rfl ?_
          refine e_get (C := RX6) (T := TX6) (N := 22) hx hb hts i6 hown hK hw Ew_mo rfl 14 (by decide) (hts (.fieldLink RX6 32 "FerryQuayModel" "rampOf" "[I") (by decide +kernel)) rfl dX6_land_23 ?_
          refine f_iload_n hx hb dX6_land_26 hl 1 rfl rfl ?_
          refine e_ialdN hx hb hK hw 0 Ew_m8 rfl rfl (by omega) (by decide) dX6_land_27 ?_
          refine f_istore_n hx hb dX6_land_28 hl 3 rfl (by decide) (fun ls hl => ?_)
          refine f_iload_n hx hb dX6_land_29 hl 3 rfl rfl ?_
          refine lv_iconst (v := (-1)) hx hb dX6_land_30 (by decide) ?_
          refine lv_icmp_ne (tgt := 37) hx hb dX6_land_31 (by decide) (fun c31 => absurd hR c31) (fun c31 => ?_)
          refine lv_bipush (v := (-4)) hx hb dX6_land_34 (by decide) ?_
          exact q_ism hx hb hr hlk hK hw hS dX6_land_36 (by rw [sp_land, hix]; dsimp only [Option.elim]; exact (Eq.trans (if_neg h1) (Eq.trans (if_neg h2) (if_pos hR))))
        · refine f_aload_n hx hb dX6_land_0 hl 0 rfl rfl ?_
          refine f_iload_n hx hb dX6_land_1 hl 1 rfl rfl ?_
          refine q_ci (q_runV (C := RX6) (T := TX6) (N := 22) ⟨hx, hb, hml, hown, hts⟩ (c_X6_isBerth l hI (nI j)) (cwV 1 hts gX6_land_X6_isBerth rfl rfl rfl (by decide +kernel) ⟨Nat.le_of_ble_eq_true rfl, Nat.le_of_ble_eq_true rfl⟩) hK hw Ew_mo rfl rfl hl.1 rfl (by simp [Value.category, va_rf]) dX6_land_2 ⟨Nat.le_of_ble_eq_true rfl, Nat.le_of_ble_eq_true rfl⟩) hS (fun H locs hw hS => ?_)
          refine f_top (y := 1) (is_ok hj hI.nb2) ?_
          refine lv_if_eq (tgt := 19) hx hb dX6_land_5 (by decide) (fun c5 => absurd c5 (by decide)) (fun c5 => ?_)
          refine f_iload_n hx hb dX6_land_8 hl 2 rfl rfl ?_
          refine lv_iconst (v := 1) hx hb dX6_land_9 (by decide) ?_
          refine lv_icmp_lt (tgt := 19) hx hb dX6_land_10 (by decide) (fun c10 => absurd c10 h1) (fun c10 => ?_)
          refine f_iload_n hx hb dX6_land_13 hl 2 rfl rfl ?_
          refine lv_bipush (v := 40) hx hb dX6_land_14 (by decide) ?_
          refine lv_icmp_le (tgt := 22) hx hb dX6_land_16 (by decide) (fun c16 => ?_) (fun c16 => absurd (Int32.not_lt.mp h2) c16)
          refine f_aload_n hx hb dX6_land_22 hl 0 rfl rfl ?_
          refine e_get (C := RX6) (T := TX6) (N := 22) hx hb hts i6 hown hK hw Ew_mo rfl 14 (by decide) (hts (.fieldLink RX6 32 "FerryQuayModel" "rampOf" "[I") (by decide +kernel)) rfl dX6_land_23 ?_
          refine f_iload_n hx hb dX6_land_26 hl 1 rfl rfl ?_
          refine e_ialdN hx hb hK hw 0 Ew_m8 rfl rfl (by omega) (by decide) dX6_land_27 ?_
          refine f_top (y := nI r) hR ?_
          refine f_istore_n hx hb dX6_land_28 hl 3 rfl (by decide) (fun ls hl => ?_)
          refine f_iload_n hx hb dX6_land_29 hl 3 rfl rfl ?_
          refine lv_iconst (v := (-1)) hx hb dX6_land_30 (by decide) ?_
          refine lv_icmp_ne (tgt := 37) hx hb dX6_land_31 (by decide) (fun c31 => ?_) (fun c31 => absurd c31 (nI_m1 (by omega)))
          refine f_aload_n hx hb dX6_land_37 hl 0 rfl rfl ?_
          refine e_get (C := RX6) (T := TX6) (N := 22) hx hb hts i6 hown hK hw Ew_mo rfl 12 (by decide) (hts (.fieldLink RX6 26 "FerryQuayModel" "rampTaken" "[I") (by decide +kernel)) rfl dX6_land_38 ?_
          refine f_iload_n hx hb dX6_land_41 hl 3 rfl rfl ?_
          refine lv_dup2_11 hx hb dX6_land_42 rfl rfl ?_
          refine e_ialdN hx hb hK hw 0 Ew_m6 rfl rfl (by omega) (by decide) dX6_land_43 ?_
          refine lv_iconst (v := 1) hx hb dX6_land_44 (by decide) ?_
          refine lv_iadd hx hb dX6_land_45 ?_
          refine e_iastN hx hb hK hw hS 0 Ew_m6 rfl rfl (by omega) (by decide) dX6_land_46 (fun H locs hw hS => ?_)
          have hw := hw.cast Ep_m6
          refine f_aload_n hx hb dX6_land_47 hl 0 rfl rfl ?_
          refine e_get (C := RX6) (T := TX6) (N := 22) hx hb hts i6 hown hK hw Ew_mo rfl 15 (by decide) (hts (.fieldLink RX6 35 "FerryQuayModel" "ferryOf" "[I") (by decide +kernel)) rfl dX6_land_48 ?_
          refine f_iload_n hx hb dX6_land_51 hl 1 rfl rfl ?_
          refine e_ialdN hx hb hK hw 0 Ew_m9 rfl rfl (by omega) (by decide) dX6_land_52 ?_
          refine f_top (y := nI f) hF ?_
          refine f_istore hx hb dX6_land_53 hl (by decide) (fun ls hl => ?_)
          rcases hI.gate hj with hG | ⟨g, hg, hG, hGt⟩
          · refine lv_iconst (v := 0) hx hb dX6_land_55 (by decide) ?_
            refine f_istore hx hb dX6_land_56 hl (by decide) (fun ls hl => ?_)
            have loop : ∀ (t : Nat) (w : Int32) (k : Nat) (zc : St) (H : Heap) (locs : List Loc) (ls : Array Slot), Inv zc ng nr nb → w = nI k → k + t = N → sc zc 7 j = -1 → ll j r f t w zc = sp_land nb u (nI j) (nI N) → wo G lo (Ew Y ng nr nb z zc ad) ad H → va_S (fun q => lo ≤ q) s.heap H locs → lh ls 8 (fun i9 => ([(0, .ref (ad 0 4)), (1, .int (nI j)), (2, .int (nI N)), (3, .int (nI r)), (4, .int (nI f)), (5, .int (w))].find? (fun q => q.1 == i9)).map (fun q => q.2)) → W p l e (headSpec wsX6_land ({ frames := 1, cells := 0, slots := 0, locals := 21 })).room s m ([.ref (ad 0 4), .int (nI j), .int (nI N)] : List Value).toArray below meth c H locs 0 0 (MQ below (QI G (tysY Y) lo (sp_land nb u (nI j) (nI N)).1 (Ew Y ng nr nb z (sp_land nb u (nI j) (nI N)).2 ad) ad) ([.ref (ad 0 4), .int (nI j), .int (nI N)] : List Value).toArray s 0 0 (fun q => lo ≤ q)) (F0 m 58 ls []) := by
              intro t
              induction t with
              | zero =>
                intro w k zc H locs ls hI hwk hkt hG hsp hw hS hl
                obtain ⟨hD, hDn⟩ := hI.deck hf
                refine f_iload hx hb dX6_land_58 hl rfl ?_
                refine f_iload_n hx hb dX6_land_60 hl 2 rfl rfl ?_
                refine lv_icmp_ge (tgt := 237) hx hb dX6_land_61 (by decide) (fun c61 => ?_) (fun c61 => absurd (by rw [hwk]; exact nI_le (by omega) (by omega)) c61)
                refine f_iload hx hb dX6_land_237 hl rfl ?_
                exact q_ism hx hb hr hlk hK hw hS dX6_land_239 hsp.symm
              | succ t ih =>
                intro w k zc H locs ls hI hwk hkt hG hsp hw hS hl
                obtain ⟨hD, hDn⟩ := hI.deck hf
                refine f_iload hx hb dX6_land_58 hl rfl ?_
                refine f_iload_n hx hb dX6_land_60 hl 2 rfl rfl ?_
                refine lv_icmp_ge (tgt := 237) hx hb dX6_land_61 (by decide) (fun c61 => absurd c61 (by rw [hwk]; exact nI_ge (by omega) (by omega))) (fun c61 => ?_)
                refine f_aload_n hx hb dX6_land_64 hl 0 rfl rfl ?_
                refine e_get (C := RX6) (T := TX6) (N := 22) hx hb hts i6 hown hK hw Ew_mo rfl 20 (by decide) (hts (.fieldLink RX6 50 "FerryQuayModel" "many" "[I") (by decide +kernel)) rfl dX6_land_65 ?_
                refine f_iload hx hb dX6_land_68 hl rfl ?_
                refine e_ialdN hx hb hK hw 0 Ew_m14 rfl rfl (by omega) (by decide) dX6_land_70 ?_
                refine f_top (y := nI (dk zc f)) hDn ?_
                by_cases hd : dk zc f = 0
                · refine lv_if_le (tgt := 237) hx hb dX6_land_71 (by decide) (fun c71 => ?_) (fun c71 => absurd (by rw [hd]; decide) c71)
                  refine f_iload hx hb dX6_land_237 hl rfl ?_
                  exact q_ism hx hb hr hlk hK hw hS dX6_land_239 (hsp.symm.trans (by rw [ll]; exact (if_pos hd)))
                · refine lv_if_le (tgt := 237) hx hb dX6_land_71 (by decide) (fun c71 => absurd c71 (nI_nle (by omega) (by omega))) (fun c71 => ?_)
                  refine f_aload_n hx hb dX6_land_74 hl 0 rfl rfl ?_
                  refine e_get (C := RX6) (T := TX6) (N := 22) hx hb hts i6 hown hK hw Ew_mo rfl 13 (by decide) (hts (.fieldLink RX6 29 "FerryQuayModel" "gateOf" "[I") (by decide +kernel)) rfl dX6_land_75 ?_
                  refine f_iload_n hx hb dX6_land_78 hl 1 rfl rfl ?_
                  refine e_ialdN hx hb hK hw 0 Ew_m7 rfl rfl (by omega) (by decide) dX6_land_79 ?_
                  refine f_istore hx hb dX6_land_80 hl (by decide) (fun ls hl => ?_)
                  refine f_iload hx hb dX6_land_82 hl rfl ?_
                  refine lv_iconst (v := (-1)) hx hb dX6_land_84 (by decide) ?_
                  refine lv_icmp_ne (tgt := 91) hx hb dX6_land_85 (by decide) (fun c85 => absurd hG c85) (fun c85 => ?_)
                  refine lv_bipush (v := (-4)) hx hb dX6_land_88 (by decide) ?_
                  exact q_ism hx hb hr hlk hK hw hS dX6_land_90 (hsp.symm.trans (by rw [ll]; exact (Eq.trans (if_neg hd) (if_pos hG))))
            exact loop N 0 0 (inc u 6 r) _ _ _ (hI.p6 hr2) rfl (by omega) hG (Eq.symm (by rw [sp_land, hix]; dsimp only [Option.elim]; rw [hRt, hFt, show tn (nI N) = N from nI_clamp (by omega)]; exact (Eq.trans (if_neg h1) (Eq.trans (if_neg h2) (if_neg (notm1 hR (by omega))))))) hw hS (hl.list [(0, .ref (ad 0 4)), (1, .int (nI j)), (2, .int (nI N)), (3, .int (nI r)), (4, .int (nI f)), (5, .int (0))] (List.forall_mem_cons.mpr ⟨rfl, List.forall_mem_cons.mpr ⟨rfl, List.forall_mem_cons.mpr ⟨rfl, List.forall_mem_cons.mpr ⟨rfl, List.forall_mem_cons.mpr ⟨rfl, List.forall_mem_cons.mpr ⟨rfl, fun _ h => absurd h List.not_mem_nil⟩⟩⟩⟩⟩⟩))
          · refine lv_iconst (v := 0) hx hb dX6_land_55 (by decide) ?_
            refine f_istore hx hb dX6_land_56 hl (by decide) (fun ls hl => ?_)
            have loop : ∀ (t : Nat) (w : Int32) (k : Nat) (zc : St) (H : Heap) (locs : List Loc) (ls : Array Slot), Inv zc ng nr nb → w = nI k → k + t = N → sc zc 7 j = nI g → ll j r f t w zc = sp_land nb u (nI j) (nI N) → wo G lo (Ew Y ng nr nb z zc ad) ad H → va_S (fun q => lo ≤ q) s.heap H locs → lh ls 8 (fun i9 => ([(0, .ref (ad 0 4)), (1, .int (nI j)), (2, .int (nI N)), (3, .int (nI r)), (4, .int (nI f)), (5, .int (w))].find? (fun q => q.1 == i9)).map (fun q => q.2)) → W p l e (headSpec wsX6_land ({ frames := 1, cells := 0, slots := 0, locals := 21 })).room s m ([.ref (ad 0 4), .int (nI j), .int (nI N)] : List Value).toArray below meth c H locs 0 0 (MQ below (QI G (tysY Y) lo (sp_land nb u (nI j) (nI N)).1 (Ew Y ng nr nb z (sp_land nb u (nI j) (nI N)).2 ad) ad) ([.ref (ad 0 4), .int (nI j), .int (nI N)] : List Value).toArray s 0 0 (fun q => lo ≤ q)) (F0 m 58 ls []) := by
              intro t
              induction t with
              | zero =>
                intro w k zc H locs ls hI hwk hkt hG hsp hw hS hl
                obtain ⟨hD, hDn⟩ := hI.deck hf
                have hGt : tn (sc zc 7 j) = g := by rw [hG]; exact nI_clamp (by omega)
                refine f_iload hx hb dX6_land_58 hl rfl ?_
                refine f_iload_n hx hb dX6_land_60 hl 2 rfl rfl ?_
                refine lv_icmp_ge (tgt := 237) hx hb dX6_land_61 (by decide) (fun c61 => ?_) (fun c61 => absurd (by rw [hwk]; exact nI_le (by omega) (by omega)) c61)
                refine f_iload hx hb dX6_land_237 hl rfl ?_
                exact q_ism hx hb hr hlk hK hw hS dX6_land_239 hsp.symm
              | succ t ih =>
                intro w k zc H locs ls hI hwk hkt hG hsp hw hS hl
                obtain ⟨hD, hDn⟩ := hI.deck hf
                have hGt : tn (sc zc 7 j) = g := by rw [hG]; exact nI_clamp (by omega)
                refine f_iload hx hb dX6_land_58 hl rfl ?_
                refine f_iload_n hx hb dX6_land_60 hl 2 rfl rfl ?_
                refine lv_icmp_ge (tgt := 237) hx hb dX6_land_61 (by decide) (fun c61 => absurd c61 (by rw [hwk]; exact nI_ge (by omega) (by omega))) (fun c61 => ?_)
                refine f_aload_n hx hb dX6_land_64 hl 0 rfl rfl ?_
                refine e_get (C := RX6) (T := TX6) (N := 22) hx hb hts i6 hown hK hw Ew_mo rfl 20 (by decide) (hts (.fieldLink RX6 50 "FerryQuayModel" "many" "[I") (by decide +kernel)) rfl dX6_land_65 ?_
                refine f_iload hx hb dX6_land_68 hl rfl ?_
                refine e_ialdN hx hb hK hw 0 Ew_m14 rfl rfl (by omega) (by decide) dX6_land_70 ?_
                refine f_top (y := nI (dk zc f)) hDn ?_
                by_cases hd : dk zc f = 0
                · refine lv_if_le (tgt := 237) hx hb dX6_land_71 (by decide) (fun c71 => ?_) (fun c71 => absurd (by rw [hd]; decide) c71)
                  refine f_iload hx hb dX6_land_237 hl rfl ?_
                  exact q_ism hx hb hr hlk hK hw hS dX6_land_239 (hsp.symm.trans (by rw [ll]; exact (if_pos hd)))
                · refine lv_if_le (tgt := 237) hx hb dX6_land_71 (by decide) (fun c71 => absurd c71 (nI_nle (by omega) (by omega))) (fun c71 => ?_)
                  refine f_aload_n hx hb dX6_land_74 hl 0 rfl rfl ?_
                  refine e_get (C := RX6) (T := TX6) (N := 22) hx hb hts i6 hown hK hw Ew_mo rfl 13 (by decide) (hts (.fieldLink RX6 29 "FerryQuayModel" "gateOf" "[I") (by decide +kernel)) rfl dX6_land_75 ?_
                  refine f_iload_n hx hb dX6_land_78 hl 1 rfl rfl ?_
                  refine e_ialdN hx hb hK hw 0 Ew_m7 rfl rfl (by omega) (by decide) dX6_land_79 ?_
                  refine f_top (y := nI g) hG ?_
                  refine f_istore hx hb dX6_land_80 hl (by decide) (fun ls hl => ?_)
                  refine f_iload hx hb dX6_land_82 hl rfl ?_
                  refine lv_iconst (v := (-1)) hx hb dX6_land_84 (by decide) ?_
                  refine lv_icmp_ne (tgt := 91) hx hb dX6_land_85 (by decide) (fun c85 => ?_) (fun c85 => absurd c85 (nI_m1 (by omega)))
                  refine f_aload_n hx hb dX6_land_91 hl 0 rfl rfl ?_
                  refine e_get (C := RX6) (T := TX6) (N := 22) hx hb hts i6 hown hK hw Ew_mo rfl 8 (by decide) (hts (.fieldLink RX6 13 "FerryQuayModel" "gateTaken" "[I") (by decide +kernel)) rfl dX6_land_92 ?_
                  refine f_iload hx hb dX6_land_95 hl rfl ?_
                  refine lv_dup2_11 hx hb dX6_land_97 rfl rfl ?_
                  refine e_ialdN hx hb hK hw 0 Ew_m2 rfl rfl (by omega) (by decide) dX6_land_98 ?_
                  refine lv_iconst (v := 1) hx hb dX6_land_99 (by decide) ?_
                  refine lv_iadd hx hb dX6_land_100 ?_
                  refine e_iastN hx hb hK hw hS 0 Ew_m2 rfl rfl (by omega) (by decide) dX6_land_101 (fun H locs hw hS => ?_)
                  have hw := hw.cast Ep_m2
                  refine f_aload_n hx hb dX6_land_102 hl 0 rfl rfl ?_
                  refine e_get (C := RX6) (T := TX6) (N := 22) hx hb hts i6 hown hK hw Ew_mo rfl 7 (by decide) (hts (.fieldLink RX6 7 "FerryQuayModel" "isShut" "[Z") (by decide +kernel)) rfl dX6_land_103 ?_
                  refine f_iload hx hb dX6_land_106 hl rfl ?_
                  refine e_zaldN hx hb hK hw 1 Ew_m1 rfl rfl (by omega) (by decide) dX6_land_108 ?_
                  refine lv_if_eq (tgt := 115) hx hb dX6_land_109 (by decide) (fun c109 => ?_) (fun c109 => ?_)
                  · refine f_aload_n hx hb dX6_land_115 hl 0 rfl rfl ?_
                    refine e_get (C := RX6) (T := TX6) (N := 22) hx hb hts i6 hown hK hw Ew_mo rfl 21 (by decide) (hts (.fieldLink RX6 53 "FerryQuayModel" "deck" "[I") (by decide +kernel)) rfl dX6_land_116 ?_
                    refine lv_bipush (v := 40) hx hb dX6_land_119 (by decide) ?_
                    refine f_iload hx hb dX6_land_121 hl rfl ?_
                    refine lv_imul hx hb dX6_land_123 ?_
                    refine f_aload_n hx hb dX6_land_124 hl 0 rfl rfl ?_
                    refine e_get (C := RX6) (T := TX6) (N := 22) hx hb hts i6 hown hK hw Ew_mo rfl 20 (by decide) (hts (.fieldLink RX6 50 "FerryQuayModel" "many" "[I") (by decide +kernel)) rfl dX6_land_125 ?_
                    refine f_iload hx hb dX6_land_128 hl rfl ?_
                    refine e_ialdN hx hb hK hw 0 Ew_m14 rfl rfl (by omega) (by decide) dX6_land_130 ?_
                    refine f_top (y := nI (dk zc f)) hDn ?_
                    refine lv_iadd hx hb dX6_land_131 ?_
                    refine lv_iconst (v := 1) hx hb dX6_land_132 (by decide) ?_
                    refine lv_isub hx hb dX6_land_133 ?_
                    refine f_top (y := nI (40 * f + (dk zc f - 1))) (by rw [idx_add (m := 40) (k := 40) rfl rfl, nI_s1 (by omega)]; congr 1; omega) ?_
                    refine e_ialdN hx hb hK hw 0 Ew_m15 rfl rfl (by omega) (by decide) dX6_land_134 ?_
                    refine f_top (y := zc 15 f (dk zc f - 1)) (fl40 (by omega)) ?_
                    refine f_istore hx hb dX6_land_135 hl (by decide) (fun ls hl => ?_)
                    refine f_iload hx hb dX6_land_137 hl rfl ?_
                    refine f_aload_n hx hb dX6_land_139 hl 0 rfl rfl ?_
                    refine e_get (C := RX6) (T := TX6) (N := 22) hx hb hts i6 hown hK hw Ew_mo rfl 10 (by decide) (hts (.fieldLink RX6 20 "FerryQuayModel" "limit" "[I") (by decide +kernel)) rfl dX6_land_140 ?_
                    refine f_iload_n hx hb dX6_land_143 hl 3 rfl rfl ?_
                    refine e_ialdN hx hb hK hw 0 Ew_m4 rfl rfl (by omega) (by decide) dX6_land_144 ?_
                    refine lv_icmp_le (tgt := 155) hx hb dX6_land_145 (by decide) (fun c145 => ?_) (fun c145 => ?_)
                    · refine f_aload_n hx hb dX6_land_155 hl 0 rfl rfl ?_
                      refine e_get (C := RX6) (T := TX6) (N := 22) hx hb hts i6 hown hK hw Ew_mo rfl 20 (by decide) (hts (.fieldLink RX6 50 "FerryQuayModel" "many" "[I") (by decide +kernel)) rfl dX6_land_156 ?_
                      refine f_iload hx hb dX6_land_159 hl rfl ?_
                      refine lv_dup2_11 hx hb dX6_land_161 rfl rfl ?_
                      refine e_ialdN hx hb hK hw 0 Ew_m14 rfl rfl (by omega) (by decide) dX6_land_162 ?_
                      refine lv_iconst (v := 1) hx hb dX6_land_163 (by decide) ?_
                      refine lv_isub hx hb dX6_land_164 ?_
                      refine f_top ((congrArg (fun q => q - 1) hDn).trans (nI_s1 (by omega))) ?_
                      refine e_iastN hx hb hK hw hS 0 Ew_m14 rfl rfl (by omega) (by decide) dX6_land_165 (fun H locs hw hS => ?_)
                      have hw := hw.cast Ep_m14
                      refine f_aload_n hx hb dX6_land_166 hl 0 rfl rfl ?_
                      refine e_get (C := RX6) (T := TX6) (N := 22) hx hb hts i6 hown hK hw Ew_mo rfl 19 (by decide) (hts (.fieldLink RX6 47 "FerryQuayModel" "load" "[I") (by decide +kernel)) rfl dX6_land_167 ?_
                      refine f_iload hx hb dX6_land_170 hl rfl ?_
                      refine lv_dup2_11 hx hb dX6_land_172 rfl rfl ?_
                      refine e_ialdN hx hb hK hw 0 Ew_m13 rfl rfl (by omega) (by decide) dX6_land_173 ?_
                      refine f_iload hx hb dX6_land_174 hl rfl ?_
                      refine lv_isub hx hb dX6_land_176 ?_
                      refine e_iastN hx hb hK hw hS 0 Ew_m13 rfl rfl (by omega) (by decide) dX6_land_177 (fun H locs hw hS => ?_)
                      have hw := hw.cast Ep_m13
                      refine f_aload_n hx hb dX6_land_178 hl 0 rfl rfl ?_
                      refine lv_dup hx hb dX6_land_179 rfl ?_
                      refine e_get (C := RX6) (T := TX6) (N := 22) hx hb hts i6 hown hK hw Ew_mo rfl 4 (by decide) (hts (.fieldLink RX6 96 "FerryQuayModel" "gone" "I") (by decide +kernel)) rfl dX6_land_180 ?_
                      refine lv_iconst (v := 1) hx hb dX6_land_183 (by decide) ?_
                      refine lv_iadd hx hb dX6_land_184 ?_
                      refine e_put (C := RX6) (T := TX6) (N := 22) (ty := .int) hx hb hts i6 tyX6 tyX6_ok nmX6 hown hK hw hS Ew_mo rfl 4 (by decide) (hts (.fieldLink RX6 96 "FerryQuayModel" "gone" "I") (by decide +kernel)) rfl (by decide +kernel) rfl rfl (Nat.le_of_ble_eq_true rfl) dX6_land_185 (fun H locs hw hS => ?_)
                      have hw := hw.cast Ep_mo4
                      refine f_iinc (d := 1) hx hb dX6_land_188 hl rfl (by decide) (by decide) (fun ls hl => ?_)
                      refine f_iload hx hb dX6_land_191 hl rfl ?_
                      refine lv_if_eq (tgt := 58) hx hb dX6_land_193 (by decide) (fun c193 => ?_) (fun c193 => ?_)
                      · exact ih (w + 1) (k + 1) _ _ _ _ (((hI.p2 hg).ld hf).t4) (by rw [hwk]; exact nI_1 k) (by omega) hG (Eq.trans (Eq.symm (by rw [ll, hGt]; exact (Eq.trans (if_neg hd) (Eq.trans (if_neg (notm1 hG (by omega))) (Eq.trans (if_pos c109) (Eq.trans (if_neg (Int32.not_lt.mpr c145)) (if_pos c193))))))) hsp) hw hS (hl.list [(0, .ref (ad 0 4)), (1, .int (nI j)), (2, .int (nI N)), (3, .int (nI r)), (4, .int (nI f)), (5, .int (w + 1))] (List.forall_mem_cons.mpr ⟨rfl, List.forall_mem_cons.mpr ⟨rfl, List.forall_mem_cons.mpr ⟨rfl, List.forall_mem_cons.mpr ⟨rfl, List.forall_mem_cons.mpr ⟨rfl, List.forall_mem_cons.mpr ⟨rfl, fun _ h => absurd h List.not_mem_nil⟩⟩⟩⟩⟩⟩))
                      · refine f_iload hx hb dX6_land_196 hl rfl ?_
                        refine f_aload_n hx hb dX6_land_198 hl 0 rfl rfl ?_
                        refine e_get (C := RX6) (T := TX6) (N := 22) hx hb hts i6 hown hK hw Ew_mo rfl 10 (by decide) (hts (.fieldLink RX6 20 "FerryQuayModel" "limit" "[I") (by decide +kernel)) rfl dX6_land_199 ?_
                        refine f_iload_n hx hb dX6_land_202 hl 3 rfl rfl ?_
                        refine e_ialdN hx hb hK hw 0 Ew_m4 rfl rfl (by omega) (by decide) dX6_land_203 ?_
                        refine lv_iconst (v := 2) hx hb dX6_land_204 (by decide) ?_
                        refine lv_idiv hx hb dX6_land_205 (by decide) ?_
                        refine lv_icmp_le (tgt := 212) hx hb dX6_land_206 (by decide) (fun c206 => ?_) (fun c206 => ?_)
                        · refine f_aload_n hx hb dX6_land_212 hl 0 rfl rfl ?_
                          refine e_get (C := RX6) (T := TX6) (N := 22) hx hb hts i6 hown hK hw Ew_mo rfl 9 (by decide) (hts (.fieldLink RX6 17 "FerryQuayModel" "passed" "[I") (by decide +kernel)) rfl dX6_land_213 ?_
                          refine f_iload hx hb dX6_land_216 hl rfl ?_
                          refine lv_dup2_11 hx hb dX6_land_218 rfl rfl ?_
                          refine e_ialdN hx hb hK hw 0 Ew_m3 rfl rfl (by omega) (by decide) dX6_land_219 ?_
                          refine lv_iconst (v := 1) hx hb dX6_land_220 (by decide) ?_
                          refine lv_iadd hx hb dX6_land_221 ?_
                          refine e_iastN hx hb hK hw hS 0 Ew_m3 rfl rfl (by omega) (by decide) dX6_land_222 (fun H locs hw hS => ?_)
                          have hw := hw.cast Ep_m3
                          refine f_aload_n hx hb dX6_land_223 hl 0 rfl rfl ?_
                          refine e_get (C := RX6) (T := TX6) (N := 22) hx hb hts i6 hown hK hw Ew_mo rfl 11 (by decide) (hts (.fieldLink RX6 23 "FerryQuayModel" "wear" "[I") (by decide +kernel)) rfl dX6_land_224 ?_
                          refine f_iload_n hx hb dX6_land_227 hl 3 rfl rfl ?_
                          refine lv_dup2_11 hx hb dX6_land_228 rfl rfl ?_
                          refine e_ialdN hx hb hK hw 0 Ew_m5 rfl rfl (by omega) (by decide) dX6_land_229 ?_
                          refine f_iload hx hb dX6_land_230 hl rfl ?_
                          refine lv_iadd hx hb dX6_land_232 ?_
                          refine e_iastN hx hb hK hw hS 0 Ew_m5 rfl rfl (by omega) (by decide) dX6_land_233 (fun H locs hw hS => ?_)
                          have hw := hw.cast Ep_m5
                          refine lv_goto (tgt := 58) hx hb dX6_land_234 (by decide) ?_
                          exact ih (w + 1) (k + 1) _ _ _ _ (((((hI.p2 hg).ld hf).t4).p3 hg).p5 hr2) (by rw [hwk]; exact nI_1 k) (by omega) hG (Eq.trans (Eq.symm (by rw [ll, hGt]; exact (Eq.trans (if_neg hd) (Eq.trans (if_neg (notm1 hG (by omega))) (Eq.trans (if_pos c109) (Eq.trans (if_neg (Int32.not_lt.mpr c145)) (Eq.trans (if_neg c193) (if_neg (Int32.not_lt.mpr c206))))))))) hsp) hw hS (hl.list [(0, .ref (ad 0 4)), (1, .int (nI j)), (2, .int (nI N)), (3, .int (nI r)), (4, .int (nI f)), (5, .int (w + 1))] (List.forall_mem_cons.mpr ⟨rfl, List.forall_mem_cons.mpr ⟨rfl, List.forall_mem_cons.mpr ⟨rfl, List.forall_mem_cons.mpr ⟨rfl, List.forall_mem_cons.mpr ⟨rfl, List.forall_mem_cons.mpr ⟨rfl, fun _ h => absurd h List.not_mem_nil⟩⟩⟩⟩⟩⟩))
                        · refine lv_goto (tgt := 58) hx hb dX6_land_209 (by decide) ?_
                          exact ih (w + 1) (k + 1) _ _ _ _ (((hI.p2 hg).ld hf).t4) (by rw [hwk]; exact nI_1 k) (by omega) hG (Eq.trans (Eq.symm (by rw [ll, hGt]; exact (Eq.trans (if_neg hd) (Eq.trans (if_neg (notm1 hG (by omega))) (Eq.trans (if_pos c109) (Eq.trans (if_neg (Int32.not_lt.mpr c145)) (Eq.trans (if_neg c193) (if_pos (Int32.not_le.mp c206))))))))) hsp) hw hS (hl.list [(0, .ref (ad 0 4)), (1, .int (nI j)), (2, .int (nI N)), (3, .int (nI r)), (4, .int (nI f)), (5, .int (w + 1))] (List.forall_mem_cons.mpr ⟨rfl, List.forall_mem_cons.mpr ⟨rfl, List.forall_mem_cons.mpr ⟨rfl, List.forall_mem_cons.mpr ⟨rfl, List.forall_mem_cons.mpr ⟨rfl, List.forall_mem_cons.mpr ⟨rfl, fun _ h => absurd h List.not_mem_nil⟩⟩⟩⟩⟩⟩))
                    · refine f_aload_n hx hb dX6_land_148 hl 0 rfl rfl ?_
                      refine lv_bipush (v := (-6)) hx hb dX6_land_149 (by decide) ?_
                      refine q_ci (q_runV (C := RX6) (T := TX6) (N := 22) ⟨hx, hb, hml, hown, hts⟩ (c_X6_alarm l (hI.p2 hg) (-6)) (cwV 1 hts gX6_land_X6_alarm rfl rfl rfl (by decide +kernel) ⟨Nat.le_of_ble_eq_true rfl, Nat.le_of_ble_eq_true rfl⟩) hK hw Ew_mo rfl rfl hl.1 rfl (by simp [Value.category, va_rf]) dX6_land_151 ⟨Nat.le_of_ble_eq_true rfl, Nat.le_of_ble_eq_true rfl⟩) hS (fun H locs hw hS => ?_)
                      exact q_ism hx hb hr hlk hK hw hS dX6_land_154 (hsp.symm.trans (by rw [ll, hGt]; exact (Eq.trans (if_neg hd) (Eq.trans (if_neg (notm1 hG (by omega))) (Eq.trans (if_pos c109) (if_pos (Int32.not_le.mp c145)))))))
                  · refine f_iload hx hb dX6_land_112 hl rfl ?_
                    exact q_ism hx hb hr hlk hK hw hS dX6_land_114 (hsp.symm.trans (by rw [ll, hGt]; exact (Eq.trans (if_neg hd) (Eq.trans (if_neg (notm1 hG (by omega))) (if_neg c109)))))
            exact loop N 0 0 (inc u 6 r) _ _ _ (hI.p6 hr2) rfl (by omega) hG (Eq.symm (by rw [sp_land, hix]; dsimp only [Option.elim]; rw [hRt, hFt, show tn (nI N) = N from nI_clamp (by omega)]; exact (Eq.trans (if_neg h1) (Eq.trans (if_neg h2) (if_neg (notm1 hR (by omega))))))) hw hS (hl.list [(0, .ref (ad 0 4)), (1, .int (nI j)), (2, .int (nI N)), (3, .int (nI r)), (4, .int (nI f)), (5, .int (0))] (List.forall_mem_cons.mpr ⟨rfl, List.forall_mem_cons.mpr ⟨rfl, List.forall_mem_cons.mpr ⟨rfl, List.forall_mem_cons.mpr ⟨rfl, List.forall_mem_cons.mpr ⟨rfl, List.forall_mem_cons.mpr ⟨rfl, fun _ h => absurd h List.not_mem_nil⟩⟩⟩⟩⟩⟩))
set_option maxHeartbeats 4000000 in
set_option maxRecDepth 100000 in
theorem c_X6_shift (l : Launch) {G : va_G} {Y : YT} {lo : Nat} {ad : Nat → Nat → Nat} {ng nr nb : Nat} {z u : St} (hI : Inv u ng nr nb) (x y n : Int32) : Met l yX6_shift wsX6_shift ({ frames := 1, cells := 0, slots := 0, locals := 23 }) (va_Pc [.ref (ad 0 4), .int x, .int y, .int n] (cS G (tysY Y) lo (Ew Y ng nr nb z u ad) ad)) (QI G (tysY Y) lo (sp_shift nb u x y n).1 (Ew Y ng nr nb z (sp_shift nb u x y n).2 ad) ad) 0 0 (fun q => lo ≤ q) := by
  refine met_of (cc := cX6_shift) (maxL := 8) (ret := (some .int)) (by decide) rfl (Nat.le_of_ble_eq_true rfl) rfl ?_
  intro p e s m below meth c ls hx hb hr hlk hml hts hown hnm hw hK hl hS
  have i6 : ∀ w ∈ wsX60, w ∈ wsX6_shift := by decide +kernel
  have hng := hI.mg
  have hnr := hI.mr
  have hnb := hI.mb
  rcases ix_cases x hI.nb2 with ⟨hix, hbad⟩ | ⟨i, hi, rfl, hix⟩
  · refine f_aload_n hx hb dX6_shift_0 hl 0 rfl rfl ?_
    refine f_iload_n hx hb dX6_shift_1 hl 1 rfl rfl ?_
    refine q_ci (q_runV (C := RX6) (T := TX6) (N := 22) ⟨hx, hb, hml, hown, hts⟩ (c_X6_isBerth l hI x) (cwV 1 hts gX6_shift_X6_isBerth rfl rfl rfl (by decide +kernel) ⟨Nat.le_of_ble_eq_true rfl, Nat.le_of_ble_eq_true rfl⟩) hK hw Ew_mo rfl rfl hl.1 rfl (by simp [Value.category, va_rf]) dX6_shift_2 ⟨Nat.le_of_ble_eq_true rfl, Nat.le_of_ble_eq_true rfl⟩) hS (fun H locs hw hS => ?_)
    refine f_top (y := 0) (is_bad hbad) ?_
    refine lv_if_eq (tgt := 32) hx hb dX6_shift_5 (by decide) (fun c5 => ?_) (fun c5 => absurd (by decide) c5)
    refine lv_bipush (v := (-2)) hx hb dX6_shift_32 (by decide) ?_
    exact q_ism hx hb hr hlk hK hw hS dX6_shift_34 (by rw [sp_shift, hix]; rfl)
  · rcases ix_cases y hI.nb2 with ⟨hiy, hbad2⟩ | ⟨j, hj, rfl, hiy⟩
    · refine f_aload_n hx hb dX6_shift_0 hl 0 rfl rfl ?_
      refine f_iload_n hx hb dX6_shift_1 hl 1 rfl rfl ?_
      refine q_ci (q_runV (C := RX6) (T := TX6) (N := 22) ⟨hx, hb, hml, hown, hts⟩ (c_X6_isBerth l hI (nI i)) (cwV 1 hts gX6_shift_X6_isBerth rfl rfl rfl (by decide +kernel) ⟨Nat.le_of_ble_eq_true rfl, Nat.le_of_ble_eq_true rfl⟩) hK hw Ew_mo rfl rfl hl.1 rfl (by simp [Value.category, va_rf]) dX6_shift_2 ⟨Nat.le_of_ble_eq_true rfl, Nat.le_of_ble_eq_true rfl⟩) hS (fun H locs hw hS => ?_)
      refine f_top (y := 1) (is_ok hi hI.nb2) ?_
      refine lv_if_eq (tgt := 32) hx hb dX6_shift_5 (by decide) (fun c5 => absurd c5 (by decide)) (fun c5 => ?_)
      refine f_aload_n hx hb dX6_shift_8 hl 0 rfl rfl ?_
      refine f_iload_n hx hb dX6_shift_9 hl 2 rfl rfl ?_
      refine q_ci (q_runV (C := RX6) (T := TX6) (N := 22) ⟨hx, hb, hml, hown, hts⟩ (c_X6_isBerth l hI y) (cwV 1 hts gX6_shift_X6_isBerth rfl rfl rfl (by decide +kernel) ⟨Nat.le_of_ble_eq_true rfl, Nat.le_of_ble_eq_true rfl⟩) hK hw Ew_mo rfl rfl hl.1 rfl (by simp [Value.category, va_rf]) dX6_shift_10 ⟨Nat.le_of_ble_eq_true rfl, Nat.le_of_ble_eq_true rfl⟩) hS (fun H locs hw hS => ?_)
      refine f_top (y := 0) (is_bad hbad2) ?_
      refine lv_if_eq (tgt := 32) hx hb dX6_shift_13 (by decide) (fun c13 => ?_) (fun c13 => absurd (by decide) c13)
      refine lv_bipush (v := (-2)) hx hb dX6_shift_32 (by decide) ?_
      exact q_ism hx hb hr hlk hK hw hS dX6_shift_34 (by rw [sp_shift, hix, hiy]; rfl)
    · by_cases hij : i = j
      · refine f_aload_n hx hb dX6_shift_0 hl 0 rfl rfl ?_
        refine f_iload_n hx hb dX6_shift_1 hl 1 rfl rfl ?_
        refine q_ci (q_runV (C := RX6) (T := TX6) (N := 22) ⟨hx, hb, hml, hown, hts⟩ (c_X6_isBerth l hI (nI i)) (cwV 1 hts gX6_shift_X6_isBerth rfl rfl rfl (by decide +kernel) ⟨Nat.le_of_ble_eq_true rfl, Nat.le_of_ble_eq_true rfl⟩) hK hw Ew_mo rfl rfl hl.1 rfl (by simp [Value.category, va_rf]) dX6_shift_2 ⟨Nat.le_of_ble_eq_true rfl, Nat.le_of_ble_eq_true rfl⟩) hS (fun H locs hw hS => ?_)
        refine f_top (y := 1) (is_ok hi hI.nb2) ?_
        refine lv_if_eq (tgt := 32) hx hb dX6_shift_5 (by decide) (fun c5 => absurd c5 (by decide)) (fun c5 => ?_)
        refine f_aload_n hx hb dX6_shift_8 hl 0 rfl rfl ?_
        refine f_iload_n hx hb dX6_shift_9 hl 2 rfl rfl ?_
        refine q_ci (q_runV (C := RX6) (T := TX6) (N := 22) ⟨hx, hb, hml, hown, hts⟩ (c_X6_isBerth l hI (nI j)) (cwV 1 hts gX6_shift_X6_isBerth rfl rfl rfl (by decide +kernel) ⟨Nat.le_of_ble_eq_true rfl, Nat.le_of_ble_eq_true rfl⟩) hK hw Ew_mo rfl rfl hl.1 rfl (by simp [Value.category, va_rf]) dX6_shift_10 ⟨Nat.le_of_ble_eq_true rfl, Nat.le_of_ble_eq_true rfl⟩) hS (fun H locs hw hS => ?_)
        refine f_top (y := 1) (is_ok hj hI.nb2) ?_
        refine lv_if_eq (tgt := 32) hx hb dX6_shift_13 (by decide) (fun c13 => absurd c13 (by decide)) (fun c13 => ?_)
        refine f_iload_n hx hb dX6_shift_16 hl 1 rfl rfl ?_
        refine f_iload_n hx hb dX6_shift_17 hl 2 rfl rfl ?_
        refine lv_icmp_eq (tgt := 32) hx hb dX6_shift_18 (by decide) (fun c18 => ?_) (fun c18 => absurd (by rw [hij]) c18)
        refine lv_bipush (v := (-2)) hx hb dX6_shift_32 (by decide) ?_
        exact q_ism hx hb hr hlk hK hw hS dX6_shift_34 (by rw [sp_shift, hix, hiy]; dsimp only [Option.elim]; exact (if_pos hij))
      · by_cases h1 : n < 1
        · refine f_aload_n hx hb dX6_shift_0 hl 0 rfl rfl ?_
          refine f_iload_n hx hb dX6_shift_1 hl 1 rfl rfl ?_
          refine q_ci (q_runV (C := RX6) (T := TX6) (N := 22) ⟨hx, hb, hml, hown, hts⟩ (c_X6_isBerth l hI (nI i)) (cwV 1 hts gX6_shift_X6_isBerth rfl rfl rfl (by decide +kernel) ⟨Nat.le_of_ble_eq_true rfl, Nat.le_of_ble_eq_true rfl⟩) hK hw Ew_mo rfl rfl hl.1 rfl (by simp [Value.category, va_rf]) dX6_shift_2 ⟨Nat.le_of_ble_eq_true rfl, Nat.le_of_ble_eq_true rfl⟩) hS (fun H locs hw hS => ?_)
          refine f_top (y := 1) (is_ok hi hI.nb2) ?_
          refine lv_if_eq (tgt := 32) hx hb dX6_shift_5 (by decide) (fun c5 => absurd c5 (by decide)) (fun c5 => ?_)
          refine f_aload_n hx hb dX6_shift_8 hl 0 rfl rfl ?_
          refine f_iload_n hx hb dX6_shift_9 hl 2 rfl rfl ?_
          refine q_ci (q_runV (C := RX6) (T := TX6) (N := 22) ⟨hx, hb, hml, hown, hts⟩ (c_X6_isBerth l hI (nI j)) (cwV 1 hts gX6_shift_X6_isBerth rfl rfl rfl (by decide +kernel) ⟨Nat.le_of_ble_eq_true rfl, Nat.le_of_ble_eq_true rfl⟩) hK hw Ew_mo rfl rfl hl.1 rfl (by simp [Value.category, va_rf]) dX6_shift_10 ⟨Nat.le_of_ble_eq_true rfl, Nat.le_of_ble_eq_true rfl⟩) hS (fun H locs hw hS => ?_)
          refine f_top (y := 1) (is_ok hj hI.nb2) ?_
          refine lv_if_eq (tgt := 32) hx hb dX6_shift_13 (by decide) (fun c13 => absurd c13 (by decide)) (fun c13 => ?_)
          refine f_iload_n hx hb dX6_shift_16 hl 1 rfl rfl ?_
          refine f_iload_n hx hb dX6_shift_17 hl 2 rfl rfl ?_
          refine lv_icmp_eq (tgt := 32) hx hb dX6_shift_18 (by decide) (fun c18 => absurd c18 (fun q => hij ((nI_eq (by omega) (by omega)).mp q))) (fun c18 => ?_)
          refine f_iload_n hx hb dX6_shift_21 hl 3 rfl rfl ?_
          refine lv_iconst (v := 1) hx hb dX6_shift_22 (by decide) ?_
          refine lv_icmp_lt (tgt := 32) hx hb dX6_shift_23 (by decide) (fun c23 => ?_) (fun c23 => absurd h1 c23)
          refine lv_bipush (v := (-2)) hx hb dX6_shift_32 (by decide) ?_
          exact q_ism hx hb hr hlk hK hw hS dX6_shift_34 (by rw [sp_shift, hix, hiy]; dsimp only [Option.elim]; exact (Eq.trans (if_neg hij) (if_pos h1)))
        · by_cases h2 : 30 < n
          · refine f_aload_n hx hb dX6_shift_0 hl 0 rfl rfl ?_
            refine f_iload_n hx hb dX6_shift_1 hl 1 rfl rfl ?_
            refine q_ci (q_runV (C := RX6) (T := TX6) (N := 22) ⟨hx, hb, hml, hown, hts⟩ (c_X6_isBerth l hI (nI i)) (cwV 1 hts gX6_shift_X6_isBerth rfl rfl rfl (by decide +kernel) ⟨Nat.le_of_ble_eq_true rfl, Nat.le_of_ble_eq_true rfl⟩) hK hw Ew_mo rfl rfl hl.1 rfl (by simp [Value.category, va_rf]) dX6_shift_2 ⟨Nat.le_of_ble_eq_true rfl, Nat.le_of_ble_eq_true rfl⟩) hS (fun H locs hw hS => ?_)
            refine f_top (y := 1) (is_ok hi hI.nb2) ?_
            refine lv_if_eq (tgt := 32) hx hb dX6_shift_5 (by decide) (fun c5 => absurd c5 (by decide)) (fun c5 => ?_)
            refine f_aload_n hx hb dX6_shift_8 hl 0 rfl rfl ?_
            refine f_iload_n hx hb dX6_shift_9 hl 2 rfl rfl ?_
            refine q_ci (q_runV (C := RX6) (T := TX6) (N := 22) ⟨hx, hb, hml, hown, hts⟩ (c_X6_isBerth l hI (nI j)) (cwV 1 hts gX6_shift_X6_isBerth rfl rfl rfl (by decide +kernel) ⟨Nat.le_of_ble_eq_true rfl, Nat.le_of_ble_eq_true rfl⟩) hK hw Ew_mo rfl rfl hl.1 rfl (by simp [Value.category, va_rf]) dX6_shift_10 ⟨Nat.le_of_ble_eq_true rfl, Nat.le_of_ble_eq_true rfl⟩) hS (fun H locs hw hS => ?_)
            refine f_top (y := 1) (is_ok hj hI.nb2) ?_
            refine lv_if_eq (tgt := 32) hx hb dX6_shift_13 (by decide) (fun c13 => absurd c13 (by decide)) (fun c13 => ?_)
            refine f_iload_n hx hb dX6_shift_16 hl 1 rfl rfl ?_
            refine f_iload_n hx hb dX6_shift_17 hl 2 rfl rfl ?_
            refine lv_icmp_eq (tgt := 32) hx hb dX6_shift_18 (by decide) (fun c18 => absurd c18 (fun q => hij ((nI_eq (by omega) (by omega)).mp q))) (fun c18 => ?_)
            refine f_iload_n hx hb dX6_shift_21 hl 3 rfl rfl ?_
            refine lv_iconst (v := 1) hx hb dX6_shift_22 (by decide) ?_
            refine lv_icmp_lt (tgt := 32) hx hb dX6_shift_23 (by decide) (fun c23 => absurd c23 h1) (fun c23 => ?_)
            refine f_iload_n hx hb dX6_shift_26 hl 3 rfl rfl ?_
            refine lv_bipush (v := 30) hx hb dX6_shift_27 (by decide) ?_
            refine lv_icmp_le (tgt := 35) hx hb dX6_shift_29 (by decide) (fun c29 => absurd c29 (Int32.not_le.mpr h2)) (fun c29 => ?_)
            refine lv_bipush (v := (-2)) hx hb dX6_shift_32 (by decide) ?_
            exact q_ism hx hb hr hlk hK hw hS dX6_shift_34 (by rw [sp_shift, hix, hiy]; dsimp only [Option.elim]; exact (Eq.trans (if_neg hij) (Eq.trans (if_neg h1) (if_pos h2))))
          · obtain ⟨N, hN, rfl⟩ := rng_of (M := 30) (m := 30) (by decide) h1 h2
            rcases hI.gate hi with hG | ⟨g, hg, hG, hGt⟩
            · refine f_aload_n hx hb dX6_shift_0 hl 0 rfl rfl ?_
              refine f_iload_n hx hb dX6_shift_1 hl 1 rfl rfl ?_
              refine q_ci (q_runV (C := RX6) (T := TX6) (N := 22) ⟨hx, hb, hml, hown, hts⟩ (c_X6_isBerth l hI (nI i)) (cwV 1 hts gX6_shift_X6_isBerth rfl rfl rfl (by decide +kernel) ⟨Nat.le_of_ble_eq_true rfl, Nat.le_of_ble_eq_true rfl⟩) hK hw Ew_mo rfl rfl hl.1 rfl (by simp [Value.category, va_rf]) dX6_shift_2 ⟨Nat.le_of_ble_eq_true rfl, Nat.le_of_ble_eq_true rfl⟩) hS (fun H locs hw hS => ?_)
              refine f_top (y := 1) (is_ok hi hI.nb2) ?_
              refine lv_if_eq (tgt := 32) hx hb dX6_shift_5 (by decide) (fun c5 => absurd c5 (by decide)) (fun c5 => ?_)
              refine f_aload_n hx hb dX6_shift_8 hl 0 rfl rfl ?_
              refine f_iload_n hx hb dX6_shift_9 hl 2 rfl rfl ?_
              refine q_ci (q_runV (C := RX6) (T := TX6) (N := 22) ⟨hx, hb, hml, hown, hts⟩ (c_X6_isBerth l hI (nI j)) (cwV 1 hts gX6_shift_X6_isBerth rfl rfl rfl (by decide +kernel) ⟨Nat.le_of_ble_eq_true rfl, Nat.le_of_ble_eq_true rfl⟩) hK hw Ew_mo rfl rfl hl.1 rfl (by simp [Value.category, va_rf]) dX6_shift_10 ⟨Nat.le_of_ble_eq_true rfl, Nat.le_of_ble_eq_true rfl⟩) hS (fun H locs hw hS => ?_)
              refine f_top (y := 1) (is_ok hj hI.nb2) ?_
              refine lv_if_eq (tgt := 32) hx hb dX6_shift_13 (by decide) (fun c13 => absurd c13 (by decide)) (fun c13 => ?_)
              refine f_iload_n hx hb dX6_shift_16 hl 1 rfl rfl ?_
              refine f_iload_n hx hb dX6_shift_17 hl 2 rfl rfl ?_
              refine lv_icmp_eq (tgt := 32) hx hb dX6_shift_18 (by decide) (fun c18 => absurd c18 (fun q => hij ((nI_eq (by omega) (by omega)).mp q))) (fun c18 => ?_)
              refine f_iload_n hx hb dX6_shift_21 hl 3 rfl rfl ?_
              refine lv_iconst (v := 1) hx hb dX6_shift_22 (by decide) ?_
              refine lv_icmp_lt (tgt := 32) hx hb dX6_shift_23 (by decide) (fun c23 => absurd c23 h1) (fun c23 => ?_)
              refine f_iload_n hx hb dX6_shift_26 hl 3 rfl rfl ?_
              refine lv_bipush (v := 30) hx hb dX6_shift_27 (by decide) ?_
              refine lv_icmp_le (tgt := 35) hx hb dX6_shift_29 (by decide) (fun c29 => ?_) (fun c29 => absurd (Int32.not_lt.mp h2) c29)
              refine f_aload_n hx hb dX6_shift_35 hl 0 rfl rfl ?_
              refine e_get (C := RX6) (T := TX6) (N := 22) hx hb hts i6 hown hK hw Ew_mo rfl 13 (by decide) (hts (.fieldLink RX6 29 "FerryQuayModel" "gateOf" "[I") (by decide +kernel)) rfl dX6_shift_36 ?_
              refine f_iload_n hx hb dX6_shift_39 hl 1 rfl rfl ?_
              refine e_ialdN hx hb hK hw 0 Ew_m7 rfl rfl (by omega) (by decide) dX6_shift_40 ?_
              refine f_istore hx hb dX6_shift_41 hl (by decide) (fun ls hl => ?_)
              refine f_iload hx hb dX6_shift_43 hl rfl ?_
              refine lv_iconst (v := (-1)) hx hb dX6_shift_45 (by decide) ?_
              refine lv_icmp_ne (tgt := 52) hx hb dX6_shift_46 (by decide) (fun c46 => absurd hG c46) (fun c46 => ?_)
              refine lv_bipush (v := (-4)) hx hb dX6_shift_49 (by decide) ?_
              exact q_ism hx hb hr hlk hK hw hS dX6_shift_51 (by rw [sp_shift, hix, hiy]; dsimp only [Option.elim]; exact (Eq.trans (if_neg hij) (Eq.trans (if_neg h1) (Eq.trans (if_neg h2) (if_pos hG)))))
            · refine f_aload_n hx hb dX6_shift_0 hl 0 rfl rfl ?_
              refine f_iload_n hx hb dX6_shift_1 hl 1 rfl rfl ?_
              refine q_ci (q_runV (C := RX6) (T := TX6) (N := 22) ⟨hx, hb, hml, hown, hts⟩ (c_X6_isBerth l hI (nI i)) (cwV 1 hts gX6_shift_X6_isBerth rfl rfl rfl (by decide +kernel) ⟨Nat.le_of_ble_eq_true rfl, Nat.le_of_ble_eq_true rfl⟩) hK hw Ew_mo rfl rfl hl.1 rfl (by simp [Value.category, va_rf]) dX6_shift_2 ⟨Nat.le_of_ble_eq_true rfl, Nat.le_of_ble_eq_true rfl⟩) hS (fun H locs hw hS => ?_)
              refine f_top (y := 1) (is_ok hi hI.nb2) ?_
              refine lv_if_eq (tgt := 32) hx hb dX6_shift_5 (by decide) (fun c5 => absurd c5 (by decide)) (fun c5 => ?_)
              refine f_aload_n hx hb dX6_shift_8 hl 0 rfl rfl ?_
              refine f_iload_n hx hb dX6_shift_9 hl 2 rfl rfl ?_
              refine q_ci (q_runV (C := RX6) (T := TX6) (N := 22) ⟨hx, hb, hml, hown, hts⟩ (c_X6_isBerth l hI (nI j)) (cwV 1 hts gX6_shift_X6_isBerth rfl rfl rfl (by decide +kernel) ⟨Nat.le_of_ble_eq_true rfl, Nat.le_of_ble_eq_true rfl⟩) hK hw Ew_mo rfl rfl hl.1 rfl (by simp [Value.category, va_rf]) dX6_shift_10 ⟨Nat.le_of_ble_eq_true rfl, Nat.le_of_ble_eq_true rfl⟩) hS (fun H locs hw hS => ?_)
              refine f_top (y := 1) (is_ok hj hI.nb2) ?_
              refine lv_if_eq (tgt := 32) hx hb dX6_shift_13 (by decide) (fun c13 => absurd c13 (by decide)) (fun c13 => ?_)
              refine f_iload_n hx hb dX6_shift_16 hl 1 rfl rfl ?_
              refine f_iload_n hx hb dX6_shift_17 hl 2 rfl rfl ?_
              refine lv_icmp_eq (tgt := 32) hx hb dX6_shift_18 (by decide) (fun c18 => absurd c18 (fun q => hij ((nI_eq (by omega) (by omega)).mp q))) (fun c18 => ?_)
              refine f_iload_n hx hb dX6_shift_21 hl 3 rfl rfl ?_
              refine lv_iconst (v := 1) hx hb dX6_shift_22 (by decide) ?_
              refine lv_icmp_lt (tgt := 32) hx hb dX6_shift_23 (by decide) (fun c23 => absurd c23 h1) (fun c23 => ?_)
              refine f_iload_n hx hb dX6_shift_26 hl 3 rfl rfl ?_
              refine lv_bipush (v := 30) hx hb dX6_shift_27 (by decide) ?_
              refine lv_icmp_le (tgt := 35) hx hb dX6_shift_29 (by decide) (fun c29 => ?_) (fun c29 => absurd (Int32.not_lt.mp h2) c29)
              refine f_aload_n hx hb dX6_shift_35 hl 0 rfl rfl ?_
              refine e_get (C := RX6) (T := TX6) (N := 22) hx hb hts i6 hown hK hw Ew_mo rfl 13 (by decide) (hts (.fieldLink RX6 29 "FerryQuayModel" "gateOf" "[I") (by decide +kernel)) rfl dX6_shift_36 ?_
              refine f_iload_n hx hb dX6_shift_39 hl 1 rfl rfl ?_
              refine e_ialdN hx hb hK hw 0 Ew_m7 rfl rfl (by omega) (by decide) dX6_shift_40 ?_
              refine f_top (y := nI g) hG ?_
              refine f_istore hx hb dX6_shift_41 hl (by decide) (fun ls hl => ?_)
              refine f_iload hx hb dX6_shift_43 hl rfl ?_
              refine lv_iconst (v := (-1)) hx hb dX6_shift_45 (by decide) ?_
              refine lv_icmp_ne (tgt := 52) hx hb dX6_shift_46 (by decide) (fun c46 => ?_) (fun c46 => absurd c46 (nI_m1 (by omega)))
              refine f_aload_n hx hb dX6_shift_52 hl 0 rfl rfl ?_
              refine e_get (C := RX6) (T := TX6) (N := 22) hx hb hts i6 hown hK hw Ew_mo rfl 8 (by decide) (hts (.fieldLink RX6 13 "FerryQuayModel" "gateTaken" "[I") (by decide +kernel)) rfl dX6_shift_53 ?_
              refine f_iload hx hb dX6_shift_56 hl rfl ?_
              refine lv_dup2_11 hx hb dX6_shift_58 rfl rfl ?_
              refine e_ialdN hx hb hK hw 0 Ew_m2 rfl rfl (by omega) (by decide) dX6_shift_59 ?_
              refine lv_iconst (v := 1) hx hb dX6_shift_60 (by decide) ?_
              refine lv_iadd hx hb dX6_shift_61 ?_
              refine e_iastN hx hb hK hw hS 0 Ew_m2 rfl rfl (by omega) (by decide) dX6_shift_62 (fun H locs hw hS => ?_)
              have hw := hw.cast Ep_m2
              refine f_aload_n hx hb dX6_shift_63 hl 0 rfl rfl ?_
              refine e_get (C := RX6) (T := TX6) (N := 22) hx hb hts i6 hown hK hw Ew_mo rfl 7 (by decide) (hts (.fieldLink RX6 7 "FerryQuayModel" "isShut" "[Z") (by decide +kernel)) rfl dX6_shift_64 ?_
              refine f_iload hx hb dX6_shift_67 hl rfl ?_
              refine e_zaldN hx hb hK hw 1 Ew_m1 rfl rfl (by omega) (by decide) dX6_shift_69 ?_
              refine lv_if_eq (tgt := 76) hx hb dX6_shift_70 (by decide) (fun c70 => ?_) (fun c70 => ?_)
              · rcases hI.gate hj with hE | ⟨h, hh, hE, hEt⟩
                · refine lv_iconst (v := 0) hx hb dX6_shift_76 (by decide) ?_
                  refine f_istore hx hb dX6_shift_77 hl (by decide) (fun ls hl => ?_)
                  have loop : ∀ (t : Nat) (w : Int32) (k : Nat) (zc : St) (H : Heap) (locs : List Loc) (ls : Array Slot), Inv zc ng nr nb → w = nI k → k + t = N → sc zc 7 j = -1 → sl i j g (nI N) t w zc = sp_shift nb u (nI i) (nI j) (nI N) → wo G lo (Ew Y ng nr nb z zc ad) ad H → va_S (fun q => lo ≤ q) s.heap H locs → lh ls 8 (fun i9 => ([(0, .ref (ad 0 4)), (1, .int (nI i)), (2, .int (nI j)), (3, .int (nI N)), (4, .int (nI g)), (5, .int (w))].find? (fun q => q.1 == i9)).map (fun q => q.2)) → W p l e (headSpec wsX6_shift ({ frames := 1, cells := 0, slots := 0, locals := 23 })).room s m ([.ref (ad 0 4), .int (nI i), .int (nI j), .int (nI N)] : List Value).toArray below meth c H locs 0 0 (MQ below (QI G (tysY Y) lo (sp_shift nb u (nI i) (nI j) (nI N)).1 (Ew Y ng nr nb z (sp_shift nb u (nI i) (nI j) (nI N)).2 ad) ad) ([.ref (ad 0 4), .int (nI i), .int (nI j), .int (nI N)] : List Value).toArray s 0 0 (fun q => lo ≤ q)) (F0 m 79 ls []) := by
                    intro t
                    induction t with
                    | zero =>
                      intro w k zc H locs ls hI hwk hkt hE hsp hw hS hl
                      obtain ⟨hL, hLn⟩ := hI.lane hj
                      obtain ⟨hM, hMn⟩ := hI.lane hi
                      refine f_iload hx hb dX6_shift_79 hl rfl ?_
                      refine f_iload_n hx hb dX6_shift_81 hl 3 rfl rfl ?_
                      refine lv_icmp_ge (tgt := 188) hx hb dX6_shift_82 (by decide) (fun c82 => ?_) (fun c82 => absurd (by rw [hwk]; exact nI_le (by omega) (by omega)) c82)
                      refine f_iload_n hx hb dX6_shift_188 hl 3 rfl rfl ?_
                      exact q_ism hx hb hr hlk hK hw hS dX6_shift_189 hsp.symm
                    | succ t ih =>
                      intro w k zc H locs ls hI hwk hkt hE hsp hw hS hl
                      obtain ⟨hL, hLn⟩ := hI.lane hj
                      obtain ⟨hM, hMn⟩ := hI.lane hi
                      refine f_iload hx hb dX6_shift_79 hl rfl ?_
                      refine f_iload_n hx hb dX6_shift_81 hl 3 rfl rfl ?_
                      refine lv_icmp_ge (tgt := 188) hx hb dX6_shift_82 (by decide) (fun c82 => absurd c82 (by rw [hwk]; exact nI_ge (by omega) (by omega))) (fun c82 => ?_)
                      refine f_aload_n hx hb dX6_shift_85 hl 0 rfl rfl ?_
                      refine e_get (C := RX6) (T := TX6) (N := 22) hx hb hts i6 hown hK hw Ew_mo rfl 13 (by decide) (hts (.fieldLink RX6 29 "FerryQuayModel" "gateOf" "[I") (by decide +kernel)) rfl dX6_shift_86 ?_
                      refine f_iload_n hx hb dX6_shift_89 hl 2 rfl rfl ?_
                      refine e_ialdN hx hb hK hw 0 Ew_m7 rfl rfl (by omega) (by decide) dX6_shift_90 ?_
                      refine f_istore hx hb dX6_shift_91 hl (by decide) (fun ls hl => ?_)
                      refine f_iload hx hb dX6_shift_93 hl rfl ?_
                      refine lv_iconst (v := (-1)) hx hb dX6_shift_95 (by decide) ?_
                      refine lv_icmp_ne (tgt := 102) hx hb dX6_shift_96 (by decide) (fun c96 => absurd hE c96) (fun c96 => ?_)
                      refine lv_bipush (v := (-4)) hx hb dX6_shift_99 (by decide) ?_
                      exact q_ism hx hb hr hlk hK hw hS dX6_shift_101 (hsp.symm.trans (by rw [sl]; exact (if_pos hE)))
                  exact loop N 0 0 (inc u 2 g) _ _ _ (hI.p2 hg) rfl (by omega) hE (Eq.symm (by rw [sp_shift, hix, hiy]; dsimp only [Option.elim]; rw [hGt, show tn (nI N) = N from nI_clamp (by omega)]; exact (Eq.trans (if_neg hij) (Eq.trans (if_neg h1) (Eq.trans (if_neg h2) (Eq.trans (if_neg (notm1 hG (by omega))) (if_pos c70))))))) hw hS (hl.list [(0, .ref (ad 0 4)), (1, .int (nI i)), (2, .int (nI j)), (3, .int (nI N)), (4, .int (nI g)), (5, .int (0))] (List.forall_mem_cons.mpr ⟨rfl, List.forall_mem_cons.mpr ⟨rfl, List.forall_mem_cons.mpr ⟨rfl, List.forall_mem_cons.mpr ⟨rfl, List.forall_mem_cons.mpr ⟨rfl, List.forall_mem_cons.mpr ⟨rfl, fun _ h => absurd h List.not_mem_nil⟩⟩⟩⟩⟩⟩))
                · refine lv_iconst (v := 0) hx hb dX6_shift_76 (by decide) ?_
                  refine f_istore hx hb dX6_shift_77 hl (by decide) (fun ls hl => ?_)
                  have loop : ∀ (t : Nat) (w : Int32) (k : Nat) (zc : St) (H : Heap) (locs : List Loc) (ls : Array Slot), Inv zc ng nr nb → w = nI k → k + t = N → sc zc 7 j = nI h → sl i j g (nI N) t w zc = sp_shift nb u (nI i) (nI j) (nI N) → wo G lo (Ew Y ng nr nb z zc ad) ad H → va_S (fun q => lo ≤ q) s.heap H locs → lh ls 8 (fun i9 => ([(0, .ref (ad 0 4)), (1, .int (nI i)), (2, .int (nI j)), (3, .int (nI N)), (4, .int (nI g)), (5, .int (w))].find? (fun q => q.1 == i9)).map (fun q => q.2)) → W p l e (headSpec wsX6_shift ({ frames := 1, cells := 0, slots := 0, locals := 23 })).room s m ([.ref (ad 0 4), .int (nI i), .int (nI j), .int (nI N)] : List Value).toArray below meth c H locs 0 0 (MQ below (QI G (tysY Y) lo (sp_shift nb u (nI i) (nI j) (nI N)).1 (Ew Y ng nr nb z (sp_shift nb u (nI i) (nI j) (nI N)).2 ad) ad) ([.ref (ad 0 4), .int (nI i), .int (nI j), .int (nI N)] : List Value).toArray s 0 0 (fun q => lo ≤ q)) (F0 m 79 ls []) := by
                    intro t
                    induction t with
                    | zero =>
                      intro w k zc H locs ls hI hwk hkt hE hsp hw hS hl
                      obtain ⟨hL, hLn⟩ := hI.lane hj
                      obtain ⟨hM, hMn⟩ := hI.lane hi
                      have hEt : tn (sc zc 7 j) = h := by rw [hE]; exact nI_clamp (by omega)
                      have lj : ln (goes (inc zc 2 h) i) j = ln zc j := congrArg tn (show sc (us (inc zc 2 h) 10 i (nI (ln (inc zc 2 h) i - 1))) 10 j = _ from sc_i (fun q => hij q.symm))
                      refine f_iload hx hb dX6_shift_79 hl rfl ?_
                      refine f_iload_n hx hb dX6_shift_81 hl 3 rfl rfl ?_
                      refine lv_icmp_ge (tgt := 188) hx hb dX6_shift_82 (by decide) (fun c82 => ?_) (fun c82 => absurd (by rw [hwk]; exact nI_le (by omega) (by omega)) c82)
                      refine f_iload_n hx hb dX6_shift_188 hl 3 rfl rfl ?_
                      exact q_ism hx hb hr hlk hK hw hS dX6_shift_189 hsp.symm
                    | succ t ih =>
                      intro w k zc H locs ls hI hwk hkt hE hsp hw hS hl
                      obtain ⟨hL, hLn⟩ := hI.lane hj
                      obtain ⟨hM, hMn⟩ := hI.lane hi
                      have hEt : tn (sc zc 7 j) = h := by rw [hE]; exact nI_clamp (by omega)
                      have lj : ln (goes (inc zc 2 h) i) j = ln zc j := congrArg tn (show sc (us (inc zc 2 h) 10 i (nI (ln (inc zc 2 h) i - 1))) 10 j = _ from sc_i (fun q => hij q.symm))
                      refine f_iload hx hb dX6_shift_79 hl rfl ?_
                      refine f_iload_n hx hb dX6_shift_81 hl 3 rfl rfl ?_
                      refine lv_icmp_ge (tgt := 188) hx hb dX6_shift_82 (by decide) (fun c82 => absurd c82 (by rw [hwk]; exact nI_ge (by omega) (by omega))) (fun c82 => ?_)
                      refine f_aload_n hx hb dX6_shift_85 hl 0 rfl rfl ?_
                      refine e_get (C := RX6) (T := TX6) (N := 22) hx hb hts i6 hown hK hw Ew_mo rfl 13 (by decide) (hts (.fieldLink RX6 29 "FerryQuayModel" "gateOf" "[I") (by decide +kernel)) rfl dX6_shift_86 ?_
                      refine f_iload_n hx hb dX6_shift_89 hl 2 rfl rfl ?_
                      refine e_ialdN hx hb hK hw 0 Ew_m7 rfl rfl (by omega) (by decide) dX6_shift_90 ?_
                      refine f_top (y := nI h) hE ?_
                      refine f_istore hx hb dX6_shift_91 hl (by decide) (fun ls hl => ?_)
                      refine f_iload hx hb dX6_shift_93 hl rfl ?_
                      refine lv_iconst (v := (-1)) hx hb dX6_shift_95 (by decide) ?_
                      refine lv_icmp_ne (tgt := 102) hx hb dX6_shift_96 (by decide) (fun c96 => ?_) (fun c96 => absurd c96 (nI_m1 (by omega)))
                      refine f_aload_n hx hb dX6_shift_102 hl 0 rfl rfl ?_
                      refine e_get (C := RX6) (T := TX6) (N := 22) hx hb hts i6 hown hK hw Ew_mo rfl 8 (by decide) (hts (.fieldLink RX6 13 "FerryQuayModel" "gateTaken" "[I") (by decide +kernel)) rfl dX6_shift_103 ?_
                      refine f_iload hx hb dX6_shift_106 hl rfl ?_
                      refine lv_dup2_11 hx hb dX6_shift_108 rfl rfl ?_
                      refine e_ialdN hx hb hK hw 0 Ew_m2 rfl rfl (by omega) (by decide) dX6_shift_109 ?_
                      refine lv_iconst (v := 1) hx hb dX6_shift_110 (by decide) ?_
                      refine lv_iadd hx hb dX6_shift_111 ?_
                      refine e_iastN hx hb hK hw hS 0 Ew_m2 rfl rfl (by omega) (by decide) dX6_shift_112 (fun H locs hw hS => ?_)
                      have hw := hw.cast Ep_m2
                      refine f_aload_n hx hb dX6_shift_113 hl 0 rfl rfl ?_
                      refine e_get (C := RX6) (T := TX6) (N := 22) hx hb hts i6 hown hK hw Ew_mo rfl 7 (by decide) (hts (.fieldLink RX6 7 "FerryQuayModel" "isShut" "[Z") (by decide +kernel)) rfl dX6_shift_114 ?_
                      refine f_iload hx hb dX6_shift_117 hl rfl ?_
                      refine e_zaldN hx hb hK hw 1 Ew_m1 rfl rfl (by omega) (by decide) dX6_shift_119 ?_
                      refine lv_if_ne (tgt := 143) hx hb dX6_shift_120 (by decide) (fun c120 => ?_) (fun c120 => ?_)
                      · refine f_iload hx hb dX6_shift_143 hl rfl ?_
                        exact q_ism hx hb hr hlk hK hw hS dX6_shift_145 (hsp.symm.trans (by rw [sl, hEt]; exact (Eq.trans (if_neg (notm1 hE (by omega))) (if_neg c120))))
                      · refine f_aload_n hx hb dX6_shift_123 hl 0 rfl rfl ?_
                        refine e_get (C := RX6) (T := TX6) (N := 22) hx hb hts i6 hown hK hw Ew_mo rfl 16 (by decide) (hts (.fieldLink RX6 38 "FerryQuayModel" "waits" "[I") (by decide +kernel)) rfl dX6_shift_124 ?_
                        refine f_iload_n hx hb dX6_shift_127 hl 2 rfl rfl ?_
                        refine e_ialdN hx hb hK hw 0 Ew_m10 rfl rfl (by omega) (by decide) dX6_shift_128 ?_
                        refine f_top (y := nI (ln zc j)) hLn ?_
                        by_cases hq : ln zc j = 30
                        · refine lv_bipush (v := 30) hx hb dX6_shift_129 (by decide) ?_
                          refine lv_icmp_eq (tgt := 143) hx hb dX6_shift_131 (by decide) (fun c131 => ?_) (fun c131 => absurd (by rw [hq]; rfl) c131)
                          refine f_iload hx hb dX6_shift_143 hl rfl ?_
                          exact q_ism hx hb hr hlk hK hw hS dX6_shift_145 (hsp.symm.trans (by rw [sl, hEt]; exact (Eq.trans (if_neg (notm1 hE (by omega))) (Eq.trans (if_pos c120) (if_pos hq)))))
                        · refine lv_bipush (v := 30) hx hb dX6_shift_129 (by decide) ?_
                          refine lv_icmp_eq (tgt := 143) hx hb dX6_shift_131 (by decide) (fun c131 => absurd c131 (fun q => hq ((nI_eq (b := 30) (by omega) (by decide)).mp q))) (fun c131 => ?_)
                          refine f_aload_n hx hb dX6_shift_134 hl 0 rfl rfl ?_
                          refine e_get (C := RX6) (T := TX6) (N := 22) hx hb hts i6 hown hK hw Ew_mo rfl 16 (by decide) (hts (.fieldLink RX6 38 "FerryQuayModel" "waits" "[I") (by decide +kernel)) rfl dX6_shift_135 ?_
                          refine f_iload_n hx hb dX6_shift_138 hl 1 rfl rfl ?_
                          refine e_ialdN hx hb hK hw 0 Ew_m10 rfl rfl (by omega) (by decide) dX6_shift_139 ?_
                          refine f_top (y := nI (ln zc i)) hMn ?_
                          by_cases he : ln zc i = 0
                          · refine lv_if_ne (tgt := 146) hx hb dX6_shift_140 (by decide) (fun c140 => absurd (by rw [he]; rfl) c140) (fun c140 => ?_)
                            refine f_iload hx hb dX6_shift_143 hl rfl ?_
                            exact q_ism hx hb hr hlk hK hw hS dX6_shift_145 (hsp.symm.trans (by rw [sl, hEt]; exact (Eq.trans (if_neg (notm1 hE (by omega))) (Eq.trans (if_pos c120) (Eq.trans (if_neg hq) (if_pos he))))))
                          · refine lv_if_ne (tgt := 146) hx hb dX6_shift_140 (by decide) (fun c140 => ?_) (fun c140 => absurd c140 (nI_ne0 (by omega) (by omega)))
                            refine f_aload_n hx hb dX6_shift_146 hl 0 rfl rfl ?_
                            refine f_iload_n hx hb dX6_shift_147 hl 1 rfl rfl ?_
                            refine q_ci (q_runV (C := RX6) (T := TX6) (N := 22) ⟨hx, hb, hml, hown, hts⟩ (c_X6_goes l (u := inc zc 2 h) (hI.p2 hh) hi (by show 0 < ln zc i; omega)) (cwV 1 hts gX6_shift_X6_goes rfl rfl rfl (by decide +kernel) ⟨Nat.le_of_ble_eq_true rfl, Nat.le_of_ble_eq_true rfl⟩) hK hw Ew_mo rfl rfl hl.1 rfl (by simp [Value.category, va_rf]) dX6_shift_148 ⟨Nat.le_of_ble_eq_true rfl, Nat.le_of_ble_eq_true rfl⟩) hS (fun H locs hw hS => ?_)
                            refine f_top (y := zc 11 i 0) rfl ?_
                            refine f_istore hx hb dX6_shift_151 hl (by decide) (fun ls hl => ?_)
                            refine f_aload_n hx hb dX6_shift_153 hl 0 rfl rfl ?_
                            refine f_iload_n hx hb dX6_shift_154 hl 2 rfl rfl ?_
                            refine f_iload hx hb dX6_shift_155 hl rfl ?_
                            refine q_cv (q_runV (C := RX6) (T := TX6) (N := 22) ⟨hx, hb, hml, hown, hts⟩ (c_X6_comes l (u := goes (inc zc 2 h) i) ((hI.p2 hh).gs hi) hj (zc 11 i 0) (by rw [lj]; omega)) (cwV 2 hts gX6_shift_X6_comes rfl rfl rfl (by decide +kernel) ⟨Nat.le_of_ble_eq_true rfl, Nat.le_of_ble_eq_true rfl⟩) hK hw Ew_mo rfl rfl hl.1 rfl (by simp [Value.category, va_rf]) dX6_shift_157 ⟨Nat.le_of_ble_eq_true rfl, Nat.le_of_ble_eq_true rfl⟩) hS (fun H locs hw hS => ?_)
                            refine f_aload_n hx hb dX6_shift_160 hl 0 rfl rfl ?_
                            refine e_get (C := RX6) (T := TX6) (N := 22) hx hb hts i6 hown hK hw Ew_mo rfl 9 (by decide) (hts (.fieldLink RX6 17 "FerryQuayModel" "passed" "[I") (by decide +kernel)) rfl dX6_shift_161 ?_
                            refine f_iload hx hb dX6_shift_164 hl rfl ?_
                            refine lv_dup2_11 hx hb dX6_shift_166 rfl rfl ?_
                            refine e_ialdN hx hb hK hw 0 Ew_m3 rfl rfl (by omega) (by decide) dX6_shift_167 ?_
                            refine lv_iconst (v := 1) hx hb dX6_shift_168 (by decide) ?_
                            refine lv_iadd hx hb dX6_shift_169 ?_
                            refine e_iastN hx hb hK hw hS 0 Ew_m3 rfl rfl (by omega) (by decide) dX6_shift_170 (fun H locs hw hS => ?_)
                            have hw := hw.cast Ep_m3
                            refine f_aload_n hx hb dX6_shift_171 hl 0 rfl rfl ?_
                            refine e_get (C := RX6) (T := TX6) (N := 22) hx hb hts i6 hown hK hw Ew_mo rfl 9 (by decide) (hts (.fieldLink RX6 17 "FerryQuayModel" "passed" "[I") (by decide +kernel)) rfl dX6_shift_172 ?_
                            refine f_iload hx hb dX6_shift_175 hl rfl ?_
                            refine lv_dup2_11 hx hb dX6_shift_177 rfl rfl ?_
                            refine e_ialdN hx hb hK hw 0 Ew_m3 rfl rfl (by omega) (by decide) dX6_shift_178 ?_
                            refine lv_iconst (v := 1) hx hb dX6_shift_179 (by decide) ?_
                            refine lv_iadd hx hb dX6_shift_180 ?_
                            refine e_iastN hx hb hK hw hS 0 Ew_m3 rfl rfl (by omega) (by decide) dX6_shift_181 (fun H locs hw hS => ?_)
                            have hw := hw.cast Ep_m3
                            refine f_iinc (d := 1) hx hb dX6_shift_182 hl rfl (by decide) (by decide) (fun ls hl => ?_)
                            refine lv_goto (tgt := 79) hx hb dX6_shift_185 (by decide) ?_
                            exact ih (w + 1) (k + 1) _ _ _ _ ((((((hI.p2 hh).gs hi).cm hj (by show ln (goes (inc zc 2 h) i) j < 30; rw [lj]; omega)).p3 hg).p3 hh)) (by rw [hwk]; exact nI_1 k) (by omega) hE (Eq.trans (Eq.symm (by rw [sl, hEt]; exact (Eq.trans (if_neg (notm1 hE (by omega))) (Eq.trans (if_pos c120) (Eq.trans (if_neg hq) (if_neg he)))))) hsp) hw hS (hl.list [(0, .ref (ad 0 4)), (1, .int (nI i)), (2, .int (nI j)), (3, .int (nI N)), (4, .int (nI g)), (5, .int (w + 1))] (List.forall_mem_cons.mpr ⟨rfl, List.forall_mem_cons.mpr ⟨rfl, List.forall_mem_cons.mpr ⟨rfl, List.forall_mem_cons.mpr ⟨rfl, List.forall_mem_cons.mpr ⟨rfl, List.forall_mem_cons.mpr ⟨rfl, fun _ h => absurd h List.not_mem_nil⟩⟩⟩⟩⟩⟩))
                  exact loop N 0 0 (inc u 2 g) _ _ _ (hI.p2 hg) rfl (by omega) hE (Eq.symm (by rw [sp_shift, hix, hiy]; dsimp only [Option.elim]; rw [hGt, show tn (nI N) = N from nI_clamp (by omega)]; exact (Eq.trans (if_neg hij) (Eq.trans (if_neg h1) (Eq.trans (if_neg h2) (Eq.trans (if_neg (notm1 hG (by omega))) (if_pos c70))))))) hw hS (hl.list [(0, .ref (ad 0 4)), (1, .int (nI i)), (2, .int (nI j)), (3, .int (nI N)), (4, .int (nI g)), (5, .int (0))] (List.forall_mem_cons.mpr ⟨rfl, List.forall_mem_cons.mpr ⟨rfl, List.forall_mem_cons.mpr ⟨rfl, List.forall_mem_cons.mpr ⟨rfl, List.forall_mem_cons.mpr ⟨rfl, List.forall_mem_cons.mpr ⟨rfl, fun _ h => absurd h List.not_mem_nil⟩⟩⟩⟩⟩⟩))
              · refine lv_bipush (v := (-5)) hx hb dX6_shift_73 (by decide) ?_
                exact q_ism hx hb hr hlk hK hw hS dX6_shift_75 (by rw [sp_shift, hix, hiy]; dsimp only [Option.elim]; rw [hGt]; exact (Eq.trans (if_neg hij) (Eq.trans (if_neg h1) (Eq.trans (if_neg h2) (Eq.trans (if_neg (notm1 hG (by omega))) (if_neg c70))))))
set_option maxHeartbeats 4000000 in
set_option maxRecDepth 100000 in
theorem c_X6_round (l : Launch) {G : va_G} {Y : YT} {lo : Nat} {ad : Nat → Nat → Nat} {ng nr nb : Nat} {z u : St} (hI : Inv u ng nr nb) (x n : Int32) : Met l yX6_round wsX6_round ({ frames := 1, cells := 0, slots := 0, locals := 21 }) (va_Pc [.ref (ad 0 4), .int x, .int n] (cS G (tysY Y) lo (Ew Y ng nr nb z u ad) ad)) (QI G (tysY Y) lo (sp_round nb u x n).1 (Ew Y ng nr nb z (sp_round nb u x n).2 ad) ad) 0 0 (fun q => lo ≤ q) := by
  refine met_of (cc := cX6_round) (maxL := 6) (ret := (some .int)) (by decide) rfl (Nat.le_of_ble_eq_true rfl) rfl ?_
  intro p e s m below meth c ls hx hb hr hlk hml hts hown hnm hw hK hl hS
  have i6 : ∀ w ∈ wsX60, w ∈ wsX6_round := by decide +kernel
  have hng := hI.mg
  have hnr := hI.mr
  have hnb := hI.mb
  rcases ix_cases x hI.nb2 with ⟨hix, hbad⟩ | ⟨j, hj, rfl, hix⟩
  · refine f_aload_n hx hb dX6_round_0 hl 0 rfl rfl ?_
    refine f_iload_n hx hb dX6_round_1 hl 1 rfl rfl ?_
    refine q_ci (q_runV (C := RX6) (T := TX6) (N := 22) ⟨hx, hb, hml, hown, hts⟩ (c_X6_isBerth l hI x) (cwV 1 hts gX6_round_X6_isBerth rfl rfl rfl (by decide +kernel) ⟨Nat.le_of_ble_eq_true rfl, Nat.le_of_ble_eq_true rfl⟩) hK hw Ew_mo rfl rfl hl.1 rfl (by simp [Value.category, va_rf]) dX6_round_2 ⟨Nat.le_of_ble_eq_true rfl, Nat.le_of_ble_eq_true rfl⟩) hS (fun H locs hw hS => ?_)
    refine f_top (y := 0) (is_bad hbad) ?_
    refine lv_if_eq (tgt := 19) hx hb dX6_round_5 (by decide) (fun c5 => ?_) (fun c5 => absurd (by decide) c5)
    refine lv_bipush (v := (-2)) hx hb dX6_round_19 (by decide) ?_
    exact q_ism hx hb hr hlk hK hw hS dX6_round_21 (by rw [sp_round, hix]; exact rfl)
  · by_cases h1 : n < 1
    · refine f_aload_n hx hb dX6_round_0 hl 0 rfl rfl ?_
      refine f_iload_n hx hb dX6_round_1 hl 1 rfl rfl ?_
      refine q_ci (q_runV (C := RX6) (T := TX6) (N := 22) ⟨hx, hb, hml, hown, hts⟩ (c_X6_isBerth l hI (nI j)) (cwV 1 hts gX6_round_X6_isBerth rfl rfl rfl (by decide +kernel) ⟨Nat.le_of_ble_eq_true rfl, Nat.le_of_ble_eq_true rfl⟩) hK hw Ew_mo rfl rfl hl.1 rfl (by simp [Value.category, va_rf]) dX6_round_2 ⟨Nat.le_of_ble_eq_true rfl, Nat.le_of_ble_eq_true rfl⟩) hS (fun H locs hw hS => ?_)
      refine f_top (y := 1) (is_ok hj hI.nb2) ?_
      refine lv_if_eq (tgt := 19) hx hb dX6_round_5 (by decide) (fun c5 => absurd c5 (by decide)) (fun c5 => ?_)
      refine f_iload_n hx hb dX6_round_8 hl 2 rfl rfl ?_
      refine lv_iconst (v := 1) hx hb dX6_round_9 (by decide) ?_
      refine lv_icmp_lt (tgt := 19) hx hb dX6_round_10 (by decide) (fun c10 => ?_) (fun c10 => absurd h1 c10)
      refine lv_bipush (v := (-2)) hx hb dX6_round_19 (by decide) ?_
      exact q_ism hx hb hr hlk hK hw hS dX6_round_21 (by rw [sp_round, hix]; dsimp only [Option.elim]; exact (if_pos h1))
    · by_cases h2 : 8 < n
      · refine f_aload_n hx hb dX6_round_0 hl 0 rfl rfl ?_
        refine f_iload_n hx hb dX6_round_1 hl 1 rfl rfl ?_
        refine q_ci (q_runV (C := RX6) (T := TX6) (N := 22) ⟨hx, hb, hml, hown, hts⟩ (c_X6_isBerth l hI (nI j)) (cwV 1 hts gX6_round_X6_isBerth rfl rfl rfl (by decide +kernel) ⟨Nat.le_of_ble_eq_true rfl, Nat.le_of_ble_eq_true rfl⟩) hK hw Ew_mo rfl rfl hl.1 rfl (by simp [Value.category, va_rf]) dX6_round_2 ⟨Nat.le_of_ble_eq_true rfl, Nat.le_of_ble_eq_true rfl⟩) hS (fun H locs hw hS => ?_)
        refine f_top (y := 1) (is_ok hj hI.nb2) ?_
        refine lv_if_eq (tgt := 19) hx hb dX6_round_5 (by decide) (fun c5 => absurd c5 (by decide)) (fun c5 => ?_)
        refine f_iload_n hx hb dX6_round_8 hl 2 rfl rfl ?_
        refine lv_iconst (v := 1) hx hb dX6_round_9 (by decide) ?_
        refine lv_icmp_lt (tgt := 19) hx hb dX6_round_10 (by decide) (fun c10 => absurd c10 h1) (fun c10 => ?_)
        refine f_iload_n hx hb dX6_round_13 hl 2 rfl rfl ?_
        refine lv_bipush (v := 8) hx hb dX6_round_14 (by decide) ?_
        refine lv_icmp_le (tgt := 22) hx hb dX6_round_16 (by decide) (fun c16 => absurd c16 (Int32.not_le.mpr h2)) (fun c16 => ?_)
        refine lv_bipush (v := (-2)) hx hb dX6_round_19 (by decide) ?_
        exact q_ism hx hb hr hlk hK hw hS dX6_round_21 (by rw [sp_round, hix]; dsimp only [Option.elim]; exact (Eq.trans (if_neg h1) (if_pos h2)))
      · obtain ⟨N, hN, rfl⟩ := rng_of (M := 8) (m := 8) (by decide) h1 h2
        refine f_aload_n hx hb dX6_round_0 hl 0 rfl rfl ?_
        refine f_iload_n hx hb dX6_round_1 hl 1 rfl rfl ?_
        refine q_ci (q_runV (C := RX6) (T := TX6) (N := 22) ⟨hx, hb, hml, hown, hts⟩ (c_X6_isBerth l hI (nI j)) (cwV 1 hts gX6_round_X6_isBerth rfl rfl rfl (by decide +kernel) ⟨Nat.le_of_ble_eq_true rfl, Nat.le_of_ble_eq_true rfl⟩) hK hw Ew_mo rfl rfl hl.1 rfl (by simp [Value.category, va_rf]) dX6_round_2 ⟨Nat.le_of_ble_eq_true rfl, Nat.le_of_ble_eq_true rfl⟩) hS (fun H locs hw hS => ?_)
        refine f_top (y := 1) (is_ok hj hI.nb2) ?_
        refine lv_if_eq (tgt := 19) hx hb dX6_round_5 (by decide) (fun c5 => absurd c5 (by decide)) (fun c5 => ?_)
        refine f_iload_n hx hb dX6_round_8 hl 2 rfl rfl ?_
        refine lv_iconst (v := 1) hx hb dX6_round_9 (by decide) ?_
        refine lv_icmp_lt (tgt := 19) hx hb dX6_round_10 (by decide) (fun c10 => absurd c10 h1) (fun c10 => ?_)
        refine f_iload_n hx hb dX6_round_13 hl 2 rfl rfl ?_
        refine lv_bipush (v := 8) hx hb dX6_round_14 (by decide) ?_
        refine lv_icmp_le (tgt := 22) hx hb dX6_round_16 (by decide) (fun c16 => ?_) (fun c16 => absurd (Int32.not_lt.mp h2) c16)
        refine lv_iconst (v := 0) hx hb dX6_round_22 (by decide) ?_
        refine f_istore_n hx hb dX6_round_23 hl 3 rfl (by decide) (fun ls hl => ?_)
        refine f_iload_n hx hb dX6_round_24 hl 1 rfl rfl ?_
        refine f_istore hx hb dX6_round_25 hl (by decide) (fun ls hl => ?_)
        have loop : ∀ (t : Nat) (w : Int32) (k : Nat) (zc : St) (H : Heap) (locs : List Loc) (ls : Array Slot), Inv zc ng nr nb → k + t = N → rl nb t (j + k) w zc = sp_round nb u (nI j) (nI N) → wo G lo (Ew Y ng nr nb z zc ad) ad H → va_S (fun q => lo ≤ q) s.heap H locs → lh ls 6 (fun i9 => ([(0, .ref (ad 0 4)), (1, .int (nI j)), (2, .int (nI N)), (3, .int (w)), (4, .int (nI (j + k)))].find? (fun q => q.1 == i9)).map (fun q => q.2)) → W p l e (headSpec wsX6_round ({ frames := 1, cells := 0, slots := 0, locals := 21 })).room s m ([.ref (ad 0 4), .int (nI j), .int (nI N)] : List Value).toArray below meth c H locs 0 0 (MQ below (QI G (tysY Y) lo (sp_round nb u (nI j) (nI N)).1 (Ew Y ng nr nb z (sp_round nb u (nI j) (nI N)).2 ad) ad) ([.ref (ad 0 4), .int (nI j), .int (nI N)] : List Value).toArray s 0 0 (fun q => lo ≤ q)) (F0 m 27 ls []) := by
          intro t
          induction t with
          | zero =>
            intro w k zc H locs ls hI hkt hsp hw hS hl
            refine f_iload hx hb dX6_round_27 hl rfl ?_
            refine f_aload_n hx hb dX6_round_29 hl 0 rfl rfl ?_
            refine e_get (C := RX6) (T := TX6) (N := 22) hx hb hts i6 hown hK hw Ew_mo rfl 2 (by decide) (hts (.fieldLink RX6 63 "FerryQuayModel" "berths" "I") (by decide +kernel)) rfl dX6_round_30 ?_
            refine f_top hI.s2 ?_
            by_cases hk2 : nb ≤ j + k
            · refine lv_icmp_ge (tgt := 110) hx hb dX6_round_33 (by decide) (fun c33 => ?_) (fun c33 => absurd (nI_le hk2 (by omega)) c33)
              refine f_iload_n hx hb dX6_round_110 hl 3 rfl rfl ?_
              exact q_ism hx hb hr hlk hK hw hS dX6_round_111 hsp.symm
            · have hk3 : j + k < nb := by omega
              refine lv_icmp_ge (tgt := 110) hx hb dX6_round_33 (by decide) (fun c33 => absurd c33 (nI_ge hk3 (by omega))) (fun c33 => ?_)
              refine f_iload hx hb dX6_round_36 hl rfl ?_
              refine f_iload_n hx hb dX6_round_38 hl 1 rfl rfl ?_
              refine f_iload_n hx hb dX6_round_39 hl 2 rfl rfl ?_
              refine lv_iadd hx hb dX6_round_40 ?_
              refine f_top (nI_add j N) ?_
              refine lv_icmp_ge (tgt := 110) hx hb dX6_round_41 (by decide) (fun c41 => ?_) (fun c41 => absurd (nI_le (by omega) (by omega)) c41)
              refine f_iload_n hx hb dX6_round_110 hl 3 rfl rfl ?_
              exact q_ism hx hb hr hlk hK hw hS dX6_round_111 hsp.symm
          | succ t ih =>
            intro w k zc H locs ls hI hkt hsp hw hS hl
            refine f_iload hx hb dX6_round_27 hl rfl ?_
            refine f_aload_n hx hb dX6_round_29 hl 0 rfl rfl ?_
            refine e_get (C := RX6) (T := TX6) (N := 22) hx hb hts i6 hown hK hw Ew_mo rfl 2 (by decide) (hts (.fieldLink RX6 63 "FerryQuayModel" "berths" "I") (by decide +kernel)) rfl dX6_round_30 ?_
            refine f_top hI.s2 ?_
            by_cases hk2 : nb ≤ j + k
            · refine lv_icmp_ge (tgt := 110) hx hb dX6_round_33 (by decide) (fun c33 => ?_) (fun c33 => absurd (nI_le hk2 (by omega)) c33)
              refine f_iload_n hx hb dX6_round_110 hl 3 rfl rfl ?_
              exact q_ism hx hb hr hlk hK hw hS dX6_round_111 (hsp.symm.trans (by rw [rl]; exact (if_pos hk2)))
            · have hk3 : j + k < nb := by omega
              rcases hI.gate hk3 with hG | ⟨g, hg, hG, hGt⟩
              · refine lv_icmp_ge (tgt := 110) hx hb dX6_round_33 (by decide) (fun c33 => absurd c33 (nI_ge hk3 (by omega))) (fun c33 => ?_)
                refine f_iload hx hb dX6_round_36 hl rfl ?_
                refine f_iload_n hx hb dX6_round_38 hl 1 rfl rfl ?_
                refine f_iload_n hx hb dX6_round_39 hl 2 rfl rfl ?_
                refine lv_iadd hx hb dX6_round_40 ?_
                refine f_top (nI_add j N) ?_
                refine lv_icmp_ge (tgt := 110) hx hb dX6_round_41 (by decide) (fun c41 => absurd c41 (nI_ge (by omega) (by omega))) (fun c41 => ?_)
                refine f_aload_n hx hb dX6_round_44 hl 0 rfl rfl ?_
                refine e_get (C := RX6) (T := TX6) (N := 22) hx hb hts i6 hown hK hw Ew_mo rfl 13 (by decide) (hts (.fieldLink RX6 29 "FerryQuayModel" "gateOf" "[I") (by decide +kernel)) rfl dX6_round_45 ?_
                refine f_iload hx hb dX6_round_48 hl rfl ?_
                refine e_ialdN hx hb hK hw 0 Ew_m7 rfl rfl (by omega) (by decide) dX6_round_50 ?_
                refine f_istore hx hb dX6_round_51 hl (by decide) (fun ls hl => ?_)
                refine f_iload hx hb dX6_round_53 hl rfl ?_
                refine lv_iconst (v := (-1)) hx hb dX6_round_55 (by decide) ?_
                refine lv_icmp_ne (tgt := 61) hx hb dX6_round_56 (by decide) (fun c56 => absurd hG c56) (fun c56 => ?_)
                refine f_iload_n hx hb dX6_round_59 hl 3 rfl rfl ?_
                exact q_ism hx hb hr hlk hK hw hS dX6_round_60 (hsp.symm.trans (by rw [rl]; exact (Eq.trans (if_neg hk2) (if_pos hG))))
              · obtain ⟨f, hf, hF, hFt⟩ := hI.ferry hk3
                refine lv_icmp_ge (tgt := 110) hx hb dX6_round_33 (by decide) (fun c33 => absurd c33 (nI_ge hk3 (by omega))) (fun c33 => ?_)
                refine f_iload hx hb dX6_round_36 hl rfl ?_
                refine f_iload_n hx hb dX6_round_38 hl 1 rfl rfl ?_
                refine f_iload_n hx hb dX6_round_39 hl 2 rfl rfl ?_
                refine lv_iadd hx hb dX6_round_40 ?_
                refine f_top (nI_add j N) ?_
                refine lv_icmp_ge (tgt := 110) hx hb dX6_round_41 (by decide) (fun c41 => absurd c41 (nI_ge (by omega) (by omega))) (fun c41 => ?_)
                refine f_aload_n hx hb dX6_round_44 hl 0 rfl rfl ?_
                refine e_get (C := RX6) (T := TX6) (N := 22) hx hb hts i6 hown hK hw Ew_mo rfl 13 (by decide) (hts (.fieldLink RX6 29 "FerryQuayModel" "gateOf" "[I") (by decide +kernel)) rfl dX6_round_45 ?_
                refine f_iload hx hb dX6_round_48 hl rfl ?_
                refine e_ialdN hx hb hK hw 0 Ew_m7 rfl rfl (by omega) (by decide) dX6_round_50 ?_
                refine f_top (y := nI g) hG ?_
                refine f_istore hx hb dX6_round_51 hl (by decide) (fun ls hl => ?_)
                refine f_iload hx hb dX6_round_53 hl rfl ?_
                refine lv_iconst (v := (-1)) hx hb dX6_round_55 (by decide) ?_
                refine lv_icmp_ne (tgt := 61) hx hb dX6_round_56 (by decide) (fun c56 => ?_) (fun c56 => absurd c56 (nI_m1 (by omega)))
                refine f_aload_n hx hb dX6_round_61 hl 0 rfl rfl ?_
                refine e_get (C := RX6) (T := TX6) (N := 22) hx hb hts i6 hown hK hw Ew_mo rfl 8 (by decide) (hts (.fieldLink RX6 13 "FerryQuayModel" "gateTaken" "[I") (by decide +kernel)) rfl dX6_round_62 ?_
                refine f_iload hx hb dX6_round_65 hl rfl ?_
                refine lv_dup2_11 hx hb dX6_round_67 rfl rfl ?_
                refine e_ialdN hx hb hK hw 0 Ew_m2 rfl rfl (by omega) (by decide) dX6_round_68 ?_
                refine lv_iconst (v := 1) hx hb dX6_round_69 (by decide) ?_
                refine lv_iadd hx hb dX6_round_70 ?_
                refine e_iastN hx hb hK hw hS 0 Ew_m2 rfl rfl (by omega) (by decide) dX6_round_71 (fun H locs hw hS => ?_)
                have hw := hw.cast Ep_m2
                refine f_aload_n hx hb dX6_round_72 hl 0 rfl rfl ?_
                refine e_get (C := RX6) (T := TX6) (N := 22) hx hb hts i6 hown hK hw Ew_mo rfl 7 (by decide) (hts (.fieldLink RX6 7 "FerryQuayModel" "isShut" "[Z") (by decide +kernel)) rfl dX6_round_73 ?_
                refine f_iload hx hb dX6_round_76 hl rfl ?_
                refine e_zaldN hx hb hK hw 1 Ew_m1 rfl rfl (by omega) (by decide) dX6_round_78 ?_
                refine lv_if_eq (tgt := 89) hx hb dX6_round_79 (by decide) (fun c79 => ?_) (fun c79 => ?_)
                · refine f_iload_n hx hb dX6_round_89 hl 3 rfl rfl ?_
                  refine f_aload_n hx hb dX6_round_90 hl 0 rfl rfl ?_
                  refine e_get (C := RX6) (T := TX6) (N := 22) hx hb hts i6 hown hK hw Ew_mo rfl 19 (by decide) (hts (.fieldLink RX6 47 "FerryQuayModel" "load" "[I") (by decide +kernel)) rfl dX6_round_91 ?_
                  refine f_aload_n hx hb dX6_round_94 hl 0 rfl rfl ?_
                  refine e_get (C := RX6) (T := TX6) (N := 22) hx hb hts i6 hown hK hw Ew_mo rfl 15 (by decide) (hts (.fieldLink RX6 35 "FerryQuayModel" "ferryOf" "[I") (by decide +kernel)) rfl dX6_round_95 ?_
                  refine f_iload hx hb dX6_round_98 hl rfl ?_
                  refine e_ialdN hx hb hK hw 0 Ew_m9 rfl rfl (by omega) (by decide) dX6_round_100 ?_
                  refine f_top (y := nI f) hF ?_
                  refine e_ialdN hx hb hK hw 0 Ew_m13 rfl rfl (by omega) (by decide) dX6_round_101 ?_
                  refine lv_iadd hx hb dX6_round_102 ?_
                  refine f_istore_n hx hb dX6_round_103 hl 3 rfl (by decide) (fun ls hl => ?_)
                  refine f_iinc (d := 1) hx hb dX6_round_104 hl rfl (by decide) (by decide) (fun ls hl => ?_)
                  rw [nI_1] at hl
                  refine lv_goto (tgt := 27) hx hb dX6_round_107 (by decide) ?_
                  exact ih (w + sc zc 13 f) (k + 1) _ _ _ _ (hI.p2 hg) (by omega) (Eq.trans (Eq.symm (by rw [rl, hGt, hFt]; exact (Eq.trans (if_neg hk2) (Eq.trans (if_neg (notm1 hG (by omega))) (if_pos c79))))) hsp) hw hS (hl.list [(0, .ref (ad 0 4)), (1, .int (nI j)), (2, .int (nI N)), (3, .int (w + sc zc 13 f)), (4, .int (nI (j + k + 1)))] (List.forall_mem_cons.mpr ⟨rfl, List.forall_mem_cons.mpr ⟨rfl, List.forall_mem_cons.mpr ⟨rfl, List.forall_mem_cons.mpr ⟨rfl, List.forall_mem_cons.mpr ⟨rfl, fun _ h => absurd h List.not_mem_nil⟩⟩⟩⟩⟩))
                · refine f_aload_n hx hb dX6_round_82 hl 0 rfl rfl ?_
                  refine lv_bipush (v := (-5)) hx hb dX6_round_83 (by decide) ?_
                  refine q_ci (q_runV (C := RX6) (T := TX6) (N := 22) ⟨hx, hb, hml, hown, hts⟩ (c_X6_alarm l (hI.p2 hg) (-5)) (cwV 1 hts gX6_round_X6_alarm rfl rfl rfl (by decide +kernel) ⟨Nat.le_of_ble_eq_true rfl, Nat.le_of_ble_eq_true rfl⟩) hK hw Ew_mo rfl rfl hl.1 rfl (by simp [Value.category, va_rf]) dX6_round_85 ⟨Nat.le_of_ble_eq_true rfl, Nat.le_of_ble_eq_true rfl⟩) hS (fun H locs hw hS => ?_)
                  exact q_ism hx hb hr hlk hK hw hS dX6_round_88 (hsp.symm.trans (by rw [rl, hGt]; exact (Eq.trans (if_neg hk2) (Eq.trans (if_neg (notm1 hG (by omega))) (if_neg c79)))))
        exact loop N 0 0 u _ _ _ hI (by omega) (Eq.symm (by rw [sp_round, hix]; dsimp only [Option.elim]; rw [show tn (nI N) = N from nI_clamp (by omega)]; exact (Eq.trans (if_neg h1) (if_neg h2)))) hw hS (hl.list [(0, .ref (ad 0 4)), (1, .int (nI j)), (2, .int (nI N)), (3, .int (0)), (4, .int (nI (j + 0)))] (List.forall_mem_cons.mpr ⟨rfl, List.forall_mem_cons.mpr ⟨rfl, List.forall_mem_cons.mpr ⟨rfl, List.forall_mem_cons.mpr ⟨rfl, List.forall_mem_cons.mpr ⟨rfl, fun _ h => absurd h List.not_mem_nil⟩⟩⟩⟩⟩))
