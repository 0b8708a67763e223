set_option maxHeartbeats 4000000 in
set_option maxRecDepth 100000 in
theorem c_X4_isFull (l : Launch) {G : va_G} {Y : YT} {lo : Nat} {ad : Nat → Nat → Nat} {E : Nat → Nat → Option va_E} {k i k2 i2 n cap : Nat} {f : Nat → Int32} (he : E k i = some (.inr (4, [.ref (ad k2 i2), .int (nI n)]))) (ha : E k2 i2 = some (.inl (Y.1, cap, .inl f))) (hcap : cap < 2 ^ 31) (hn : n ≤ cap) : Met l yX4_isFull wsX4_isFull ({ frames := 0, cells := 0, slots := 0, locals := 0 }) (va_Pc [.ref (ad k i)] (cS G (tysY Y) lo E ad)) (QI G (tysY Y) lo (if n < cap then 0 else 1) E ad) 0 0 (fun q => lo ≤ q) := by
  refine met_of (cc := cX4_isFull) (maxL := 1) (ret := (some .boolean)) (by decide) rfl (Nat.le_of_ble_eq_true rfl) rfl ?_
  intro p e s m below meth c ls hx hb hr hlk hml hts hown hnm hw hK hl hS
  have i4 : ∀ w ∈ wsX40, w ∈ wsX4_isFull := by decide +kernel
  have hn2 : n < 2 ^ 31 := Nat.lt_of_le_of_lt hn hcap
  refine f_aload_n hx hb dX4_isFull_0 hl 0 rfl rfl ?_
  refine e_get (C := RX4) (T := TX4) (N := 2) hx hb hts i4 hown hK hw he rfl 1 (by decide) (hts (.fieldLink RX4 21 "FerryQuay$Row" "size" "I") (by decide +kernel)) rfl dX4_isFull_1 ?_
  refine f_aload_n hx hb dX4_isFull_4 hl 0 rfl rfl ?_
  refine e_get (C := RX4) (T := TX4) (N := 2) hx hb hts i4 hown hK hw he rfl 0 (by decide) (hts (.fieldLink RX4 15 "FerryQuay$Row" "weights" "[I") (by decide +kernel)) rfl dX4_isFull_5 ?_
  refine e_alen (v := nI cap) hx hb hK hw 0 ha rfl rfl dX4_isFull_8 ?_
  refine lv_icmp_lt (tgt := 16) hx hb dX4_isFull_9 (by decide) (fun c9 => ?_) (fun c9 => ?_)
  · refine lv_iconst (v := 0) hx hb dX4_isFull_16 (by decide) ?_
    exact q_zret hx hb hr hlk hK hw hS dX4_isFull_17 rfl (by simp [(nI_ltI hn2 hcap).symm, c9]) rfl
  · refine lv_iconst (v := 1) hx hb dX4_isFull_12 (by decide) ?_
    refine lv_goto (tgt := 17) hx hb dX4_isFull_13 (by decide) ?_
    exact q_zret hx hb hr hlk hK hw hS dX4_isFull_17 rfl (by simp [(nI_ltI hn2 hcap).symm, c9]) rfl
set_option maxHeartbeats 4000000 in
set_option maxRecDepth 100000 in
theorem c_X4_weightAt (l : Launch) {G : va_G} {Y : YT} {lo : Nat} {ad : Nat → Nat → Nat} {E : Nat → Nat → Option va_E} {k i k2 i2 n cap : Nat} {f : Nat → Int32} (he : E k i = some (.inr (4, [.ref (ad k2 i2), .int (nI n)]))) (ha : E k2 i2 = some (.inl (Y.1, cap, .inl f))) (hcap : cap < 2 ^ 31) (j : Int32) : Met l yX4_weightAt wsX4_weightAt ({ frames := 0, cells := 0, slots := 0, locals := 0 }) (va_Pc [.ref (ad k i), .int j] (cS G (tysY Y) lo E ad)) (QI G (tysY Y) lo (if j < 0 then -1 else if nI n ≤ j then -1 else if nI cap ≤ j then -1 else f j.toNatClampNeg) E ad) 0 0 (fun q => lo ≤ q) := by
  refine met_of (cc := cX4_weightAt) (maxL := 2) (ret := (some .int)) (by decide) rfl (Nat.le_of_ble_eq_true rfl) rfl ?_
  intro p e s m below meth c ls hx hb hr hlk hml hts hown hnm hw hK hl hS
  have i4 : ∀ w ∈ wsX40, w ∈ wsX4_weightAt := by decide +kernel
  refine f_iload_n hx hb dX4_weightAt_0 hl 1 rfl rfl ?_
  refine lv_if_lt (tgt := 30) hx hb dX4_weightAt_1 (by decide) (fun c1 => ?_) (fun c1 => ?_)
  · refine lv_iconst (v := (-1)) hx hb dX4_weightAt_30 (by decide) ?_
    exact q_iret hx hb hr hlk hK hw hS dX4_weightAt_31 (by simp [c1]) rfl
  · refine f_iload_n hx hb dX4_weightAt_4 hl 1 rfl rfl ?_
    refine f_aload_n hx hb dX4_weightAt_5 hl 0 rfl rfl ?_
    refine e_get (C := RX4) (T := TX4) (N := 2) hx hb hts i4 hown hK hw he rfl 1 (by decide) (hts (.fieldLink RX4 21 "FerryQuay$Row" "size" "I") (by decide +kernel)) rfl dX4_weightAt_6 ?_
    refine lv_icmp_ge (tgt := 30) hx hb dX4_weightAt_9 (by decide) (fun c9 => ?_) (fun c9 => ?_)
    · refine lv_iconst (v := (-1)) hx hb dX4_weightAt_30 (by decide) ?_
      exact q_iret hx hb hr hlk hK hw hS dX4_weightAt_31 (by simp [c1, c9]) rfl
    · refine f_iload_n hx hb dX4_weightAt_12 hl 1 rfl rfl ?_
      refine f_aload_n hx hb dX4_weightAt_13 hl 0 rfl rfl ?_
      refine e_get (C := RX4) (T := TX4) (N := 2) hx hb hts i4 hown hK hw he rfl 0 (by decide) (hts (.fieldLink RX4 15 "FerryQuay$Row" "weights" "[I") (by decide +kernel)) rfl dX4_weightAt_14 ?_
      refine e_alen (v := nI cap) hx hb hK hw 0 ha rfl rfl dX4_weightAt_17 ?_
      refine lv_icmp_ge (tgt := 30) hx hb dX4_weightAt_18 (by decide) (fun c18 => ?_) (fun c18 => ?_)
      · refine lv_iconst (v := (-1)) hx hb dX4_weightAt_30 (by decide) ?_
        exact q_iret hx hb hr hlk hK hw hS dX4_weightAt_31 (by simp [c1, c9, c18]) rfl
      · refine f_aload_n hx hb dX4_weightAt_21 hl 0 rfl rfl ?_
        refine e_get (C := RX4) (T := TX4) (N := 2) hx hb hts i4 hown hK hw he rfl 0 (by decide) (hts (.fieldLink RX4 15 "FerryQuay$Row" "weights" "[I") (by decide +kernel)) rfl dX4_weightAt_22 ?_
        refine f_iload_n hx hb dX4_weightAt_25 hl 1 rfl rfl ?_
        refine e_iald hx hb hK hw 0 ha rfl (vp_in_not c1 c18 hcap) dX4_weightAt_26 ?_
        refine lv_goto (tgt := 31) hx hb dX4_weightAt_27 (by decide) ?_
        exact q_iret hx hb hr hlk hK hw hS dX4_weightAt_31 (by simp [c1, c9, c18]) rfl
set_option maxHeartbeats 4000000 in
set_option maxRecDepth 100000 in
theorem c_X4_addLast (l : Launch) {G : va_G} {Y : YT} {lo : Nat} {ad : Nat → Nat → Nat} {E : Nat → Nat → Option va_E} {k i k2 i2 n cap : Nat} {f : Nat → Int32} (he : E k i = some (.inr (4, [.ref (ad k2 i2), .int (nI n)]))) (ha : E k2 i2 = some (.inl (Y.1, cap, .inl f))) (hcap : cap < 2 ^ 31) (x : Int32) (hn : n < cap) : Met l yX4_addLast wsX4_addLast ({ frames := 0, cells := 0, slots := 0, locals := 0 }) (va_Pc [.ref (ad k i), .int x] (cS G (tysY Y) lo E ad)) (QV G (tysY Y) lo (u2 (u2 E k2 i2 (some (.inl (Y.1, cap, .inl (va_up f n x))))) k i (some (.inr (4, [.ref (ad k2 i2), .int (nI (n + 1))])))) ad) 0 0 (fun q => lo ≤ q) := by
  refine met_of (cc := cX4_addLast) (maxL := 2) (ret := none) (by decide) rfl (Nat.le_of_ble_eq_true rfl) rfl ?_
  intro p e s m below meth c ls hx hb hr hlk hml hts hown hnm hw hK hl hS
  have i4 : ∀ w ∈ wsX40, w ∈ wsX4_addLast := by decide +kernel
  have hne : ¬ (k = k2 ∧ i = i2) := two_ne he ha (fun h => by cases h)
  have hne2 : ¬ (k2 = k ∧ i2 = i) := fun h => hne ⟨h.1.symm, h.2.symm⟩
  have hn2 : n < 2 ^ 31 := Nat.lt_trans hn hcap
  refine f_aload_n hx hb dX4_addLast_0 hl 0 rfl rfl ?_
  refine e_get (C := RX4) (T := TX4) (N := 2) hx hb hts i4 hown hK hw he rfl 1 (by decide) (hts (.fieldLink RX4 21 "FerryQuay$Row" "size" "I") (by decide +kernel)) rfl dX4_addLast_1 ?_
  refine lv_if_lt (tgt := 39) hx hb dX4_addLast_4 (by decide) (fun c4 => absurd c4 (nI_pos hn2)) (fun c4 => ?_)
  refine f_aload_n hx hb dX4_addLast_7 hl 0 rfl rfl ?_
  refine e_get (C := RX4) (T := TX4) (N := 2) hx hb hts i4 hown hK hw he rfl 1 (by decide) (hts (.fieldLink RX4 21 "FerryQuay$Row" "size" "I") (by decide +kernel)) rfl dX4_addLast_8 ?_
  refine f_aload_n hx hb dX4_addLast_11 hl 0 rfl rfl ?_
  refine e_get (C := RX4) (T := TX4) (N := 2) hx hb hts i4 hown hK hw he rfl 0 (by decide) (hts (.fieldLink RX4 15 "FerryQuay$Row" "weights" "[I") (by decide +kernel)) rfl dX4_addLast_12 ?_
  refine e_alen (v := nI cap) hx hb hK hw 0 ha rfl rfl dX4_addLast_15 ?_
  refine lv_icmp_ge (tgt := 39) hx hb dX4_addLast_16 (by decide) (fun c16 => absurd c16 (nI_ge hn hcap)) (fun c16 => ?_)
  refine f_aload_n hx hb dX4_addLast_19 hl 0 rfl rfl ?_
  refine e_get (C := RX4) (T := TX4) (N := 2) hx hb hts i4 hown hK hw he rfl 0 (by decide) (hts (.fieldLink RX4 15 "FerryQuay$Row" "weights" "[I") (by decide +kernel)) rfl dX4_addLast_20 ?_
  refine f_aload_n hx hb dX4_addLast_23 hl 0 rfl rfl ?_
  refine e_get (C := RX4) (T := TX4) (N := 2) hx hb hts i4 hown hK hw he rfl 1 (by decide) (hts (.fieldLink RX4 21 "FerryQuay$Row" "size" "I") (by decide +kernel)) rfl dX4_addLast_24 ?_
  refine f_iload_n hx hb dX4_addLast_27 hl 1 rfl rfl ?_
  refine e_iastN hx hb hK hw hS 0 ha rfl rfl hn hcap dX4_addLast_28 (fun H locs hw hS => ?_)
  have he1 := fun v => (u2_ne (f := E) (v := v) hne).trans he
  refine f_aload_n hx hb dX4_addLast_29 hl 0 rfl rfl ?_
  refine lv_dup hx hb dX4_addLast_30 rfl ?_
  refine e_get (C := RX4) (T := TX4) (N := 2) hx hb hts i4 hown hK hw (he1 _) rfl 1 (by decide) (hts (.fieldLink RX4 21 "FerryQuay$Row" "size" "I") (by decide +kernel)) rfl dX4_addLast_31 ?_
  refine lv_iconst (v := 1) hx hb dX4_addLast_34 (by decide) ?_
  refine lv_iadd hx hb dX4_addLast_35 ?_
  refine f_top (nI_1 n) ?_
  refine e_put (C := RX4) (T := TX4) (N := 2) (ty := .int) hx hb hts i4 tyX4 tyX4_ok nmX4 hown hK hw hS (he1 _) rfl 1 (by decide) (hts (.fieldLink RX4 21 "FerryQuay$Row" "size" "I") (by decide +kernel)) rfl (by decide +kernel) rfl rfl (Nat.le_of_ble_eq_true rfl) dX4_addLast_36 (fun H locs hw hS => ?_)
  exact q_vret hx hb hr hlk hK hw hS dX4_addLast_39 rfl
set_option maxHeartbeats 4000000 in
set_option maxRecDepth 100000 in
theorem c_X4_removeFirst (l : Launch) {G : va_G} {Y : YT} {lo : Nat} {ad : Nat → Nat → Nat} {E : Nat → Nat → Option va_E} {k i k2 i2 n cap : Nat} {f : Nat → Int32} (he : E k i = some (.inr (4, [.ref (ad k2 i2), .int (nI n)]))) (ha : E k2 i2 = some (.inl (Y.1, cap, .inl f))) (hcap : cap < 2 ^ 31) (h0 : 0 < n) (hn : n ≤ cap) : Met l yX4_removeFirst wsX4_removeFirst ({ frames := 1, cells := 0, slots := 0, locals := 30 }) (va_Pc [.ref (ad k i)] (cS G (tysY Y) lo E ad)) (QV G (tysY Y) lo (u2 (u2 E k i (some (.inr (4, [.ref (ad k2 i2), .int (nI (n - 1))])))) k2 i2 (some (.inl (Y.1, cap, .inl (va_cpy f f 1 0 (n - 1)))))) ad) 0 0 (fun q => lo ≤ q) := by
  refine met_of (cc := cX4_removeFirst) (maxL := 1) (ret := none) (by decide) rfl (Nat.le_of_ble_eq_true rfl) rfl ?_
  intro p e s m below meth c ls hx hb hr hlk hml hts hown hnm hw hK hl hS
  have i4 : ∀ w ∈ wsX40, w ∈ wsX4_removeFirst := by decide +kernel
  have hne : ¬ (k = k2 ∧ i = i2) := two_ne he ha (fun h => by cases h)
  have hne2 : ¬ (k2 = k ∧ i2 = i) := fun h => hne ⟨h.1.symm, h.2.symm⟩
  have hn2 : n < 2 ^ 31 := Nat.lt_of_le_of_lt hn hcap
  have hn3 : n - 1 < 2 ^ 31 := Nat.lt_of_le_of_lt (Nat.sub_le n 1) hn2
  refine f_aload_n hx hb dX4_removeFirst_0 hl 0 rfl rfl ?_
  refine e_get (C := RX4) (T := TX4) (N := 2) hx hb hts i4 hown hK hw he rfl 1 (by decide) (hts (.fieldLink RX4 21 "FerryQuay$Row" "size" "I") (by decide +kernel)) rfl dX4_removeFirst_1 ?_
  refine lv_if_le (tgt := 46) hx hb dX4_removeFirst_4 (by decide) (fun c4 => absurd c4 (nI_nle h0 hn2)) (fun c4 => ?_)
  refine f_aload_n hx hb dX4_removeFirst_7 hl 0 rfl rfl ?_
  refine e_get (C := RX4) (T := TX4) (N := 2) hx hb hts i4 hown hK hw he rfl 1 (by decide) (hts (.fieldLink RX4 21 "FerryQuay$Row" "size" "I") (by decide +kernel)) rfl dX4_removeFirst_8 ?_
  refine f_aload_n hx hb dX4_removeFirst_11 hl 0 rfl rfl ?_
  refine e_get (C := RX4) (T := TX4) (N := 2) hx hb hts i4 hown hK hw he rfl 0 (by decide) (hts (.fieldLink RX4 15 "FerryQuay$Row" "weights" "[I") (by decide +kernel)) rfl dX4_removeFirst_12 ?_
  refine e_alen (v := nI cap) hx hb hK hw 0 ha rfl rfl dX4_removeFirst_15 ?_
  refine lv_icmp_gt (tgt := 46) hx hb dX4_removeFirst_16 (by decide) (fun c16 => absurd c16 (nI_nlt hn hcap)) (fun c16 => ?_)
  refine f_aload_n hx hb dX4_removeFirst_19 hl 0 rfl rfl ?_
  refine lv_dup hx hb dX4_removeFirst_20 rfl ?_
  refine e_get (C := RX4) (T := TX4) (N := 2) hx hb hts i4 hown hK hw he rfl 1 (by decide) (hts (.fieldLink RX4 21 "FerryQuay$Row" "size" "I") (by decide +kernel)) rfl dX4_removeFirst_21 ?_
  refine lv_iconst (v := 1) hx hb dX4_removeFirst_24 (by decide) ?_
  refine lv_isub hx hb dX4_removeFirst_25 ?_
  refine f_top (nI_s1 h0) ?_
  refine e_put (C := RX4) (T := TX4) (N := 2) (ty := .int) hx hb hts i4 tyX4 tyX4_ok nmX4 hown hK hw hS he rfl 1 (by decide) (hts (.fieldLink RX4 21 "FerryQuay$Row" "size" "I") (by decide +kernel)) rfl (by decide +kernel) rfl rfl (Nat.le_of_ble_eq_true rfl) dX4_removeFirst_26 (fun H locs hw hS => ?_)
  have ha1 := fun v => (u2_ne (f := E) (v := v) hne2).trans ha
  refine f_aload_n hx hb dX4_removeFirst_29 hl 0 rfl rfl ?_
  refine e_get (C := RX4) (T := TX4) (N := 2) hx hb hts i4 hown hK hw u2_self rfl 0 (by decide) (hts (.fieldLink RX4 15 "FerryQuay$Row" "weights" "[I") (by decide +kernel)) rfl dX4_removeFirst_30 ?_
  refine lv_iconst (v := 1) hx hb dX4_removeFirst_33 (by decide) ?_
  refine f_aload_n hx hb dX4_removeFirst_34 hl 0 rfl rfl ?_
  refine e_get (C := RX4) (T := TX4) (N := 2) hx hb hts i4 hown hK hw u2_self rfl 0 (by decide) (hts (.fieldLink RX4 15 "FerryQuay$Row" "weights" "[I") (by decide +kernel)) rfl dX4_removeFirst_35 ?_
  refine lv_iconst (v := 0) hx hb dX4_removeFirst_38 (by decide) ?_
  refine f_aload_n hx hb dX4_removeFirst_39 hl 0 rfl rfl ?_
  refine e_get (C := RX4) (T := TX4) (N := 2) hx hb hts i4 hown hK hw u2_self rfl 1 (by decide) (hts (.fieldLink RX4 21 "FerryQuay$Row" "size" "I") (by decide +kernel)) rfl dX4_removeFirst_40 ?_
  refine e_copy (n := nI (n - 1)) hx hb (hml.trans hl.1.symm) hown (hts (.methodLink RX4 25 arraycopyName) (by decide +kernel)) (hts (.native arraycopyName) (by decide +kernel)) (hts (.static arraycopyName) (by decide +kernel)) (hts (.initialized "java/lang/System") (by decide +kernel)) hK hw hS 0 (ha1 _) rfl (by decide) (by decide) (nI_pos hn3) (by rw [nI_clamp hn3]; show 1 + (n - 1) ≤ cap; omega) (by rw [nI_clamp hn3]; show 0 + (n - 1) ≤ cap; omega) (Nat.le_of_ble_eq_true rfl) (Nat.le_of_ble_eq_true rfl) dX4_removeFirst_43 (fun H locs hw hS => ?_)
  rw [nI_clamp hn3] at hw
  exact q_vret hx hb hr hlk hK hw hS dX4_removeFirst_46 rfl
set_option maxHeartbeats 4000000 in
set_option maxRecDepth 100000 in
theorem c_X4_removeLast (l : Launch) {G : va_G} {Y : YT} {lo : Nat} {ad : Nat → Nat → Nat} {E : Nat → Nat → Option va_E} {k i n : Nat} {r : Value} (he : E k i = some (.inr (4, [r, .int (nI n)]))) (h0 : 0 < n) (hn2 : n < 2 ^ 31) : Met l yX4_removeLast wsX4_removeLast ({ frames := 0, cells := 0, slots := 0, locals := 0 }) (va_Pc [.ref (ad k i)] (cS G (tysY Y) lo E ad)) (QV G (tysY Y) lo (u2 E k i (some (.inr (4, [r, .int (nI (n - 1))])))) ad) 0 0 (fun q => lo ≤ q) := by
  refine met_of (cc := cX4_removeLast) (maxL := 1) (ret := none) (by decide) rfl (Nat.le_of_ble_eq_true rfl) rfl ?_
  intro p e s m below meth c ls hx hb hr hlk hml hts hown hnm hw hK hl hS
  have i4 : ∀ w ∈ wsX40, w ∈ wsX4_removeLast := by decide +kernel
  refine f_aload_n hx hb dX4_removeLast_0 hl 0 rfl rfl ?_
  refine e_get (C := RX4) (T := TX4) (N := 2) hx hb hts i4 hown hK hw he rfl 1 (by decide) (hts (.fieldLink RX4 21 "FerryQuay$Row" "size" "I") (by decide +kernel)) rfl dX4_removeLast_1 ?_
  refine lv_if_le (tgt := 17) hx hb dX4_removeLast_4 (by decide) (fun c4 => absurd c4 (nI_nle h0 hn2)) (fun c4 => ?_)
  refine f_aload_n hx hb dX4_removeLast_7 hl 0 rfl rfl ?_
  refine lv_dup hx hb dX4_removeLast_8 rfl ?_
  refine e_get (C := RX4) (T := TX4) (N := 2) hx hb hts i4 hown hK hw he rfl 1 (by decide) (hts (.fieldLink RX4 21 "FerryQuay$Row" "size" "I") (by decide +kernel)) rfl dX4_removeLast_9 ?_
  refine lv_iconst (v := 1) hx hb dX4_removeLast_12 (by decide) ?_
  refine lv_isub hx hb dX4_removeLast_13 ?_
  refine f_top (nI_s1 h0) ?_
  refine e_put (C := RX4) (T := TX4) (N := 2) (ty := .int) hx hb hts i4 tyX4 tyX4_ok nmX4 hown hK hw hS he rfl 1 (by decide) (hts (.fieldLink RX4 21 "FerryQuay$Row" "size" "I") (by decide +kernel)) rfl (by decide +kernel) rfl rfl (Nat.le_of_ble_eq_true rfl) dX4_removeLast_14 (fun H locs hw hS => ?_)
  exact q_vret hx hb hr hlk hK hw hS dX4_removeLast_17 rfl
