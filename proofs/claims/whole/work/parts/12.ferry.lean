theorem wAt_in {n cap j : Nat} {f : Nat → Int32} (hj : j < n) (hn : n ≤ cap) (hcap : cap < 2 ^ 31) : (if nI j < 0 then -1 else if nI n ≤ nI j then -1 else if nI cap ≤ nI j then -1 else f (nI j).toNatClampNeg) = f j := by
  have h1 : j < 2 ^ 31 := by omega
  rw [if_neg (nI_pos h1), if_neg (nI_ge hj (by omega)), if_neg (nI_ge (by omega) hcap), nI_clamp h1]
theorem f_val2 {p : Program} {l : Launch} {e : Env} {R : Room} {s : State} {m : MethodId} {args : Array Value} {below : List Frame} {meth : Method} {c : Code} {H : Heap} {locs : List Loc} {cells slots : Nat} {Q : State → Prop} {pc : Nat} {ls : Array Slot} {rest : List Value} {v x y : Value} (h : x = y) (kk : W p l e R s m args below meth c H locs cells slots Q (F0 m pc ls (v :: y :: rest))) : W p l e R s m args below meth c H locs cells slots Q (F0 m pc ls (v :: x :: rest)) := h ▸ kk
set_option maxHeartbeats 4000000 in
set_option maxRecDepth 100000 in
theorem c_X1_hasRoomFor (l : Launch) {G : va_G} {Y : YT} {lo : Nat} {ad : Nat → Nat → Nat} {E : Nat → Nat → Option va_E} {k i k2 i2 k3 i3 n cap : Nat} {f : Nat → Int32} {rm ld : Int32} (hf : E k i = some (.inr (1, [.int rm, .ref (ad k2 i2), .int ld]))) (he : E k2 i2 = some (.inr (4, [.ref (ad k3 i3), .int (nI n)]))) (ha : E k3 i3 = some (.inl (Y.1, cap, .inl f))) (hcap : cap < 2 ^ 31) (x : Int32) (hn : n ≤ cap) : Met l yX1_hasRoomFor wsX1_hasRoomFor ({ frames := 1, cells := 0, slots := 0, locals := 20 }) (va_Pc [.ref (ad k i), .int x] (cS G (tysY Y) lo E ad)) (QI G (tysY Y) lo (if n < cap then if rm < ld + x then 0 else 1 else 0) E ad) 0 0 (fun q => lo ≤ q) := by
  refine met_of (cc := cX1_hasRoomFor) (maxL := 2) (ret := (some .boolean)) (by decide) rfl (Nat.le_of_ble_eq_true rfl) rfl ?_
  intro p e s m below meth c ls hx hb hr hlk hml hts hown hnm hw hK hl hS
  have i1 : ∀ w ∈ wsX10, w ∈ wsX1_hasRoomFor := by decide +kernel
  refine f_aload_n hx hb dX1_hasRoomFor_0 hl 0 rfl rfl ?_
  refine e_get (C := RX1) (T := TX1) (N := 3) hx hb hts i1 hown hK hw hf rfl 1 (by decide) (hts (.fieldLink RX1 20 "FerryQuay$Ferry" "vehicles" "LFerryQuay$Row;") (by decide +kernel)) rfl dX1_hasRoomFor_1 ?_
  refine q_ci (q_runV (C := RX4) (T := TX4) (N := 2) ⟨hx, hb, hml, hown, hts⟩ (c_X4_isFull l he ha hcap hn) (cwV 0 hts gX1_hasRoomFor_X4_isFull rfl rfl rfl (by decide +kernel) ⟨Nat.le_of_ble_eq_true rfl, Nat.le_of_ble_eq_true rfl⟩) hK hw he rfl rfl hl.1 rfl (by simp [Value.category, va_rf]) dX1_hasRoomFor_4 ⟨Nat.le_of_ble_eq_true rfl, Nat.le_of_ble_eq_true rfl⟩) hS (fun H locs hw hS => ?_)
  by_cases hq : n < cap
  · refine f_top (if_pos hq) ?_
    refine lv_if_ne (tgt := 27) hx hb dX1_hasRoomFor_7 (by decide) (fun c7 => absurd (by decide) c7) (fun c7 => ?_)
    refine f_aload_n hx hb dX1_hasRoomFor_10 hl 0 rfl rfl ?_
    refine e_get (C := RX1) (T := TX1) (N := 3) hx hb hts i1 hown hK hw hf rfl 2 (by decide) (hts (.fieldLink RX1 28 "FerryQuay$Ferry" "load" "I") (by decide +kernel)) rfl dX1_hasRoomFor_11 ?_
    refine f_iload_n hx hb dX1_hasRoomFor_14 hl 1 rfl rfl ?_
    refine lv_iadd hx hb dX1_hasRoomFor_15 ?_
    refine f_aload_n hx hb dX1_hasRoomFor_16 hl 0 rfl rfl ?_
    refine e_get (C := RX1) (T := TX1) (N := 3) hx hb hts i1 hown hK hw hf rfl 0 (by decide) (hts (.fieldLink RX1 9 "FerryQuay$Ferry" "room" "I") (by decide +kernel)) rfl dX1_hasRoomFor_17 ?_
    refine lv_icmp_gt (tgt := 27) hx hb dX1_hasRoomFor_20 (by decide) (fun c20 => ?_) (fun c20 => ?_)
    · refine lv_iconst (v := 0) hx hb dX1_hasRoomFor_27 (by decide) ?_
      exact q_zret hx hb hr hlk hK hw hS dX1_hasRoomFor_28 rfl (by simp [hq, c20]) rfl
    · refine lv_iconst (v := 1) hx hb dX1_hasRoomFor_23 (by decide) ?_
      refine lv_goto (tgt := 28) hx hb dX1_hasRoomFor_24 (by decide) ?_
      exact q_zret hx hb hr hlk hK hw hS dX1_hasRoomFor_28 rfl (by simp [hq, c20]) rfl
  · refine f_top (if_neg hq) ?_
    refine lv_if_ne (tgt := 27) hx hb dX1_hasRoomFor_7 (by decide) (fun c7 => ?_) (fun c7 => absurd c7 (by decide))
    refine lv_iconst (v := 0) hx hb dX1_hasRoomFor_27 (by decide) ?_
    exact q_zret hx hb hr hlk hK hw hS dX1_hasRoomFor_28 rfl (by simp [hq]) rfl
set_option maxHeartbeats 4000000 in
set_option maxRecDepth 100000 in
theorem c_X1_takeAboard (l : Launch) {G : va_G} {Y : YT} {lo : Nat} {ad : Nat → Nat → Nat} {E : Nat → Nat → Option va_E} {k i k2 i2 k3 i3 n cap : Nat} {f : Nat → Int32} {rm ld : Int32} (hf : E k i = some (.inr (1, [.int rm, .ref (ad k2 i2), .int ld]))) (he : E k2 i2 = some (.inr (4, [.ref (ad k3 i3), .int (nI n)]))) (ha : E k3 i3 = some (.inl (Y.1, cap, .inl f))) (hcap : cap < 2 ^ 31) (x : Int32) (hn : n < cap) : Met l yX1_takeAboard wsX1_takeAboard ({ frames := 1, cells := 0, slots := 0, locals := 21 }) (va_Pc [.ref (ad k i), .int x] (cS G (tysY Y) lo E ad)) (QV G (tysY Y) lo (u2 (u2 (u2 E k3 i3 (some (.inl (Y.1, cap, .inl (va_up f n x))))) k2 i2 (some (.inr (4, [.ref (ad k3 i3), .int (nI (n + 1))])))) k i (some (.inr (1, [.int rm, .ref (ad k2 i2), .int (ld + x)])))) ad) 0 0 (fun q => lo ≤ q) := by
  refine met_of (cc := cX1_takeAboard) (maxL := 2) (ret := none) (by decide) rfl (Nat.le_of_ble_eq_true rfl) rfl ?_
  intro p e s m below meth c ls hx hb hr hlk hml hts hown hnm hw hK hl hS
  have i1 : ∀ w ∈ wsX10, w ∈ wsX1_takeAboard := by decide +kernel
  have n12 : ¬ (k = k2 ∧ i = i2) := two_ne hf he (fun h => by simp at h)
  have n13 : ¬ (k = k3 ∧ i = i3) := two_ne hf ha (fun h => by simp at h)
  have n23 : ¬ (k2 = k3 ∧ i2 = i3) := two_ne he ha (fun h => by simp at h)
  have n21 : ¬ (k2 = k ∧ i2 = i) := fun h => n12 ⟨h.1.symm, h.2.symm⟩
  refine f_aload_n hx hb dX1_takeAboard_0 hl 0 rfl rfl ?_
  refine e_get (C := RX1) (T := TX1) (N := 3) hx hb hts i1 hown hK hw hf rfl 1 (by decide) (hts (.fieldLink RX1 20 "FerryQuay$Ferry" "vehicles" "LFerryQuay$Row;") (by decide +kernel)) rfl dX1_takeAboard_1 ?_
  refine f_iload_n hx hb dX1_takeAboard_4 hl 1 rfl rfl ?_
  refine q_cv (q_runV (C := RX4) (T := TX4) (N := 2) ⟨hx, hb, hml, hown, hts⟩ (c_X4_addLast l he ha hcap x hn) (cwV 1 hts gX1_takeAboard_X4_addLast rfl rfl rfl (by decide +kernel) ⟨Nat.le_of_ble_eq_true rfl, Nat.le_of_ble_eq_true rfl⟩) hK hw he rfl rfl hl.1 rfl (by simp [Value.category, va_rf]) dX1_takeAboard_5 ⟨Nat.le_of_ble_eq_true rfl, Nat.le_of_ble_eq_true rfl⟩) hS (fun H locs hw hS => ?_)
  have hf1 := fun v v2 => (u2_ne (f := u2 E k3 i3 v) (v := v2) n12).trans ((u2_ne (f := E) (v := v) n13).trans hf)
  refine f_aload_n hx hb dX1_takeAboard_8 hl 0 rfl rfl ?_
  refine lv_dup hx hb dX1_takeAboard_9 rfl ?_
  refine e_get (C := RX1) (T := TX1) (N := 3) hx hb hts i1 hown hK hw (hf1 _ _) rfl 2 (by decide) (hts (.fieldLink RX1 28 "FerryQuay$Ferry" "load" "I") (by decide +kernel)) rfl dX1_takeAboard_10 ?_
  refine f_iload_n hx hb dX1_takeAboard_13 hl 1 rfl rfl ?_
  refine lv_iadd hx hb dX1_takeAboard_14 ?_
  refine e_put (C := RX1) (T := TX1) (N := 3) (ty := .int) hx hb hts i1 tyX1 tyX1_ok nmX1 hown hK hw hS (hf1 _ _) rfl 2 (by decide) (hts (.fieldLink RX1 28 "FerryQuay$Ferry" "load" "I") (by decide +kernel)) rfl (by decide +kernel) rfl rfl (Nat.le_of_ble_eq_true rfl) dX1_takeAboard_15 (fun H locs hw hS => ?_)
  exact q_vret hx hb hr hlk hK hw hS dX1_takeAboard_18 rfl
set_option maxHeartbeats 4000000 in
set_option maxRecDepth 100000 in
theorem c_X1_weightOfLast (l : Launch) {G : va_G} {Y : YT} {lo : Nat} {ad : Nat → Nat → Nat} {E : Nat → Nat → Option va_E} {k i k2 i2 k3 i3 n cap : Nat} {f : Nat → Int32} {rm ld : Int32} (hf : E k i = some (.inr (1, [.int rm, .ref (ad k2 i2), .int ld]))) (he : E k2 i2 = some (.inr (4, [.ref (ad k3 i3), .int (nI n)]))) (ha : E k3 i3 = some (.inl (Y.1, cap, .inl f))) (hcap : cap < 2 ^ 31) (h0 : 0 < n) (hn : n ≤ cap) : Met l yX1_weightOfLast wsX1_weightOfLast ({ frames := 1, cells := 0, slots := 0, locals := 21 }) (va_Pc [.ref (ad k i)] (cS G (tysY Y) lo E ad)) (QI G (tysY Y) lo (f (n - 1)) E ad) 0 0 (fun q => lo ≤ q) := by
  refine met_of (cc := cX1_weightOfLast) (maxL := 1) (ret := (some .int)) (by decide) rfl (Nat.le_of_ble_eq_true rfl) rfl ?_
  intro p e s m below meth c ls hx hb hr hlk hml hts hown hnm hw hK hl hS
  have i1 : ∀ w ∈ wsX10, w ∈ wsX1_weightOfLast := by decide +kernel
  have i4 : ∀ w ∈ wsX40, w ∈ wsX1_weightOfLast := by decide +kernel
  refine f_aload_n hx hb dX1_weightOfLast_0 hl 0 rfl rfl ?_
  refine e_get (C := RX1) (T := TX1) (N := 3) hx hb hts i1 hown hK hw hf rfl 1 (by decide) (hts (.fieldLink RX1 20 "FerryQuay$Ferry" "vehicles" "LFerryQuay$Row;") (by decide +kernel)) rfl dX1_weightOfLast_1 ?_
  refine f_aload_n hx hb dX1_weightOfLast_4 hl 0 rfl rfl ?_
  refine e_get (C := RX1) (T := TX1) (N := 3) hx hb hts i1 hown hK hw hf rfl 1 (by decide) (hts (.fieldLink RX1 20 "FerryQuay$Ferry" "vehicles" "LFerryQuay$Row;") (by decide +kernel)) rfl dX1_weightOfLast_5 ?_
  refine e_get (C := RX4) (T := TX4) (N := 2) hx hb hts i4 hown hK hw he rfl 1 (by decide) (hts (.fieldLink RX1 34 "FerryQuay$Row" "size" "I") (by decide +kernel)) rfl dX1_weightOfLast_8 ?_
  refine lv_iconst (v := 1) hx hb dX1_weightOfLast_11 (by decide) ?_
  refine lv_isub hx hb dX1_weightOfLast_12 ?_
  refine f_top (nI_s1 h0) ?_
  refine q_ci (q_runV (C := RX4) (T := TX4) (N := 2) ⟨hx, hb, hml, hown, hts⟩ (c_X4_weightAt l he ha hcap (nI (n - 1))) (cwV 1 hts gX1_weightOfLast_X4_weightAt rfl rfl rfl (by decide +kernel) ⟨Nat.le_of_ble_eq_true rfl, Nat.le_of_ble_eq_true rfl⟩) hK hw he rfl rfl hl.1 rfl (by simp [Value.category, va_rf]) dX1_weightOfLast_13 ⟨Nat.le_of_ble_eq_true rfl, Nat.le_of_ble_eq_true rfl⟩) hS (fun H locs hw hS => ?_)
  refine f_top (y := f (n - 1)) (wAt_in (by omega) hn hcap) ?_
  exact q_iret hx hb hr hlk hK hw hS dX1_weightOfLast_16 rfl rfl
set_option maxHeartbeats 4000000 in
set_option maxRecDepth 100000 in
theorem c_X1_putLastAshore (l : Launch) {G : va_G} {Y : YT} {lo : Nat} {ad : Nat → Nat → Nat} {E : Nat → Nat → Option va_E} {k i k2 i2 k3 i3 n cap : Nat} {f : Nat → Int32} {rm ld : Int32} (hf : E k i = some (.inr (1, [.int rm, .ref (ad k2 i2), .int ld]))) (he : E k2 i2 = some (.inr (4, [.ref (ad k3 i3), .int (nI n)]))) (ha : E k3 i3 = some (.inl (Y.1, cap, .inl f))) (hcap : cap < 2 ^ 31) (h0 : 0 < n) (hn : n ≤ cap) : Met l yX1_putLastAshore wsX1_putLastAshore ({ frames := 2, cells := 0, slots := 0, locals := 41 }) (va_Pc [.ref (ad k i)] (cS G (tysY Y) lo E ad)) (QV G (tysY Y) lo (u2 (u2 E k i (some (.inr (1, [.int rm, .ref (ad k2 i2), .int (ld - f (n - 1))])))) k2 i2 (some (.inr (4, [.ref (ad k3 i3), .int (nI (n - 1))])))) ad) 0 0 (fun q => lo ≤ q) := by
  refine met_of (cc := cX1_putLastAshore) (maxL := 1) (ret := none) (by decide) rfl (Nat.le_of_ble_eq_true rfl) rfl ?_
  intro p e s m below meth c ls hx hb hr hlk hml hts hown hnm hw hK hl hS
  have i1 : ∀ w ∈ wsX10, w ∈ wsX1_putLastAshore := by decide +kernel
  have i4 : ∀ w ∈ wsX40, w ∈ wsX1_putLastAshore := by decide +kernel
  have n12 : ¬ (k = k2 ∧ i = i2) := two_ne hf he (fun h => by simp at h)
  have n13 : ¬ (k = k3 ∧ i = i3) := two_ne hf ha (fun h => by simp at h)
  have n23 : ¬ (k2 = k3 ∧ i2 = i3) := two_ne he ha (fun h => by simp at h)
  have n21 : ¬ (k2 = k ∧ i2 = i) := fun h => n12 ⟨h.1.symm, h.2.symm⟩
  refine f_aload_n hx hb dX1_putLastAshore_0 hl 0 rfl rfl ?_
  refine e_get (C := RX1) (T := TX1) (N := 3) hx hb hts i1 hown hK hw hf rfl 1 (by decide) (hts (.fieldLink RX1 20 "FerryQuay$Ferry" "vehicles" "LFerryQuay$Row;") (by decide +kernel)) rfl dX1_putLastAshore_1 ?_
  refine e_get (C := RX4) (T := TX4) (N := 2) hx hb hts i4 hown hK hw he rfl 1 (by decide) (hts (.fieldLink RX1 34 "FerryQuay$Row" "size" "I") (by decide +kernel)) rfl dX1_putLastAshore_4 ?_
  refine lv_if_le (tgt := 30) hx hb dX1_putLastAshore_7 (by decide) (fun c7 => absurd c7 (nI_nle h0 (Nat.lt_of_le_of_lt hn hcap))) (fun c7 => ?_)
  refine f_aload_n hx hb dX1_putLastAshore_10 hl 0 rfl rfl ?_
  refine lv_dup hx hb dX1_putLastAshore_11 rfl ?_
  refine e_get (C := RX1) (T := TX1) (N := 3) hx hb hts i1 hown hK hw hf rfl 2 (by decide) (hts (.fieldLink RX1 28 "FerryQuay$Ferry" "load" "I") (by decide +kernel)) rfl dX1_putLastAshore_12 ?_
  refine f_aload_n hx hb dX1_putLastAshore_15 hl 0 rfl rfl ?_
  refine q_ci (q_runV (C := RX1) (T := TX1) (N := 3) ⟨hx, hb, hml, hown, hts⟩ (c_X1_weightOfLast l hf he ha hcap h0 hn) (cwV 0 hts gX1_putLastAshore_X1_weightOfLast rfl rfl rfl (by decide +kernel) ⟨Nat.le_of_ble_eq_true rfl, Nat.le_of_ble_eq_true rfl⟩) hK hw hf rfl rfl hl.1 rfl (by simp [Value.category, va_rf]) dX1_putLastAshore_16 ⟨Nat.le_of_ble_eq_true rfl, Nat.le_of_ble_eq_true rfl⟩) hS (fun H locs hw hS => ?_)
  refine lv_isub hx hb dX1_putLastAshore_19 ?_
  refine e_put (C := RX1) (T := TX1) (N := 3) (ty := .int) hx hb hts i1 tyX1 tyX1_ok nmX1 hown hK hw hS hf rfl 2 (by decide) (hts (.fieldLink RX1 28 "FerryQuay$Ferry" "load" "I") (by decide +kernel)) rfl (by decide +kernel) rfl rfl (Nat.le_of_ble_eq_true rfl) dX1_putLastAshore_20 (fun H locs hw hS => ?_)
  have he1 := fun v => (u2_ne (f := E) (v := v) n21).trans he
  refine f_aload_n hx hb dX1_putLastAshore_23 hl 0 rfl rfl ?_
  refine e_get (C := RX1) (T := TX1) (N := 3) hx hb hts i1 hown hK hw u2_self rfl 1 (by decide) (hts (.fieldLink RX1 20 "FerryQuay$Ferry" "vehicles" "LFerryQuay$Row;") (by decide +kernel)) rfl dX1_putLastAshore_24 ?_
  refine q_cv (q_runV (C := RX4) (T := TX4) (N := 2) ⟨hx, hb, hml, hown, hts⟩ (c_X4_removeLast l (he1 _) h0 (Nat.lt_of_le_of_lt hn hcap)) (cwV 0 hts gX1_putLastAshore_X4_removeLast rfl rfl rfl (by decide +kernel) ⟨Nat.le_of_ble_eq_true rfl, Nat.le_of_ble_eq_true rfl⟩) hK hw (he1 _) rfl rfl hl.1 rfl (by simp [Value.category, va_rf]) dX1_putLastAshore_27 ⟨Nat.le_of_ble_eq_true rfl, Nat.le_of_ble_eq_true rfl⟩) hS (fun H locs hw hS => ?_)
  exact q_vret hx hb hr hlk hK hw hS dX1_putLastAshore_30 rfl
set_option maxHeartbeats 4000000 in
set_option maxRecDepth 100000 in
theorem c_X2_init (l : Launch) {G : va_G} {Y : YT} {lo : Nat} {ad : Nat → Nat → Nat} {E : Nat → Nat → Option va_E} {k i : Nat} (he : E k i = some (.inr (2, [.int 0, .int 0, .int 0, .int 0]))) (x : Int32) : Met l yX2_init wsX2_init ({ frames := 1, cells := 0, slots := 0, locals := 30 }) (va_Pc [.ref (ad k i), .int x] (cS G (tysY Y) lo E ad)) (QV G (tysY Y) lo (u2 E k i (some (.inr (2, [.int x, .int 0, .int 0, .int 0])))) ad) 0 0 (fun q => lo ≤ q) := by
  refine met_of (cc := cX2_init) (maxL := 2) (ret := none) (by decide) rfl (Nat.le_of_ble_eq_true rfl) rfl ?_
  intro p e s m below meth c ls hx hb hr hlk hml hts hown hnm hw hK hl hS
  have i2 : ∀ w ∈ wsX20, w ∈ wsX2_init := by decide +kernel
  refine f_aload_n hx hb dX2_init_0 hl 0 rfl rfl ?_
  refine W.objInit hx hb hown (hts (.methodLink RX2 1 objectInit) (by decide +kernel)) (hts (.instanceMethod objectInit) (by decide +kernel)) (hts (.code objectInit ⟨#[0xb1]⟩ 1 none) (by decide +kernel)) rfl (by rw [hml]; exact hl.1) rfl dX2_init_1 (Nat.le_of_ble_eq_true rfl) (Nat.le_of_ble_eq_true rfl) ?_
  refine W.eq (g2 := F0 m 4 ls []) rfl ?_
  refine f_aload_n hx hb dX2_init_4 hl 0 rfl rfl ?_
  refine f_iload_n hx hb dX2_init_5 hl 1 rfl rfl ?_
  refine e_putF (C := RX2) (T := TX2) (N := 4) (ty := .int) hx hb hts i2 tyX2 tyX2_ok nmX2 hown hK hw hS he rfl 0 (by decide) (hts (.fieldLink RX2 7 "FerryQuay$Gate" "number" "I") (by decide +kernel)) rfl hnm rfl (by decide +kernel) rfl rfl (Nat.le_of_ble_eq_true rfl) dX2_init_6 (fun H locs hw hS => ?_)
  exact q_vret hx hb hr hlk hK hw hS dX2_init_9 rfl
theorem u2_uu {α : Type} {f : Nat → Nat → α} {k i : Nat} {v v2 : α} : u2 (u2 f k i v) k i v2 = u2 f k i v2 := by
  funext k' i'
  by_cases hk : k' = k
  · by_cases hi : i' = i <;> simp [u2, va_up, hk, hi]
  · simp [u2, va_up, hk]
set_option maxHeartbeats 4000000 in
set_option maxRecDepth 100000 in
theorem c_X3_init (l : Launch) {G : va_G} {Y : YT} {lo : Nat} {ad : Nat → Nat → Nat} {E : Nat → Nat → Option va_E} {k i : Nat} (he : E k i = some (.inr (3, [.int 0, .int 0, .int 0, .int 0]))) (x y : Int32) : Met l yX3_init wsX3_init ({ frames := 1, cells := 0, slots := 0, locals := 30 }) (va_Pc [.ref (ad k i), .int x, .int y] (cS G (tysY Y) lo E ad)) (QV G (tysY Y) lo (u2 E k i (some (.inr (3, [.int x, .int y, .int 0, .int 0])))) ad) 0 0 (fun q => lo ≤ q) := by
  refine met_of (cc := cX3_init) (maxL := 3) (ret := none) (by decide) rfl (Nat.le_of_ble_eq_true rfl) rfl ?_
  intro p e s m below meth c ls hx hb hr hlk hml hts hown hnm hw hK hl hS
  have i3 : ∀ w ∈ wsX30, w ∈ wsX3_init := by decide +kernel
  refine f_aload_n hx hb dX3_init_0 hl 0 rfl rfl ?_
  refine W.objInit hx hb hown (hts (.methodLink RX3 1 objectInit) (by decide +kernel)) (hts (.instanceMethod objectInit) (by decide +kernel)) (hts (.code objectInit ⟨#[0xb1]⟩ 1 none) (by decide +kernel)) rfl (by rw [hml]; exact hl.1) rfl dX3_init_1 (Nat.le_of_ble_eq_true rfl) (Nat.le_of_ble_eq_true rfl) ?_
  refine W.eq (g2 := F0 m 4 ls []) rfl ?_
  refine f_aload_n hx hb dX3_init_4 hl 0 rfl rfl ?_
  refine f_iload_n hx hb dX3_init_5 hl 1 rfl rfl ?_
  refine e_putF (C := RX3) (T := TX3) (N := 4) (ty := .int) hx hb hts i3 tyX3 tyX3_ok nmX3 hown hK hw hS he rfl 0 (by decide) (hts (.fieldLink RX3 7 "FerryQuay$Ramp" "number" "I") (by decide +kernel)) rfl hnm rfl (by decide +kernel) rfl rfl (Nat.le_of_ble_eq_true rfl) dX3_init_6 (fun H locs hw hS => ?_)
  refine f_aload_n hx hb dX3_init_9 hl 0 rfl rfl ?_
  refine f_iload_n hx hb dX3_init_10 hl 2 rfl rfl ?_
  refine e_putF (C := RX3) (T := TX3) (N := 4) (ty := .int) hx hb hts i3 tyX3 tyX3_ok nmX3 hown hK hw hS u2_self rfl 1 (by decide) (hts (.fieldLink RX3 13 "FerryQuay$Ramp" "limit" "I") (by decide +kernel)) rfl hnm rfl (by decide +kernel) rfl rfl (Nat.le_of_ble_eq_true rfl) dX3_init_11 (fun H locs hw hS => ?_)
  exact q_vret hx hb hr hlk hK hw hS dX3_init_14 u2_uu
set_option maxHeartbeats 4000000 in
set_option maxRecDepth 100000 in
theorem c_X4_init (l : Launch) {G : va_G} {Y : YT} {lo : Nat} {ad : Nat → Nat → Nat} {E : Nat → Nat → Option va_E} {k i k2 cap : Nat} (he : E k i = some (.inr (4, [.null, .int 0]))) (hk2 : E k2 i = none) (hkk : k ≠ k2) (hcap : cap < 1000) : Met l yX4_init wsX4_init ({ frames := 1, cells := 1, slots := cap, locals := 30 }) (va_Pc [.ref (ad k i), .int (nI cap)] (cS G (tysY Y) lo E ad)) (QVa G lo (fun z => z.2 = tysY Y ∧ z.1 = u2 ad k2 i (z.1 k2 i)) (fun a _ => u2 (u2 E k2 i (some (.inl (Y.1, cap, .inl (fun _ => 0))))) k i (some (.inr (4, [.ref (a k2 i), .int 0]))))) 1 cap (fun q => lo ≤ q) := by
  refine met_of (cc := cX4_init) (maxL := 2) (ret := none) (by decide) rfl (Nat.le_of_ble_eq_true rfl) rfl ?_
  intro p e s m below meth c ls hx hb hr hlk hml hts hown hnm hw hK hl hS
  have i4 : ∀ w ∈ wsX40, w ∈ wsX4_init := by decide +kernel
  have hcap : cap < 2 ^ 31 := by omega
  refine f_aload_n hx hb dX4_init_0 hl 0 rfl rfl ?_
  refine W.objInit hx hb hown (hts (.methodLink RX4 3 objectInit) (by decide +kernel)) (hts (.instanceMethod objectInit) (by decide +kernel)) (hts (.code objectInit ⟨#[0xb1]⟩ 1 none) (by decide +kernel)) rfl (by rw [hml]; exact hl.1) rfl dX4_init_1 (Nat.le_of_ble_eq_true rfl) (Nat.le_of_ble_eq_true rfl) ?_
  refine W.eq (g2 := F0 m 4 ls []) rfl ?_
  refine f_aload_n hx hb dX4_init_4 hl 0 rfl rfl ?_
  refine f_iload_n hx hb dX4_init_5 hl 1 rfl rfl ?_
  refine lv_iconst (v := 0) hx hb dX4_init_6 (by decide) ?_
  refine va_mmax hx hb (hml.trans hl.1.symm) hown (hts (.methodLink RX4 9 Lib.Math.max.name) (by decide +kernel)) (hts (.static Lib.Math.max.name) (by decide +kernel)) (hts (.initialized "java/lang/Math") (by decide +kernel)) (hts (.code Lib.Math.max.name Lib.Math.max.code 2 (some .int)) (by decide +kernel)) (Nat.le_of_ble_eq_true rfl) (Nat.le_of_ble_eq_true rfl) (Nat.zero_le _) (Nat.zero_le _) dX4_init_7 ?_
  refine f_top (y := nI cap) (if_neg (nI_pos hcap)) ?_
  refine e_newa (atype := .int) (N := cap) hx hb (hts (.arrayClass .int) (by decide +kernel)) hw hS k2 i hk2 rfl (nI_pos hcap) (nI_clamp hcap) (by show cap * 4 ≤ 536870912; omega) (Nat.le_of_ble_eq_true rfl) (by show 0 + cap ≤ cap; omega) dX4_init_10 (fun cA H ad1 had hAr hfc hw hS => ?_)
  have hcA : cA = Y.1 := Option.some.inj (hfc.symm.trans (hK.2 0 _ rfl).2)
  subst hcA
  have he1 := fun v => (u2_k (f := E) (k := k2) (i := i) (v := v) hkk ▸ he : u2 E k2 i v k i = _)
  have hai : ad k i = ad1 k i := by rw [had, u2_k hkk]
  refine f_val2 (congrArg Value.ref hai) ?_
  refine e_putF (C := RX4) (T := TX4) (N := 2) (ty := .array .int) hx hb hts i4 tyX4 tyX4_ok nmX4 hown hK hw hS (he1 _) rfl 0 (by decide) (hts (.fieldLink RX4 15 "FerryQuay$Row" "weights" "[I") (by decide +kernel)) rfl hnm rfl (by decide +kernel) rfl rfl (Nat.le_of_ble_eq_true rfl) dX4_init_12 (fun H locs hw hS => ?_)
  refine W.widen (k := 1) (n := cap) (by omega) (by omega) ?_
  exact q_vretA hx hb hr hlk hK hw hS dX4_init_15 ⟨rfl, by show ad1 = u2 ad k2 i (ad1 k2 i); rw [had, u2_self]⟩ rfl
