abbrev rowE (Y : YT) (E : Nat → Nat → Option va_E) (k k2 i cap : Nat) (a : Nat → Nat → Nat) : Nat → Nat → Option va_E := u2 (u2 E k2 i (some (.inl (Y.1, cap, .inl (fun _ => 0))))) k i (some (.inr (4, [.ref (a k2 i), .int 0])))
abbrev ferE (Y : YT) (E : Nat → Nat → Option va_E) (i : Nat) (x : Int32) (a : Nat → Nat → Nat) : Nat → Nat → Option va_E := u2 (rowE Y (u2 (u2 E 6 i (some (.inr (1, [.int x, .null, .int 0])))) 7 i (some (.inr (4, [.null, .int 0])))) 7 8 i 40 a) 6 i (some (.inr (1, [.int x, .ref (a 7 i), .int 0])))
abbrev berE (Y : YT) (E : Nat → Nat → Option va_E) (i : Nat) (x : Int32) (a : Nat → Nat → Nat) : Nat → Nat → Option va_E := u2 (ferE Y (u2 (u2 (rowE Y (u2 E 4 i (some (.inr (4, [.null, .int 0])))) 4 5 i 30 a) 3 i (some (.inr (0, [.ref (a 4 i), .null, .null, .null])))) 6 i (some (.inr (1, [.int 0, .null, .int 0])))) i x a) 3 i (some (.inr (0, [.ref (a 4 i), .ref (a 6 i), .null, .null])))
theorem u2_at {α : Type} {f : Nat → Nat → α} {k i k' i' : Nat} {v : α} (h : k' ≠ k) : u2 f k i v k' i' = f k' i' := congrFun (u2_k h) i'
set_option maxHeartbeats 4000000 in
set_option maxRecDepth 100000 in
theorem c_X1_init (l : Launch) {G : va_G} {Y : YT} {lo : Nat} {ad : Nat → Nat → Nat} {E : Nat → Nat → Option va_E} {i : Nat} (he : E 6 i = some (.inr (1, [.int 0, .null, .int 0]))) (h7 : E 7 i = none) (h8 : E 8 i = none) (x : Int32) : Met l yX1_init wsX1_init ({ frames := 2, cells := 2, slots := 42, locals := 51 }) (va_Pc [.ref (ad 6 i), .int x] (cS G (tysY Y) lo E ad)) (QVa G lo (fun z => z.2 = tysY Y ∧ z.1 = u2 (u2 ad 7 i (z.1 7 i)) 8 i (z.1 8 i)) (fun a _ => ferE Y E i x a)) 2 42 (fun q => lo ≤ q) := by
  refine met_of (cc := cX1_init) (maxL := 2) (ret := none) (by decide) rfl (Nat.le_of_ble_eq_true rfl) rfl ?_
  intro p e s m below meth c ls hx hb hr hlk hml hts hown hnm hw hK hl hS
  have i1 : ∀ w ∈ wsX10, w ∈ wsX1_init := by decide +kernel
  have i4 : ∀ w ∈ wsX40, w ∈ wsX1_init := by decide +kernel
  refine f_aload_n hx hb dX1_init_0 hl 0 rfl rfl ?_
  refine W.objInit hx hb hown (hts (.methodLink RX1 3 objectInit) (by decide +kernel)) (hts (.instanceMethod objectInit) (by decide +kernel)) (hts (.code objectInit ⟨#[0xb1]⟩ 1 none) (by decide +kernel)) rfl (by rw [hml]; exact hl.1) rfl dX1_init_1 (Nat.le_of_ble_eq_true rfl) (Nat.le_of_ble_eq_true rfl) ?_
  refine W.eq (g2 := F0 m 4 ls []) rfl ?_
  refine f_aload_n hx hb dX1_init_4 hl 0 rfl rfl ?_
  refine f_iload_n hx hb dX1_init_5 hl 1 rfl rfl ?_
  refine e_putF (C := RX1) (T := TX1) (N := 3) (ty := .int) hx hb hts i1 tyX1 tyX1_ok nmX1 hown hK hw hS he rfl 0 (by decide) (hts (.fieldLink RX1 9 "FerryQuay$Ferry" "room" "I") (by decide +kernel)) rfl hnm rfl (by decide +kernel) rfl rfl (Nat.le_of_ble_eq_true rfl) dX1_init_6 (fun H locs hw hS => ?_)
  refine f_aload_n hx hb dX1_init_9 hl 0 rfl rfl ?_
  refine e_new (C := RX4) (T := TX4) (N := 2) (ci := 4) (fs := [.null, .int 0]) hx hb hts i4 tyX4 tyX4_ok hown (hts (.classLink RX1 15 RX4) (by decide +kernel)) (hts (.instantiable RX4 2) (by decide +kernel)) (hts (.initialized RX4) (by decide +kernel)) hK hw hS rfl 7 i ((u2_at (by decide)).trans h7) (fun j hj => by rcases (show j = 0 ∨ j = 1 by omega) with rfl | rfl <;> rfl) (Nat.le_of_ble_eq_true rfl) (Nat.le_of_ble_eq_true rfl) dX1_init_10 (fun H ad1 had1 hw hS => ?_)
  refine lv_dup hx hb dX1_init_13 rfl ?_
  refine lv_bipush (v := 40) hx hb dX1_init_14 (by decide) ?_
  refine f_top (y := nI 40) rfl ?_
  refine q_cva (q_runI ⟨hx, hb, hml, hown, hts⟩ (c_X4_init l (E := u2 (u2 E 6 i (some (.inr (1, [.int x, .null, .int 0])))) 7 i (some (.inr (4, [.null, .int 0])))) (k := 7) (i := i) (k2 := 8) (cap := 40) (ad := ad1) u2_self ((u2_at (by decide)).trans ((u2_at (by decide)).trans h8)) (by decide) (by decide)) (cwI 1 hts gX1_init_X4_init rfl rfl rfl (hts (.initialized RX4) (by decide +kernel)) (hts (.methodLink RX1 17 yX4_init) (by decide +kernel)) (hts (.instanceMethod yX4_init) (by decide +kernel)) rfl (by decide +kernel) ⟨Nat.le_of_ble_eq_true rfl, Nat.le_of_ble_eq_true rfl⟩) hK hw rfl hl.1 rfl (by simp [Value.category, va_rf]) dX1_init_16 ⟨Nat.le_of_ble_eq_true rfl, Nat.le_of_ble_eq_true rfl⟩) hS (fun ad2 tys2 H locs hX hK hw hS => ?_)
  obtain ⟨hty, had2⟩ := hX
  dsimp only at hty had2
  subst hty
  have e6 : ad 6 i = ad2 6 i := by rw [had2, had1]; simp [u2, va_up]
  have e7 : ad1 7 i = ad2 7 i := by rw [had2]; simp [u2, va_up]
  refine f_val (congrArg Value.ref e7) ?_
  refine f_val2 (congrArg Value.ref e6) ?_
  refine e_putF (C := RX1) (T := TX1) (N := 3) (ty := .object "FerryQuay$Row") hx hb hts i1 tyX1 tyX1_ok nmX1 hown hK hw hS ((u2_at (by decide)).trans ((u2_at (by decide)).trans ((u2_at (by decide)).trans u2_self))) rfl 1 (by decide) (hts (.fieldLink RX1 20 "FerryQuay$Ferry" "vehicles" "LFerryQuay$Row;") (by decide +kernel)) rfl hnm rfl (by decide +kernel) rfl rfl (Nat.le_of_ble_eq_true rfl) dX1_init_19 (fun H locs hw hS => ?_)
  exact q_vretA hx hb hr hlk hK hw hS dX1_init_22 ⟨rfl, by show ad2 = u2 (u2 ad 7 i (ad2 7 i)) 8 i (ad2 8 i); rw [← e7, had1, u2_self, ← had1, ← had2]⟩ rfl
set_option maxHeartbeats 4000000 in
set_option maxRecDepth 100000 in
theorem c_X0_init (l : Launch) {G : va_G} {Y : YT} {lo : Nat} {ad : Nat → Nat → Nat} {E : Nat → Nat → Option va_E} {i : Nat} (he : E 3 i = some (.inr (0, [.null, .null, .null, .null]))) (h4 : E 4 i = none) (h5 : E 5 i = none) (h6 : E 6 i = none) (h7 : E 7 i = none) (h8 : E 8 i = none) (x : Int32) : Met l yX0_init wsX0_init ({ frames := 3, cells := 5, slots := 77, locals := 72 }) (va_Pc [.ref (ad 3 i), .int x] (cS G (tysY Y) lo E ad)) (QVa G lo (fun z => z.2 = tysY Y ∧ z.1 = u2 (u2 (u2 (u2 (u2 ad 4 i (z.1 4 i)) 5 i (z.1 5 i)) 6 i (z.1 6 i)) 7 i (z.1 7 i)) 8 i (z.1 8 i)) (fun a _ => berE Y E i x a)) 5 77 (fun q => lo ≤ q) := by
  refine met_of (cc := cX0_init) (maxL := 2) (ret := none) (by decide) rfl (Nat.le_of_ble_eq_true rfl) rfl ?_
  intro p e s m below meth c ls hx hb hr hlk hml hts hown hnm hw hK hl hS
  have i0 : ∀ w ∈ wsX00, w ∈ wsX0_init := by decide +kernel
  have i1 : ∀ w ∈ wsX10, w ∈ wsX0_init := by decide +kernel
  have i4 : ∀ w ∈ wsX40, w ∈ wsX0_init := by decide +kernel
  refine f_aload_n hx hb dX0_init_0 hl 0 rfl rfl ?_
  refine W.objInit hx hb hown (hts (.methodLink RX0 3 objectInit) (by decide +kernel)) (hts (.instanceMethod objectInit) (by decide +kernel)) (hts (.code objectInit ⟨#[0xb1]⟩ 1 none) (by decide +kernel)) rfl (by rw [hml]; exact hl.1) rfl dX0_init_1 (Nat.le_of_ble_eq_true rfl) (Nat.le_of_ble_eq_true rfl) ?_
  refine W.eq (g2 := F0 m 4 ls []) rfl ?_
  refine f_aload_n hx hb dX0_init_4 hl 0 rfl rfl ?_
  refine e_new (C := RX4) (T := TX4) (N := 2) (ci := 4) (fs := [.null, .int 0]) hx hb hts i4 tyX4 tyX4_ok hown (hts (.classLink RX0 9 RX4) (by decide +kernel)) (hts (.instantiable RX4 2) (by decide +kernel)) (hts (.initialized RX4) (by decide +kernel)) hK hw hS rfl 4 i h4 (fun j hj => by rcases (show j = 0 ∨ j = 1 by omega) with rfl | rfl <;> rfl) (Nat.le_of_ble_eq_true rfl) (Nat.le_of_ble_eq_true rfl) dX0_init_5 (fun H ad1 had1 hw hS => ?_)
  refine lv_dup hx hb dX0_init_8 rfl ?_
  refine lv_bipush (v := 30) hx hb dX0_init_9 (by decide) ?_
  refine f_top (y := nI 30) rfl ?_
  refine q_cva (q_runI ⟨hx, hb, hml, hown, hts⟩ (c_X4_init l (E := u2 E 4 i (some (.inr (4, [.null, .int 0])))) (k := 4) (i := i) (k2 := 5) (cap := 30) (ad := ad1) u2_self ((u2_at (by decide)).trans h5) (by decide) (by decide)) (cwI 1 hts gX0_init_X4_init rfl rfl rfl (hts (.initialized RX4) (by decide +kernel)) (hts (.methodLink RX0 11 yX4_init) (by decide +kernel)) (hts (.instanceMethod yX4_init) (by decide +kernel)) rfl (by decide +kernel) ⟨Nat.le_of_ble_eq_true rfl, Nat.le_of_ble_eq_true rfl⟩) hK hw rfl hl.1 rfl (by simp [Value.category, va_rf]) dX0_init_11 ⟨Nat.le_of_ble_eq_true rfl, Nat.le_of_ble_eq_true rfl⟩) hS (fun ad2 tys2 H locs hX hK hw hS => ?_)
  obtain ⟨hty, had2⟩ := hX
  dsimp only at hty had2
  subst hty
  have e3 : ad 3 i = ad2 3 i := by rw [had2, had1]; simp [u2, va_up]
  have e4 : ad1 4 i = ad2 4 i := by rw [had2]; simp [u2, va_up]
  refine f_val (congrArg Value.ref e4) ?_
  refine f_val2 (congrArg Value.ref e3) ?_
  refine e_putF (C := RX0) (T := TX0) (N := 4) (ty := .object "FerryQuay$Row") hx hb hts i0 tyX0 tyX0_ok nmX0 hown hK hw hS ((u2_at (by decide)).trans ((u2_at (by decide)).trans ((u2_at (by decide)).trans he))) rfl 0 (by decide) (hts (.fieldLink RX0 14 "FerryQuay$Berth" "lane" "LFerryQuay$Row;") (by decide +kernel)) rfl hnm rfl (by decide +kernel) rfl rfl (Nat.le_of_ble_eq_true rfl) dX0_init_14 (fun H locs hw hS => ?_)
  refine f_aload_n hx hb dX0_init_17 hl 0 rfl rfl ?_
  refine e_new (C := RX1) (T := TX1) (N := 3) (ci := 1) (fs := [.int 0, .null, .int 0]) hx hb hts i1 tyX1 tyX1_ok hown (hts (.classLink RX0 20 RX1) (by decide +kernel)) (hts (.instantiable RX1 3) (by decide +kernel)) (hts (.initialized RX1) (by decide +kernel)) hK hw hS rfl 6 i ((u2_at (by decide)).trans ((u2_at (by decide)).trans ((u2_at (by decide)).trans ((u2_at (by decide)).trans h6)))) (fun j hj => by rcases (show j = 0 ∨ j = 1 ∨ j = 2 by omega) with rfl | rfl | rfl <;> rfl) (Nat.le_of_ble_eq_true rfl) (Nat.le_of_ble_eq_true rfl) dX0_init_18 (fun H ad3 had3 hw hS => ?_)
  refine lv_dup hx hb dX0_init_21 rfl ?_
  refine f_iload_n hx hb dX0_init_22 hl 1 rfl rfl ?_
  refine q_cva (q_runI ⟨hx, hb, hml, hown, hts⟩ (c_X1_init l (E := u2 (u2 (rowE Y (u2 E 4 i (some (.inr (4, [.null, .int 0])))) 4 5 i 30 ad2) 3 i (some (.inr (0, [.ref (ad2 4 i), .null, .null, .null])))) 6 i (some (.inr (1, [.int 0, .null, .int 0])))) (i := i) (ad := ad3) u2_self (by simp [u2, va_up, h7]) (by simp [u2, va_up, h8]) x) (cwI 1 hts gX0_init_X1_init rfl rfl rfl (hts (.initialized RX1) (by decide +kernel)) (hts (.methodLink RX0 22 yX1_init) (by decide +kernel)) (hts (.instanceMethod yX1_init) (by decide +kernel)) rfl (by decide +kernel) ⟨Nat.le_of_ble_eq_true rfl, Nat.le_of_ble_eq_true rfl⟩) hK hw rfl hl.1 rfl (by simp [Value.category, va_rf]) dX0_init_23 ⟨Nat.le_of_ble_eq_true rfl, Nat.le_of_ble_eq_true rfl⟩) hS (fun ad4 tys4 H locs hX hK hw hS => ?_)
  obtain ⟨hty, had4⟩ := hX
  dsimp only at hty had4
  subst hty
  have g3 : ad 3 i = ad4 3 i := by rw [had4, had3]; simp [u2, va_up, e3]
  have g4 : ad2 4 i = ad4 4 i := by rw [had4, had3]; simp [u2, va_up]
  have g5 : ad2 5 i = ad4 5 i := by rw [had4, had3]; simp [u2, va_up]
  have g6 : ad3 6 i = ad4 6 i := by rw [had4]; simp [u2, va_up]
  dsimp only [rowE, ferE] at hw
  rw [g4, g5] at hw
  refine f_val (congrArg Value.ref g6) ?_
  refine f_val2 (congrArg Value.ref g3) ?_
  refine e_put (C := RX0) (T := TX0) (N := 4) (ty := .object "FerryQuay$Ferry") hx hb hts i0 tyX0 tyX0_ok nmX0 hown hK hw hS ((u2_at (by decide)).trans ((u2_at (by decide)).trans ((u2_at (by decide)).trans ((u2_at (by decide)).trans ((u2_at (by decide)).trans ((u2_at (by decide)).trans u2_self)))))) rfl 1 (by decide) (hts (.fieldLink RX0 23 "FerryQuay$Berth" "ferry" "LFerryQuay$Ferry;") (by decide +kernel)) rfl (by decide +kernel) rfl rfl (Nat.le_of_ble_eq_true rfl) dX0_init_26 (fun H locs hw hS => ?_)
  have hz : ad4 = u2 (u2 (u2 (u2 (u2 ad 4 i (ad4 4 i)) 5 i (ad4 5 i)) 6 i (ad4 6 i)) 7 i (ad4 7 i)) 8 i (ad4 8 i) := by
    have hq : ad3 = u2 (u2 (u2 ad 4 i (ad4 4 i)) 5 i (ad4 5 i)) 6 i (ad4 6 i) := by
      have hr : ad2 = u2 (u2 ad 4 i (ad4 4 i)) 5 i (ad4 5 i) := by
        rw [← g4, ← g5, ← e4, had1, u2_self, ← had1]
        exact had2
      rw [← hr, ← g6, had3, u2_self]
    rw [← hq]
    exact had4
  exact q_vretA hx hb hr hlk hK hw hS dX0_init_29 ⟨rfl, hz⟩ rfl
