def QIb (G : va_G) (tys : List (ClassId × FieldType)) (lo : Nat) (ad : Nat → Nat → Nat) (r : Int32) (F : (Nat → Nat → Nat) → Nat → Nat → Option va_E) : Array Value → State → Outcome → State → Prop := va_Qi (fun (x : Int32) (a : Nat → Nat → Nat) => x = r ∧ a 0 = ad 0) (fun a t => cS G tys lo (F a) a t) (fun q => lo ≤ q)
section QB
variable {p : Program} {l : Launch} {e : Env} {R : Room} {s : State} {m : MethodId} {args : Array Value} {below : List Frame} {meth : Method} {c : Code} {H : Heap} {locs : List Loc} {cells slots : Nat} {Q : State → Prop}
variable {cc : ByteArray} {pc : Nat} {ls : Array Slot} {rest st0 : List Value} {G : va_G} {lo : Nat} {E : Nat → Nat → Option va_E} {ad a : Nat → Nat → Nat} {H0 : Heap} {tys : List (ClassId × FieldType)} {mc ms : Nat}
theorem q_iretB (hx : p.tables.exec = Jvm.exec) (hb : c.code = cc) (hr : meth.sig.returnType = some .int) (hlk : meth.locks = false) (hK : va_K G vwCl tys s) (hw : wo G lo E a H) (hS : va_S (fun q => lo ≤ q) s.heap H locs) {v r0 : Int32} {F : (Nat → Nat → Nat) → Nat → Nat → Option va_E} (hdg : decode cc pc = .ok (.ireturn, 1)) (ha : a 0 = ad 0) (hv : v = r0) (hE : E = F a) : W p l e R s m args below meth c H locs cells slots (MQ below (QIb G tys lo ad r0 F) args s cells slots (fun q => lo ≤ q)) (F0 m pc ls [.int v]) := by
  subst hv hE
  exact W.iret hx hb hr (fun t ht hW => ⟨⟨v, a, rfl, ⟨rfl, ha⟩, by rw [ht]; exact hw, va_K.moved hW.alike hK⟩, hS.F ht⟩) hS.2.2 hdg
theorem q_cib {ar : Array Value} {r0 : Int32} {F : (Nat → Nat → Nat) → Nat → Nat → Option va_E} (hr : va_Run p l e R s m args below meth c H locs cells slots mc ms (F0 m pc ls st0) rest (QIb G tys lo ad r0 F ar) (fun q => lo ≤ q)) (hS : va_S (fun q => lo ≤ q) H0 H locs) (kk : ∀ (ad1 : Nat → Nat → Nat) (H1 : Heap) (locs1 : List Loc), ad1 0 = ad 0 → wo G lo (F ad1) ad1 H1 → va_S (fun q => lo ≤ q) H0 H1 locs1 → W p l e R s m args below meth c H1 locs1 (cells + mc) (slots + ms) Q (F0 m (pc + 3) ls (.int r0 :: rest))) : W p l e R s m args below meth c H locs cells slots Q (F0 m pc ls st0) :=
  va_calli hr hS (fun q _ h => h) (fun q h => h) (fun r u t H1 locs1 ht hvm hp hB hz hk hS1 => by obtain ⟨hp, ha⟩ := hp; subst hp; exact kk u H1 locs1 ha (ht ▸ hB.1) hS1)
end QB
theorem f_val3 {p : Program} {l : Launch} {e : Env} {R : Room} {s : State} {m : MethodId} {args : Array Value} {below : List Frame} {meth : Method} {c : Code} {H : Heap} {locs : List Loc} {cells slots : Nat} {Q : State → Prop} {pc : Nat} {ls : Array Slot} {rest : List Value} {v v2 x y : Value} (h : x = y) (kk : W p l e R s m args below meth c H locs cells slots Q (F0 m pc ls (v :: v2 :: y :: rest))) : W p l e R s m args below meth c H locs cells slots Q (F0 m pc ls (v :: v2 :: x :: rest)) := h ▸ kk
set_option maxHeartbeats 4000000 in
set_option maxRecDepth 100000 in
theorem c_X5_gate (l : Launch) {G : va_G} {Y : YT} {lo : Nat} {ad : Nat → Nat → Nat} {ng nr nb : Nat} {z u : St} (hI : Inv z ng nr nb)  : Met l yX5_gate wsX5_gate ({ frames := 2, cells := 1, slots := 4, locals := 51 }) (va_Pc [.ref (ad 0 0)] (cS G (tysY Y) lo (Ew Y ng nr nb z u ad) ad)) (QIb G (tysY Y) lo ad (sp_gate ng z).1 (fun a => Ew Y (nx_gate ng) nr nb (sp_gate ng z).2 u a)) 1 4 (fun q => lo ≤ q) := by
  refine met_of (cc := cX5_gate) (maxL := 2) (ret := (some .int)) (by decide) rfl (Nat.le_of_ble_eq_true rfl) rfl ?_
  intro p e s m below meth c ls hx hb hr hlk hml hts hown hnm hw hK hl hS
  have i2 : ∀ w ∈ wsX20, w ∈ wsX5_gate := by decide +kernel
  have i5 : ∀ w ∈ wsX50, w ∈ wsX5_gate := by decide +kernel
  have hng := hI.mg
  have hnr := hI.mr
  have hnb := hI.mb
  by_cases hq : ng = 16
  · refine f_aload_n hx hb dX5_gate_0 hl 0 rfl rfl ?_
    refine e_get (C := RX5) (T := TX5) (N := 10) hx hb hts i5 hown hK hw Ew_fq rfl 3 (by decide) (hts (.fieldLink RX5 27 "FerryQuay" "gateCount" "I") (by decide +kernel)) rfl dX5_gate_1 ?_
    refine f_top hI.s0 ?_
    refine lv_bipush (v := 16) hx hb dX5_gate_4 (by decide) ?_
    refine lv_icmp_lt (tgt := 12) hx hb dX5_gate_6 (by decide) (fun c6 => absurd c6 (by rw [hq]; decide)) (fun c6 => ?_)
    refine lv_bipush (v := (-3)) hx hb dX5_gate_9 (by decide) ?_
    refine W.widen (k := 1) (n := 4) (by decide) (by decide) ?_
    exact q_iretB hx hb hr hlk hK hw hS dX5_gate_11 rfl (by rw [sp_gate, if_pos hq]) (by rw [nx_gate, if_pos hq, sp_gate, if_pos hq])
  · refine f_aload_n hx hb dX5_gate_0 hl 0 rfl rfl ?_
    refine e_get (C := RX5) (T := TX5) (N := 10) hx hb hts i5 hown hK hw Ew_fq rfl 3 (by decide) (hts (.fieldLink RX5 27 "FerryQuay" "gateCount" "I") (by decide +kernel)) rfl dX5_gate_1 ?_
    refine f_top hI.s0 ?_
    refine lv_bipush (v := 16) hx hb dX5_gate_4 (by decide) ?_
    refine lv_icmp_lt (tgt := 12) hx hb dX5_gate_6 (by decide) (fun c6 => ?_) (fun c6 => absurd (nI_lt (b := 16) (by omega) (by decide)) c6)
    refine f_aload_n hx hb dX5_gate_12 hl 0 rfl rfl ?_
    refine e_get (C := RX5) (T := TX5) (N := 10) hx hb hts i5 hown hK hw Ew_fq rfl 3 (by decide) (hts (.fieldLink RX5 27 "FerryQuay" "gateCount" "I") (by decide +kernel)) rfl dX5_gate_13 ?_
    refine f_top hI.s0 ?_
    refine f_istore_n hx hb dX5_gate_16 hl 1 rfl (by decide) (fun ls hl => ?_)
    refine f_aload_n hx hb dX5_gate_17 hl 0 rfl rfl ?_
    refine e_get (C := RX5) (T := TX5) (N := 10) hx hb hts i5 hown hK hw Ew_fq rfl 0 (by decide) (hts (.fieldLink RX5 11 "FerryQuay" "gates" "[LFerryQuay$Gate;") (by decide +kernel)) rfl dX5_gate_18 ?_
    refine f_iload_n hx hb dX5_gate_21 hl 1 rfl rfl ?_
    refine e_new (C := RX2) (T := TX2) (N := 4) (ci := 2) (fs := [.int 0, .int 0, .int 0, .int 0]) hx hb hts i2 tyX2 tyX2_ok hown (hts (.classLink RX5 9 RX2) (by decide +kernel)) (hts (.instantiable RX2 4) (by decide +kernel)) (hts (.initialized RX2) (by decide +kernel)) hK hw hS rfl 1 ng (if_neg (Nat.lt_irrefl _)) (fun j hj => by rcases (show j = 0 ∨ j = 1 ∨ j = 2 ∨ j = 3 by omega) with rfl | rfl | rfl | rfl <;> rfl) (Nat.le_of_ble_eq_true rfl) (Nat.le_of_ble_eq_true rfl) dX5_gate_22 (fun H ad1 had hw hS => ?_)
    refine lv_dup hx hb dX5_gate_25 rfl ?_
    refine f_iload_n hx hb dX5_gate_26 hl 1 rfl rfl ?_
    refine q_cv (q_runI ⟨hx, hb, hml, hown, hts⟩ (c_X2_init l (E := u2 (Ew Y ng nr nb z u ad) 1 ng (some (.inr (2, [.int 0, .int 0, .int 0, .int 0])))) (k := 1) (i := ng) (ad := ad1) u2_self (nI ng)) (cwI 1 hts gX5_gate_X2_init rfl rfl rfl (hts (.initialized RX2) (by decide +kernel)) (hts (.methodLink RX5 31 yX2_init) (by decide +kernel)) (hts (.instanceMethod yX2_init) (by decide +kernel)) rfl (by decide +kernel) ⟨Nat.le_of_ble_eq_true rfl, Nat.le_of_ble_eq_true rfl⟩) hK hw rfl hl.1 rfl (by simp [Value.category, va_rf]) dX5_gate_27 ⟨Nat.le_of_ble_eq_true rfl, Nat.le_of_ble_eq_true rfl⟩) hS (fun H locs hw hS => ?_)
    have e01 : ad 0 1 = ad1 0 1 := by rw [had, u2_at (by decide)]
    refine f_val3 (congrArg Value.ref e01) ?_
    refine e_aastN hx hb hK hw hS 2 2 ((u2_at (by decide)).trans ((u2_at (by decide)).trans Ew_ga)) rfl u2_self rfl rfl (by omega) (by decide) dX5_gate_30 (fun H locs hw hS => ?_)
    refine f_aload_n hx hb dX5_gate_31 hl 0 rfl rfl ?_
    have e00 : ad 0 0 = ad1 0 0 := by rw [had, u2_at (by decide)]
    refine f_val (congrArg Value.ref e00) ?_
    refine lv_dup hx hb dX5_gate_32 rfl ?_
    refine e_get (C := RX5) (T := TX5) (N := 10) hx hb hts i5 hown hK hw ((u2_i (by decide)).trans ((u2_at (by decide)).trans ((u2_at (by decide)).trans Ew_fq))) rfl 3 (by decide) (hts (.fieldLink RX5 27 "FerryQuay" "gateCount" "I") (by decide +kernel)) rfl dX5_gate_33 ?_
    refine lv_iconst (v := 1) hx hb dX5_gate_36 (by decide) ?_
    refine lv_iadd hx hb dX5_gate_37 ?_
    refine f_top ((congrArg (fun q => q + 1) hI.s0).trans (nI_1 ng)) ?_
    refine e_put (C := RX5) (T := TX5) (N := 10) (ty := .int) hx hb hts i5 tyX5 tyX5_ok nmX5 hown hK hw hS ((u2_i (by decide)).trans ((u2_at (by decide)).trans ((u2_at (by decide)).trans Ew_fq))) rfl 3 (by decide) (hts (.fieldLink RX5 27 "FerryQuay" "gateCount" "I") (by decide +kernel)) rfl (by decide +kernel) rfl rfl (Nat.le_of_ble_eq_true rfl) dX5_gate_38 (fun H locs hw hS => ?_)
    refine f_iload_n hx hb dX5_gate_41 hl 1 rfl rfl ?_
    exact q_iretB hx hb hr hlk hK hw hS dX5_gate_42 (by rw [had]; exact u2_k (by decide)) (by rw [sp_gate, if_neg hq]) (by rw [nx_gate, if_neg hq, sp_gate, if_neg hq]; exact Ea_gate hI had)
set_option maxHeartbeats 4000000 in
set_option maxRecDepth 100000 in
theorem c_X5_ramp (l : Launch) {G : va_G} {Y : YT} {lo : Nat} {ad : Nat → Nat → Nat} {ng nr nb : Nat} {z u : St} (hI : Inv z ng nr nb) (x : Int32) : Met l yX5_ramp wsX5_ramp ({ frames := 2, cells := 1, slots := 4, locals := 52 }) (va_Pc [.ref (ad 0 0), .int x] (cS G (tysY Y) lo (Ew Y ng nr nb z u ad) ad)) (QIb G (tysY Y) lo ad (sp_ramp nr z x).1 (fun a => Ew Y ng (nx_ramp nr x) nb (sp_ramp nr z x).2 u a)) 1 4 (fun q => lo ≤ q) := by
  refine met_of (cc := cX5_ramp) (maxL := 3) (ret := (some .int)) (by decide) rfl (Nat.le_of_ble_eq_true rfl) rfl ?_
  intro p e s m below meth c ls hx hb hr hlk hml hts hown hnm hw hK hl hS
  have i3 : ∀ w ∈ wsX30, w ∈ wsX5_ramp := by decide +kernel
  have i5 : ∀ w ∈ wsX50, w ∈ wsX5_ramp := by decide +kernel
  have hng := hI.mg
  have hnr := hI.mr
  have hnb := hI.mb
  by_cases h1 : x < 1
  · refine f_iload_n hx hb dX5_ramp_0 hl 1 rfl rfl ?_
    refine lv_iconst (v := 1) hx hb dX5_ramp_1 (by decide) ?_
    refine lv_sipush (v := 1000) hx hb dX5_ramp_2 (by decide) ?_
    refine q_ci (q_runS ⟨hx, hb, hml, hown, hts⟩ (c_X5_isWithin l x 1 1000) (va_cwS 3 hts gX5_ramp_X5_isWithin rfl rfl rfl (by decide +kernel) ⟨Nat.le_of_ble_eq_true rfl, Nat.le_of_ble_eq_true rfl⟩) hK hw rfl hl.1 rfl (by simp [Value.category, va_rf]) dX5_ramp_5 ⟨Nat.le_of_ble_eq_true rfl, Nat.le_of_ble_eq_true rfl⟩) hS (fun H locs hw hS => ?_)
    refine f_top (y := 0) (if_pos h1) ?_
    refine lv_if_ne (tgt := 14) hx hb dX5_ramp_8 (by decide) (fun c8 => absurd (by decide) c8) (fun c8 => ?_)
    refine lv_bipush (v := (-2)) hx hb dX5_ramp_11 (by decide) ?_
    refine W.widen (k := 1) (n := 4) (by decide) (by decide) ?_
    exact q_iretB hx hb hr hlk hK hw hS dX5_ramp_13 rfl (by rw [sp_ramp, if_pos h1]) (by rw [nx_ramp, if_pos h1, sp_ramp, if_pos h1])
  · by_cases h2 : 1000 < x
    · refine f_iload_n hx hb dX5_ramp_0 hl 1 rfl rfl ?_
      refine lv_iconst (v := 1) hx hb dX5_ramp_1 (by decide) ?_
      refine lv_sipush (v := 1000) hx hb dX5_ramp_2 (by decide) ?_
      refine q_ci (q_runS ⟨hx, hb, hml, hown, hts⟩ (c_X5_isWithin l x 1 1000) (va_cwS 3 hts gX5_ramp_X5_isWithin rfl rfl rfl (by decide +kernel) ⟨Nat.le_of_ble_eq_true rfl, Nat.le_of_ble_eq_true rfl⟩) hK hw rfl hl.1 rfl (by simp [Value.category, va_rf]) dX5_ramp_5 ⟨Nat.le_of_ble_eq_true rfl, Nat.le_of_ble_eq_true rfl⟩) hS (fun H locs hw hS => ?_)
      refine f_top (y := 0) (Eq.trans (if_neg h1) (if_pos h2)) ?_
      refine lv_if_ne (tgt := 14) hx hb dX5_ramp_8 (by decide) (fun c8 => absurd (by decide) c8) (fun c8 => ?_)
      refine lv_bipush (v := (-2)) hx hb dX5_ramp_11 (by decide) ?_
      refine W.widen (k := 1) (n := 4) (by decide) (by decide) ?_
      exact q_iretB hx hb hr hlk hK hw hS dX5_ramp_13 rfl (by rw [sp_ramp, if_neg h1, if_pos h2]) (by rw [nx_ramp, if_neg h1, if_pos h2, sp_ramp, if_neg h1, if_pos h2])
    · by_cases hq : nr = 16
      · refine f_iload_n hx hb dX5_ramp_0 hl 1 rfl rfl ?_
        refine lv_iconst (v := 1) hx hb dX5_ramp_1 (by decide) ?_
        refine lv_sipush (v := 1000) hx hb dX5_ramp_2 (by decide) ?_
        refine q_ci (q_runS ⟨hx, hb, hml, hown, hts⟩ (c_X5_isWithin l x 1 1000) (va_cwS 3 hts gX5_ramp_X5_isWithin rfl rfl rfl (by decide +kernel) ⟨Nat.le_of_ble_eq_true rfl, Nat.le_of_ble_eq_true rfl⟩) hK hw rfl hl.1 rfl (by simp [Value.category, va_rf]) dX5_ramp_5 ⟨Nat.le_of_ble_eq_true rfl, Nat.le_of_ble_eq_true rfl⟩) hS (fun H locs hw hS => ?_)
        refine f_top (y := 1) (Eq.trans (if_neg h1) (if_neg h2)) ?_
        refine lv_if_ne (tgt := 14) hx hb dX5_ramp_8 (by decide) (fun c8 => ?_) (fun c8 => absurd c8 (by decide))
        refine f_aload_n hx hb dX5_ramp_14 hl 0 rfl rfl ?_
        refine e_get (C := RX5) (T := TX5) (N := 10) hx hb hts i5 hown hK hw Ew_fq rfl 4 (by decide) (hts (.fieldLink RX5 38 "FerryQuay" "rampCount" "I") (by decide +kernel)) rfl dX5_ramp_15 ?_
        refine f_top hI.s1 ?_
        refine lv_bipush (v := 16) hx hb dX5_ramp_18 (by decide) ?_
        refine lv_icmp_lt (tgt := 26) hx hb dX5_ramp_20 (by decide) (fun c20 => absurd c20 (by rw [hq]; decide)) (fun c20 => ?_)
        refine lv_bipush (v := (-3)) hx hb dX5_ramp_23 (by decide) ?_
        refine W.widen (k := 1) (n := 4) (by decide) (by decide) ?_
        exact q_iretB hx hb hr hlk hK hw hS dX5_ramp_25 rfl (by rw [sp_ramp, if_neg h1, if_neg h2, if_pos hq]) (by rw [nx_ramp, if_neg h1, if_neg h2, if_pos hq, sp_ramp, if_neg h1, if_neg h2, if_pos hq])
      · refine f_iload_n hx hb dX5_ramp_0 hl 1 rfl rfl ?_
        refine lv_iconst (v := 1) hx hb dX5_ramp_1 (by decide) ?_
        refine lv_sipush (v := 1000) hx hb dX5_ramp_2 (by decide) ?_
        refine q_ci (q_runS ⟨hx, hb, hml, hown, hts⟩ (c_X5_isWithin l x 1 1000) (va_cwS 3 hts gX5_ramp_X5_isWithin rfl rfl rfl (by decide +kernel) ⟨Nat.le_of_ble_eq_true rfl, Nat.le_of_ble_eq_true rfl⟩) hK hw rfl hl.1 rfl (by simp [Value.category, va_rf]) dX5_ramp_5 ⟨Nat.le_of_ble_eq_true rfl, Nat.le_of_ble_eq_true rfl⟩) hS (fun H locs hw hS => ?_)
        refine f_top (y := 1) (Eq.trans (if_neg h1) (if_neg h2)) ?_
        refine lv_if_ne (tgt := 14) hx hb dX5_ramp_8 (by decide) (fun c8 => ?_) (fun c8 => absurd c8 (by decide))
        refine f_aload_n hx hb dX5_ramp_14 hl 0 rfl rfl ?_
        refine e_get (C := RX5) (T := TX5) (N := 10) hx hb hts i5 hown hK hw Ew_fq rfl 4 (by decide) (hts (.fieldLink RX5 38 "FerryQuay" "rampCount" "I") (by decide +kernel)) rfl dX5_ramp_15 ?_
        refine f_top hI.s1 ?_
        refine lv_bipush (v := 16) hx hb dX5_ramp_18 (by decide) ?_
        refine lv_icmp_lt (tgt := 26) hx hb dX5_ramp_20 (by decide) (fun c20 => ?_) (fun c20 => absurd (nI_lt (b := 16) (by omega) (by decide)) c20)
        refine f_aload_n hx hb dX5_ramp_26 hl 0 rfl rfl ?_
        refine e_get (C := RX5) (T := TX5) (N := 10) hx hb hts i5 hown hK hw Ew_fq rfl 4 (by decide) (hts (.fieldLink RX5 38 "FerryQuay" "rampCount" "I") (by decide +kernel)) rfl dX5_ramp_27 ?_
        refine f_top hI.s1 ?_
        refine f_istore_n hx hb dX5_ramp_30 hl 2 rfl (by decide) (fun ls hl => ?_)
        refine f_aload_n hx hb dX5_ramp_31 hl 0 rfl rfl ?_
        refine e_get (C := RX5) (T := TX5) (N := 10) hx hb hts i5 hown hK hw Ew_fq rfl 1 (by decide) (hts (.fieldLink RX5 17 "FerryQuay" "ramps" "[LFerryQuay$Ramp;") (by decide +kernel)) rfl dX5_ramp_32 ?_
        refine f_iload_n hx hb dX5_ramp_35 hl 2 rfl rfl ?_
        refine e_new (C := RX3) (T := TX3) (N := 4) (ci := 3) (fs := [.int 0, .int 0, .int 0, .int 0]) hx hb hts i3 tyX3 tyX3_ok hown (hts (.classLink RX5 15 RX3) (by decide +kernel)) (hts (.instantiable RX3 4) (by decide +kernel)) (hts (.initialized RX3) (by decide +kernel)) hK hw hS rfl 2 nr (if_neg (Nat.lt_irrefl _)) (fun j hj => by rcases (show j = 0 ∨ j = 1 ∨ j = 2 ∨ j = 3 by omega) with rfl | rfl | rfl | rfl <;> rfl) (Nat.le_of_ble_eq_true rfl) (Nat.le_of_ble_eq_true rfl) dX5_ramp_36 (fun H ad1 had hw hS => ?_)
        refine lv_dup hx hb dX5_ramp_39 rfl ?_
        refine f_iload_n hx hb dX5_ramp_40 hl 2 rfl rfl ?_
        refine f_iload_n hx hb dX5_ramp_41 hl 1 rfl rfl ?_
        refine q_cv (q_runI ⟨hx, hb, hml, hown, hts⟩ (c_X3_init l (E := u2 (Ew Y ng nr nb z u ad) 2 nr (some (.inr (3, [.int 0, .int 0, .int 0, .int 0])))) (k := 2) (i := nr) (ad := ad1) u2_self (nI nr) x) (cwI 2 hts gX5_ramp_X3_init rfl rfl rfl (hts (.initialized RX3) (by decide +kernel)) (hts (.methodLink RX5 41 yX3_init) (by decide +kernel)) (hts (.instanceMethod yX3_init) (by decide +kernel)) rfl (by decide +kernel) ⟨Nat.le_of_ble_eq_true rfl, Nat.le_of_ble_eq_true rfl⟩) hK hw rfl hl.1 rfl (by simp [Value.category, va_rf]) dX5_ramp_42 ⟨Nat.le_of_ble_eq_true rfl, Nat.le_of_ble_eq_true rfl⟩) hS (fun H locs hw hS => ?_)
        have e01 : ad 0 2 = ad1 0 2 := by rw [had, u2_at (by decide)]
        refine f_val3 (congrArg Value.ref e01) ?_
        refine e_aastN hx hb hK hw hS 3 3 ((u2_at (by decide)).trans ((u2_at (by decide)).trans Ew_ra)) rfl u2_self rfl rfl (by omega) (by decide) dX5_ramp_45 (fun H locs hw hS => ?_)
        refine f_aload_n hx hb dX5_ramp_46 hl 0 rfl rfl ?_
        have e00 : ad 0 0 = ad1 0 0 := by rw [had, u2_at (by decide)]
        refine f_val (congrArg Value.ref e00) ?_
        refine lv_dup hx hb dX5_ramp_47 rfl ?_
        refine e_get (C := RX5) (T := TX5) (N := 10) hx hb hts i5 hown hK hw ((u2_i (by decide)).trans ((u2_at (by decide)).trans ((u2_at (by decide)).trans Ew_fq))) rfl 4 (by decide) (hts (.fieldLink RX5 38 "FerryQuay" "rampCount" "I") (by decide +kernel)) rfl dX5_ramp_48 ?_
        refine lv_iconst (v := 1) hx hb dX5_ramp_51 (by decide) ?_
        refine lv_iadd hx hb dX5_ramp_52 ?_
        refine f_top ((congrArg (fun q => q + 1) hI.s1).trans (nI_1 nr)) ?_
        refine e_put (C := RX5) (T := TX5) (N := 10) (ty := .int) hx hb hts i5 tyX5 tyX5_ok nmX5 hown hK hw hS ((u2_i (by decide)).trans ((u2_at (by decide)).trans ((u2_at (by decide)).trans Ew_fq))) rfl 4 (by decide) (hts (.fieldLink RX5 38 "FerryQuay" "rampCount" "I") (by decide +kernel)) rfl (by decide +kernel) rfl rfl (Nat.le_of_ble_eq_true rfl) dX5_ramp_53 (fun H locs hw hS => ?_)
        refine f_iload_n hx hb dX5_ramp_56 hl 2 rfl rfl ?_
        exact q_iretB hx hb hr hlk hK hw hS dX5_ramp_57 (by rw [had]; exact u2_k (by decide)) (by rw [sp_ramp, if_neg h1, if_neg h2, if_neg hq]) (by rw [nx_ramp, if_neg h1, if_neg h2, if_neg hq, sp_ramp, if_neg h1, if_neg h2, if_neg hq]; exact Ea_ramp hI had)
set_option maxHeartbeats 4000000 in
set_option maxRecDepth 100000 in
theorem c_X5_berth (l : Launch) {G : va_G} {Y : YT} {lo : Nat} {ad : Nat → Nat → Nat} {ng nr nb : Nat} {z u : St} (hI : Inv z ng nr nb) (x : Int32) : Met l yX5_berth wsX5_berth ({ frames := 4, cells := 6, slots := 81, locals := 93 }) (va_Pc [.ref (ad 0 0), .int x] (cS G (tysY Y) lo (Ew Y ng nr nb z u ad) ad)) (QIb G (tysY Y) lo ad (sp_berth nb z x).1 (fun a => Ew Y ng nr (nx_berth nb x) (sp_berth nb z x).2 u a)) 6 81 (fun q => lo ≤ q) := by
  refine met_of (cc := cX5_berth) (maxL := 3) (ret := (some .int)) (by decide) rfl (Nat.le_of_ble_eq_true rfl) rfl ?_
  intro p e s m below meth c ls hx hb hr hlk hml hts hown hnm hw hK hl hS
  have i0 : ∀ w ∈ wsX00, w ∈ wsX5_berth := by decide +kernel
  have i5 : ∀ w ∈ wsX50, w ∈ wsX5_berth := by decide +kernel
  have hng := hI.mg
  have hnr := hI.mr
  have hnb := hI.mb
  by_cases h1 : x < 0
  · refine f_iload_n hx hb dX5_berth_0 hl 1 rfl rfl ?_
    refine lv_iconst (v := 0) hx hb dX5_berth_1 (by decide) ?_
    refine lv_sipush (v := 10000) hx hb dX5_berth_2 (by decide) ?_
    refine q_ci (q_runS ⟨hx, hb, hml, hown, hts⟩ (c_X5_isWithin l x 0 10000) (va_cwS 3 hts gX5_berth_X5_isWithin rfl rfl rfl (by decide +kernel) ⟨Nat.le_of_ble_eq_true rfl, Nat.le_of_ble_eq_true rfl⟩) hK hw rfl hl.1 rfl (by simp [Value.category, va_rf]) dX5_berth_5 ⟨Nat.le_of_ble_eq_true rfl, Nat.le_of_ble_eq_true rfl⟩) hS (fun H locs hw hS => ?_)
    refine f_top (y := 0) (if_pos h1) ?_
    refine lv_if_ne (tgt := 14) hx hb dX5_berth_8 (by decide) (fun c8 => absurd (by decide) c8) (fun c8 => ?_)
    refine lv_bipush (v := (-2)) hx hb dX5_berth_11 (by decide) ?_
    refine W.widen (k := 6) (n := 81) (by decide) (by decide) ?_
    exact q_iretB hx hb hr hlk hK hw hS dX5_berth_13 rfl (by rw [sp_berth, if_pos h1]) (by rw [nx_berth, if_pos h1, sp_berth, if_pos h1])
  · by_cases h2 : 10000 < x
    · refine f_iload_n hx hb dX5_berth_0 hl 1 rfl rfl ?_
      refine lv_iconst (v := 0) hx hb dX5_berth_1 (by decide) ?_
      refine lv_sipush (v := 10000) hx hb dX5_berth_2 (by decide) ?_
      refine q_ci (q_runS ⟨hx, hb, hml, hown, hts⟩ (c_X5_isWithin l x 0 10000) (va_cwS 3 hts gX5_berth_X5_isWithin rfl rfl rfl (by decide +kernel) ⟨Nat.le_of_ble_eq_true rfl, Nat.le_of_ble_eq_true rfl⟩) hK hw rfl hl.1 rfl (by simp [Value.category, va_rf]) dX5_berth_5 ⟨Nat.le_of_ble_eq_true rfl, Nat.le_of_ble_eq_true rfl⟩) hS (fun H locs hw hS => ?_)
      refine f_top (y := 0) (Eq.trans (if_neg h1) (if_pos h2)) ?_
      refine lv_if_ne (tgt := 14) hx hb dX5_berth_8 (by decide) (fun c8 => absurd (by decide) c8) (fun c8 => ?_)
      refine lv_bipush (v := (-2)) hx hb dX5_berth_11 (by decide) ?_
      refine W.widen (k := 6) (n := 81) (by decide) (by decide) ?_
      exact q_iretB hx hb hr hlk hK hw hS dX5_berth_13 rfl (by rw [sp_berth, if_neg h1, if_pos h2]) (by rw [nx_berth, if_neg h1, if_pos h2, sp_berth, if_neg h1, if_pos h2])
    · by_cases hq : nb = 8
      · refine f_iload_n hx hb dX5_berth_0 hl 1 rfl rfl ?_
        refine lv_iconst (v := 0) hx hb dX5_berth_1 (by decide) ?_
        refine lv_sipush (v := 10000) hx hb dX5_berth_2 (by decide) ?_
        refine q_ci (q_runS ⟨hx, hb, hml, hown, hts⟩ (c_X5_isWithin l x 0 10000) (va_cwS 3 hts gX5_berth_X5_isWithin rfl rfl rfl (by decide +kernel) ⟨Nat.le_of_ble_eq_true rfl, Nat.le_of_ble_eq_true rfl⟩) hK hw rfl hl.1 rfl (by simp [Value.category, va_rf]) dX5_berth_5 ⟨Nat.le_of_ble_eq_true rfl, Nat.le_of_ble_eq_true rfl⟩) hS (fun H locs hw hS => ?_)
        refine f_top (y := 1) (Eq.trans (if_neg h1) (if_neg h2)) ?_
        refine lv_if_ne (tgt := 14) hx hb dX5_berth_8 (by decide) (fun c8 => ?_) (fun c8 => absurd c8 (by decide))
        refine f_aload_n hx hb dX5_berth_14 hl 0 rfl rfl ?_
        refine e_get (C := RX5) (T := TX5) (N := 10) hx hb hts i5 hown hK hw Ew_fq rfl 5 (by decide) (hts (.fieldLink RX5 44 "FerryQuay" "berthCount" "I") (by decide +kernel)) rfl dX5_berth_15 ?_
        refine f_top hI.s2 ?_
        refine lv_bipush (v := 8) hx hb dX5_berth_18 (by decide) ?_
        refine lv_icmp_lt (tgt := 26) hx hb dX5_berth_20 (by decide) (fun c20 => absurd c20 (by rw [hq]; decide)) (fun c20 => ?_)
        refine lv_bipush (v := (-3)) hx hb dX5_berth_23 (by decide) ?_
        refine W.widen (k := 6) (n := 81) (by decide) (by decide) ?_
        exact q_iretB hx hb hr hlk hK hw hS dX5_berth_25 rfl (by rw [sp_berth, if_neg h1, if_neg h2, if_pos hq]) (by rw [nx_berth, if_neg h1, if_neg h2, if_pos hq, sp_berth, if_neg h1, if_neg h2, if_pos hq])
      · refine f_iload_n hx hb dX5_berth_0 hl 1 rfl rfl ?_
        refine lv_iconst (v := 0) hx hb dX5_berth_1 (by decide) ?_
        refine lv_sipush (v := 10000) hx hb dX5_berth_2 (by decide) ?_
        refine q_ci (q_runS ⟨hx, hb, hml, hown, hts⟩ (c_X5_isWithin l x 0 10000) (va_cwS 3 hts gX5_berth_X5_isWithin rfl rfl rfl (by decide +kernel) ⟨Nat.le_of_ble_eq_true rfl, Nat.le_of_ble_eq_true rfl⟩) hK hw rfl hl.1 rfl (by simp [Value.category, va_rf]) dX5_berth_5 ⟨Nat.le_of_ble_eq_true rfl, Nat.le_of_ble_eq_true rfl⟩) hS (fun H locs hw hS => ?_)
        refine f_top (y := 1) (Eq.trans (if_neg h1) (if_neg h2)) ?_
        refine lv_if_ne (tgt := 14) hx hb dX5_berth_8 (by decide) (fun c8 => ?_) (fun c8 => absurd c8 (by decide))
        refine f_aload_n hx hb dX5_berth_14 hl 0 rfl rfl ?_
        refine e_get (C := RX5) (T := TX5) (N := 10) hx hb hts i5 hown hK hw Ew_fq rfl 5 (by decide) (hts (.fieldLink RX5 44 "FerryQuay" "berthCount" "I") (by decide +kernel)) rfl dX5_berth_15 ?_
        refine f_top hI.s2 ?_
        refine lv_bipush (v := 8) hx hb dX5_berth_18 (by decide) ?_
        refine lv_icmp_lt (tgt := 26) hx hb dX5_berth_20 (by decide) (fun c20 => ?_) (fun c20 => absurd (nI_lt (b := 8) (by omega) (by decide)) c20)
        refine f_aload_n hx hb dX5_berth_26 hl 0 rfl rfl ?_
        refine e_get (C := RX5) (T := TX5) (N := 10) hx hb hts i5 hown hK hw Ew_fq rfl 5 (by decide) (hts (.fieldLink RX5 44 "FerryQuay" "berthCount" "I") (by decide +kernel)) rfl dX5_berth_27 ?_
        refine f_top hI.s2 ?_
        refine f_istore_n hx hb dX5_berth_30 hl 2 rfl (by decide) (fun ls hl => ?_)
        refine f_aload_n hx hb dX5_berth_31 hl 0 rfl rfl ?_
        refine e_get (C := RX5) (T := TX5) (N := 10) hx hb hts i5 hown hK hw Ew_fq rfl 2 (by decide) (hts (.fieldLink RX5 23 "FerryQuay" "berths" "[LFerryQuay$Berth;") (by decide +kernel)) rfl dX5_berth_32 ?_
        refine f_iload_n hx hb dX5_berth_35 hl 2 rfl rfl ?_
        refine e_new (C := RX0) (T := TX0) (N := 4) (ci := 0) (fs := [.null, .null, .null, .null]) hx hb hts i0 tyX0 tyX0_ok hown (hts (.classLink RX5 21 RX0) (by decide +kernel)) (hts (.instantiable RX0 4) (by decide +kernel)) (hts (.initialized RX0) (by decide +kernel)) hK hw hS rfl 3 nb (if_neg (Nat.lt_irrefl _)) (fun j hj => by rcases (show j = 0 ∨ j = 1 ∨ j = 2 ∨ j = 3 by omega) with rfl | rfl | rfl | rfl <;> rfl) (Nat.le_of_ble_eq_true rfl) (Nat.le_of_ble_eq_true rfl) dX5_berth_36 (fun H ad1 had hw hS => ?_)
        refine lv_dup hx hb dX5_berth_39 rfl ?_
        refine f_iload_n hx hb dX5_berth_40 hl 1 rfl rfl ?_
        refine q_cva (q_runI ⟨hx, hb, hml, hown, hts⟩ (c_X0_init l (E := u2 (Ew Y ng nr nb z u ad) 3 nb (some (.inr (0, [.null, .null, .null, .null])))) (i := nb) (ad := ad1) u2_self ((u2_at (by decide)).trans (if_neg (Nat.lt_irrefl _))) ((u2_at (by decide)).trans (if_neg (Nat.lt_irrefl _))) ((u2_at (by decide)).trans (if_neg (Nat.lt_irrefl _))) ((u2_at (by decide)).trans (if_neg (Nat.lt_irrefl _))) ((u2_at (by decide)).trans (if_neg (Nat.lt_irrefl _))) x) (cwI 1 hts gX5_berth_X0_init rfl rfl rfl (hts (.initialized RX0) (by decide +kernel)) (hts (.methodLink RX5 47 yX0_init) (by decide +kernel)) (hts (.instanceMethod yX0_init) (by decide +kernel)) rfl (by decide +kernel) ⟨Nat.le_of_ble_eq_true rfl, Nat.le_of_ble_eq_true rfl⟩) hK hw rfl hl.1 rfl (by simp [Value.category, va_rf]) dX5_berth_41 ⟨Nat.le_of_ble_eq_true rfl, Nat.le_of_ble_eq_true rfl⟩) hS (fun ad2 tys2 H locs hX hK hw hS => ?_)
        obtain ⟨hty, had2⟩ := hX
        dsimp only at hty had2
        subst hty
        have e3 : ad1 3 nb = ad2 3 nb := by rw [had2]; simp [u2, va_up]
        refine f_val (congrArg Value.ref e3) ?_
        have e01 : ad 0 3 = ad2 0 3 := by rw [had2, had]; simp [u2, va_up]
        refine f_val3 (congrArg Value.ref e01) ?_
        refine e_aastN hx hb hK hw hS 4 0 ((u2_at (by decide)).trans ((u2_at (by decide)).trans ((u2_at (by decide)).trans ((u2_at (by decide)).trans ((u2_at (by decide)).trans ((u2_at (by decide)).trans ((u2_at (by decide)).trans ((u2_at (by decide)).trans ((u2_at (by decide)).trans ((u2_at (by decide)).trans ((u2_at (by decide)).trans ((u2_at (by decide)).trans Ew_ba)))))))))))) rfl u2_self rfl rfl (by omega) (by decide) dX5_berth_44 (fun H locs hw hS => ?_)
        refine f_aload_n hx hb dX5_berth_45 hl 0 rfl rfl ?_
        have e00 : ad 0 0 = ad2 0 0 := by rw [had2, had]; simp [u2, va_up]
        refine f_val (congrArg Value.ref e00) ?_
        refine lv_dup hx hb dX5_berth_46 rfl ?_
        refine e_get (C := RX5) (T := TX5) (N := 10) hx hb hts i5 hown hK hw ((u2_i (by decide)).trans ((u2_at (by decide)).trans ((u2_at (by decide)).trans ((u2_at (by decide)).trans ((u2_at (by decide)).trans ((u2_at (by decide)).trans ((u2_at (by decide)).trans ((u2_at (by decide)).trans ((u2_at (by decide)).trans ((u2_at (by decide)).trans ((u2_at (by decide)).trans ((u2_at (by decide)).trans ((u2_at (by decide)).trans Ew_fq))))))))))))) rfl 5 (by decide) (hts (.fieldLink RX5 44 "FerryQuay" "berthCount" "I") (by decide +kernel)) rfl dX5_berth_47 ?_
        refine lv_iconst (v := 1) hx hb dX5_berth_50 (by decide) ?_
        refine lv_iadd hx hb dX5_berth_51 ?_
        refine f_top ((congrArg (fun q => q + 1) hI.s2).trans (nI_1 nb)) ?_
        refine e_put (C := RX5) (T := TX5) (N := 10) (ty := .int) hx hb hts i5 tyX5 tyX5_ok nmX5 hown hK hw hS ((u2_i (by decide)).trans ((u2_at (by decide)).trans ((u2_at (by decide)).trans ((u2_at (by decide)).trans ((u2_at (by decide)).trans ((u2_at (by decide)).trans ((u2_at (by decide)).trans ((u2_at (by decide)).trans ((u2_at (by decide)).trans ((u2_at (by decide)).trans ((u2_at (by decide)).trans ((u2_at (by decide)).trans ((u2_at (by decide)).trans Ew_fq))))))))))))) rfl 5 (by decide) (hts (.fieldLink RX5 44 "FerryQuay" "berthCount" "I") (by decide +kernel)) rfl (by decide +kernel) rfl rfl (Nat.le_of_ble_eq_true rfl) dX5_berth_52 (fun H locs hw hS => ?_)
        refine f_iload_n hx hb dX5_berth_55 hl 2 rfl rfl ?_
        exact q_iretB hx hb hr hlk hK hw hS dX5_berth_56 (by rw [had2, had]; simp [u2, va_up]) (by rw [sp_berth, if_neg h1, if_neg h2, if_neg hq]) (by rw [nx_berth, if_neg h1, if_neg h2, if_neg hq, sp_berth, if_neg h1, if_neg h2, if_neg hq]; exact Ea_berth (q3 := ad1 3 nb) (q4 := ad2 4 nb) (q5 := ad2 5 nb) (q6 := ad2 6 nb) (q7 := ad2 7 nb) (q8 := ad2 8 nb) hI (by rw [show u2 ad 3 nb (ad1 3 nb) = ad1 from by rw [had, u2_self]]; exact had2))
