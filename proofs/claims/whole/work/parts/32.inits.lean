theorem K_cons {G : va_G} {cl : List vw_C} {tys : List (ClassId × FieldType)} {s : State} {c : ClassId} {ty : FieldType} (hK : va_K G cl tys s) (h : ArrOfT s c ty ∧ va_RA s c ty) : va_K G cl ((c, ty) :: tys) s := ⟨hK.1, fun k q hk => by
  cases k with
  | zero => cases hk; exact h
  | succ k => exact hK.2 k q hk⟩
theorem met_ofJ {J : State → Prop} {l : Launch} {y : MethodName} {ws ws' : List Cond} {rm : Room} {G : va_G} {tys : List (ClassId × FieldType)} {lo : Nat} {E : Nat → Nat → Option va_E} {ad : Nat → Nat → Nat} {av : List Value} {Qc : Array Value → State → Outcome → State → Prop} {mc ms : Nat} {cc : ByteArray} {maxL : Nat} {ret : Option FieldType}
    (hy : plainName y.cls = true) (hwd : ws = Cond.code y cc maxL ret :: ws') (hlen : (lg_sl av).length ≤ maxL) (hcat : (lv_args 0 av).all (fun q => q.2.category == 1) = true)
    (body : ∀ (p : Program) (e : Env) (s : State) (m : MethodId) (below : List Frame) (meth : Method) (c : Code) (ls : Array Slot), p.tables.exec = Jvm.exec → c.code = cc → meth.sig.returnType = ret → meth.locks = false → c.maxLocals = maxL → (∀ w ∈ ws, w.before av.toArray s = true) → s.vm.findClass y.cls = some m.cls → meth.name = y.name → wo G lo E ad s.heap → va_K G vwCl tys s → lh ls maxL (fun i => ((lv_args 0 av).find? (fun q => q.1 == i)).map (fun q => q.2)) → va_S (fun q => lo ≤ q) s.heap s.heap [] → J s →
      W p l e (headSpec ws rm).room s m av.toArray below meth c s.heap [] 0 0 (MQ below Qc av.toArray s mc ms (fun q => lo ≤ q)) (F0 m 0 ls [])) :
    Met l y ws rm (va_Pc av (fun U => cS G tys lo E ad U ∧ J U)) Qc mc ms (fun q => lo ≤ q) := by
  refine Met.ofW (cc := cc) (maxL := maxL) (ret := ret) hy hwd ?_
  intro p e s m args below meth c s₁ B hml hv
  obtain ⟨rfl, ⟨hw, hK⟩, hJ⟩ := hv
  have hl := lv_entry av (n := maxL) hlen
  rw [lg_entry_eq]
  exact body p e s m below meth c _ B.exec B.bytes B.returns B.notSynchronized hml (atoms_spec (ws := ws) B.pre) (findClass_of_methodNamed B.named) (name_of_methodNamed B.named B.method).1 hw hK (lh.of hl hcat) va_S.rf hJ
def z0 : St := fun _ _ _ => 0
abbrev nA (c : ClassId) (n : Nat) : Option va_E := some (.inl (c, n, .inr (.inr (.inr (.inr (fun _ => none))))))
abbrev fq3 (r1 r2 r3 : Value) : Option va_E := some (.inr (5, [r1, r2, r3, .int 0, .int 0, .int 0, .int 0, .int 0, .int 0, .int 0]))
abbrev fqE (E : Nat → Nat → Option va_E) (cG cR cB : ClassId) (a : Nat → Nat → Nat) : Nat → Nat → Option va_E := u2 (u2 (u2 (u2 (u2 (u2 E 0 1 (nA cG 16)) 0 0 (fq3 (.ref (a 0 1)) .null .null)) 0 2 (nA cR 16)) 0 0 (fq3 (.ref (a 0 1)) (.ref (a 0 2)) .null)) 0 3 (nA cB 8)) 0 0 (fq3 (.ref (a 0 1)) (.ref (a 0 2)) (.ref (a 0 3)))
abbrev ty3 (cG cR cB : ClassId) : List (ClassId × FieldType) := [(cG, .object RX2), (cR, .object RX3), (cB, .object RX0)]
abbrev cAt (t : List (ClassId × FieldType)) (k : Nat) : ClassId := (t.getD k (0, .int)).1
abbrev blank6 : List Value := [.int 0, .int 0, .int 0, .int 0, .int 0, .int 0, .int 0, .null, .null, .null, .null, .null, .null, .null, .null, .null, .null, .null, .null, .null, .null, .null]
def moE (Y : YT) (E : Nat → Nat → Option va_E) (a : Nat → Nat → Nat) : Nat → Nat → Option va_E := fun k i => if k = 9 then Ew Y 0 0 0 z0 z0 a 9 i else u2 E 0 4 (some (cMO z0 a)) k i
set_option maxHeartbeats 4000000 in
set_option maxRecDepth 100000 in
theorem c_X5_init (l : Launch) {G : va_G} {lo : Nat} {ad : Nat → Nat → Nat} {E : Nat → Nat → Option va_E} (he : E 0 0 = fq3 .null .null .null) (h1 : E 0 1 = none) (h2 : E 0 2 = none) (h3 : E 0 3 = none) : Met l yX5_init wsX5_init ({ frames := 1, cells := 3, slots := 40, locals := 30 }) (va_Pc [.ref (ad 0 0)] (fun U => cS G [] lo E ad U ∧ va_AO RX2 U ∧ va_AO RX3 U ∧ va_AO RX0 U)) (QVa G lo (fun v => ∃ cG cR cB, v.2 = ty3 cG cR cB ∧ v.1 0 0 = ad 0 0) (fun a t => fqE E (cAt t 0) (cAt t 1) (cAt t 2) a)) 3 40 (fun q => lo ≤ q) := by
  refine met_ofJ (cc := cX5_init) (maxL := 1) (ret := none) (by decide) rfl (Nat.le_of_ble_eq_true rfl) rfl ?_
  intro p e s m below meth c ls hx hb hr hlk hml hts hown hnm hw hK hl hS hJ
  obtain ⟨hJ2, hJ3, hJ0⟩ := hJ
  have i5 : ∀ w ∈ wsX50, w ∈ wsX5_init := by decide +kernel
  refine f_aload_n hx hb dX5_init_0 hl 0 rfl rfl ?_
  refine W.objInit hx hb hown (hts (.methodLink RX5 1 objectInit) (by decide +kernel)) (hts (.instanceMethod objectInit) (by decide +kernel)) (hts (.code objectInit ⟨#[0xb1]⟩ 1 none) (by decide +kernel)) rfl (by rw [hml]; exact hl.1) rfl dX5_init_1 (Nat.le_of_ble_eq_true rfl) (Nat.le_of_ble_eq_true rfl) ?_
  refine W.eq (g2 := F0 m 4 ls []) rfl ?_
  refine f_aload_n hx hb dX5_init_4 hl 0 rfl rfl ?_
  refine lv_bipush (v := 16) hx hb dX5_init_5 (by decide) ?_
  refine e_newq (C := RX2) (N := 16) hx hb hown (hts (.classLink RX5 9 RX2) (by decide +kernel)) (va_AO.use hJ2) hw hS 0 1 h1 (by decide) rfl (by decide) (Nat.le_of_ble_eq_true rfl) (Nat.le_of_ble_eq_true rfl) dX5_init_7 (fun cG H ad1 had1 hAr1 hRa1 hw hS => ?_)
  have e1 : ad 0 0 = ad1 0 0 := by rw [had1, u2_i (by decide)]
  refine f_val2 (congrArg Value.ref e1) ?_
  refine e_putF (C := RX5) (T := TX5) (N := 10) (ty := .array (.object "FerryQuay$Gate")) hx hb hts i5 tyX5 tyX5_ok nmX5 hown hK hw hS ((u2_i (by decide)).trans he) rfl 0 (by decide) (hts (.fieldLink RX5 11 "FerryQuay" "gates" "[LFerryQuay$Gate;") (by decide +kernel)) rfl hnm rfl (by decide +kernel) rfl rfl (Nat.le_of_ble_eq_true rfl) dX5_init_10 (fun H locs hw hS => ?_)
  refine f_aload_n hx hb dX5_init_13 hl 0 rfl rfl ?_
  refine lv_bipush (v := 16) hx hb dX5_init_14 (by decide) ?_
  refine e_newq (C := RX3) (N := 16) hx hb hown (hts (.classLink RX5 15 RX3) (by decide +kernel)) (va_AO.use hJ3) hw hS 0 2 ((u2_i (by decide)).trans ((u2_i (by decide)).trans h2)) (by decide) rfl (by decide) (Nat.le_of_ble_eq_true rfl) (Nat.le_of_ble_eq_true rfl) dX5_init_16 (fun cR H ad2 had2 hAr2 hRa2 hw hS => ?_)
  have e2 : ad 0 0 = ad2 0 0 := by rw [had2, u2_i (by decide), ← e1]
  refine f_val2 (congrArg Value.ref e2) ?_
  refine e_putF (C := RX5) (T := TX5) (N := 10) (ty := .array (.object "FerryQuay$Ramp")) hx hb hts i5 tyX5 tyX5_ok nmX5 hown hK hw hS ((u2_i (by decide)).trans u2_self) rfl 1 (by decide) (hts (.fieldLink RX5 17 "FerryQuay" "ramps" "[LFerryQuay$Ramp;") (by decide +kernel)) rfl hnm rfl (by decide +kernel) rfl rfl (Nat.le_of_ble_eq_true rfl) dX5_init_19 (fun H locs hw hS => ?_)
  refine f_aload_n hx hb dX5_init_22 hl 0 rfl rfl ?_
  refine lv_bipush (v := 8) hx hb dX5_init_23 (by decide) ?_
  refine e_newq (C := RX0) (N := 8) hx hb hown (hts (.classLink RX5 21 RX0) (by decide +kernel)) (va_AO.use hJ0) hw hS 0 3 ((u2_i (by decide)).trans ((u2_i (by decide)).trans ((u2_i (by decide)).trans ((u2_i (by decide)).trans h3)))) (by decide) rfl (by decide) (Nat.le_of_ble_eq_true rfl) (Nat.le_of_ble_eq_true rfl) dX5_init_25 (fun cB H ad3 had3 hAr3 hRa3 hw hS => ?_)
  have e3 : ad 0 0 = ad3 0 0 := by rw [had3, u2_i (by decide), ← e2]
  refine f_val2 (congrArg Value.ref e3) ?_
  refine e_putF (C := RX5) (T := TX5) (N := 10) (ty := .array (.object "FerryQuay$Berth")) hx hb hts i5 tyX5 tyX5_ok nmX5 hown hK hw hS ((u2_i (by decide)).trans u2_self) rfl 2 (by decide) (hts (.fieldLink RX5 23 "FerryQuay" "berths" "[LFerryQuay$Berth;") (by decide +kernel)) rfl hnm rfl (by decide +kernel) rfl rfl (Nat.le_of_ble_eq_true rfl) dX5_init_28 (fun H locs hw hS => ?_)
  have g1 : ad1 0 1 = ad3 0 1 := by rw [had3, had2, u2_i (by decide), u2_i (by decide)]
  have g2 : ad2 0 2 = ad3 0 2 := by rw [had3, u2_i (by decide)]
  rw [g1, g2] at hw
  have hK := K_cons (K_cons (K_cons hK ⟨hAr3, hRa3⟩) ⟨hAr2, hRa2⟩) ⟨hAr1, hRa1⟩
  exact q_vretA hx hb hr hlk hK hw hS dX5_init_31 ⟨cG, cR, cB, rfl, e3.symm⟩ rfl
set_option maxHeartbeats 4000000 in
set_option maxRecDepth 100000 in
theorem c_X6_init (l : Launch) {G : va_G} {lo : Nat} {ad : Nat → Nat → Nat} {E : Nat → Nat → Option va_E} {cG cR cB : ClassId} (he : E 0 4 = some (.inr (6, blank6))) (h9 : ∀ i, E 9 i = none) : Met l yX6_init wsX6_init ({ frames := 1, cells := 15, slots := 712, locals := 30 }) (va_Pc [.ref (ad 0 4)] (cS G (ty3 cG cR cB) lo E ad)) (QVa G lo (fun v => ∃ cI cZ, v.2 = tysY (cI, cZ, cG, cR, cB) ∧ ∀ k, k ≠ 9 → v.1 k = ad k) (fun a t => moE (cAt t 0, cAt t 1, cG, cR, cB) E a)) 15 712 (fun q => lo ≤ q) := by
  refine met_of (cc := cX6_init) (maxL := 1) (ret := none) (by decide) rfl (Nat.le_of_ble_eq_true rfl) rfl ?_
  intro p e s m below meth c ls hx hb hr hlk hml hts hown hnm hw hK hl hS
  have i6 : ∀ w ∈ wsX60, w ∈ wsX6_init := by decide +kernel
  refine f_aload_n hx hb dX6_init_0 hl 0 rfl rfl ?_
  refine W.objInit hx hb hown (hts (.methodLink RX6 1 objectInit) (by decide +kernel)) (hts (.instanceMethod objectInit) (by decide +kernel)) (hts (.code objectInit ⟨#[0xb1]⟩ 1 none) (by decide +kernel)) rfl (by rw [hml]; exact hl.1) rfl dX6_init_1 (Nat.le_of_ble_eq_true rfl) (Nat.le_of_ble_eq_true rfl) ?_
  refine W.eq (g2 := F0 m 4 ls []) rfl ?_
  refine f_aload_n hx hb dX6_init_4 hl 0 rfl rfl ?_
  refine lv_bipush (v := 16) hx hb dX6_init_5 (by decide) ?_
  refine e_newa (atype := .boolean) (N := 16) hx hb (hts (.arrayClass .boolean) (by decide +kernel)) hw hS 9 1 (h9 1) rfl (by decide) rfl (by decide) (Nat.le_of_ble_eq_true rfl) (Nat.le_of_ble_eq_true rfl) dX6_init_7 (fun cA1 H ad1 had1 hAr1 hfc1 hw hS => ?_)
  have e1 : ∀ k, k ≠ 9 → ad1 k = ad k := fun k hk => by rw [had1, u2_k hk]
  refine f_val2 (congrArg Value.ref (congrFun (e1 0 (by decide)) 4).symm) ?_
  refine e_putF (C := RX6) (T := TX6) (N := 22) (ty := .array .boolean) hx hb hts i6 tyX6 tyX6_ok nmX6 hown hK hw hS ((u2_at (by decide)).trans he) rfl 7 (by decide) (hts (.fieldLink RX6 7 "FerryQuayModel" "isShut" "[Z") (by decide +kernel)) rfl hnm rfl (by decide +kernel) rfl rfl (Nat.le_of_ble_eq_true rfl) dX6_init_9 (fun H locs hw hS => ?_)
  refine f_aload_n hx hb dX6_init_12 hl 0 rfl rfl ?_
  refine lv_bipush (v := 16) hx hb dX6_init_13 (by decide) ?_
  refine e_newa (atype := .int) (N := 16) hx hb (hts (.arrayClass .int) (by decide +kernel)) hw hS 9 2 (by simp [u2, va_up, h9]) rfl (by decide) rfl (by decide) (Nat.le_of_ble_eq_true rfl) (Nat.le_of_ble_eq_true rfl) dX6_init_15 (fun cA2 H ad2 had2 hAr2 hfc2 hw hS => ?_)
  have e2 : ∀ k, k ≠ 9 → ad2 k = ad k := fun k hk => by rw [had2, u2_k hk, e1 k hk]
  refine f_val2 (congrArg Value.ref (congrFun (e2 0 (by decide)) 4).symm) ?_
  refine e_putF (C := RX6) (T := TX6) (N := 22) (ty := .array .int) hx hb hts i6 tyX6 tyX6_ok nmX6 hown hK hw hS ((u2_at (by decide)).trans u2_self) rfl 8 (by decide) (hts (.fieldLink RX6 13 "FerryQuayModel" "gateTaken" "[I") (by decide +kernel)) rfl hnm rfl (by decide +kernel) rfl rfl (Nat.le_of_ble_eq_true rfl) dX6_init_17 (fun H locs hw hS => ?_)
  refine f_aload_n hx hb dX6_init_20 hl 0 rfl rfl ?_
  refine lv_bipush (v := 16) hx hb dX6_init_21 (by decide) ?_
  refine e_newa (atype := .int) (N := 16) hx hb (hts (.arrayClass .int) (by decide +kernel)) hw hS 9 3 (by simp [u2, va_up, h9]) rfl (by decide) rfl (by decide) (Nat.le_of_ble_eq_true rfl) (Nat.le_of_ble_eq_true rfl) dX6_init_23 (fun cA3 H ad3 had3 hAr3 hfc3 hw hS => ?_)
  obtain rfl : cA2 = cA3 := Option.some.inj (hfc2.symm.trans hfc3)
  have e3 : ∀ k, k ≠ 9 → ad3 k = ad k := fun k hk => by rw [had3, u2_k hk, e2 k hk]
  refine f_val2 (congrArg Value.ref (congrFun (e3 0 (by decide)) 4).symm) ?_
  refine e_putF (C := RX6) (T := TX6) (N := 22) (ty := .array .int) hx hb hts i6 tyX6 tyX6_ok nmX6 hown hK hw hS ((u2_at (by decide)).trans u2_self) rfl 9 (by decide) (hts (.fieldLink RX6 17 "FerryQuayModel" "passed" "[I") (by decide +kernel)) rfl hnm rfl (by decide +kernel) rfl rfl (Nat.le_of_ble_eq_true rfl) dX6_init_25 (fun H locs hw hS => ?_)
  refine f_aload_n hx hb dX6_init_28 hl 0 rfl rfl ?_
  refine lv_bipush (v := 16) hx hb dX6_init_29 (by decide) ?_
  refine e_newa (atype := .int) (N := 16) hx hb (hts (.arrayClass .int) (by decide +kernel)) hw hS 9 4 (by simp [u2, va_up, h9]) rfl (by decide) rfl (by decide) (Nat.le_of_ble_eq_true rfl) (Nat.le_of_ble_eq_true rfl) dX6_init_31 (fun cA4 H ad4 had4 hAr4 hfc4 hw hS => ?_)
  obtain rfl : cA2 = cA4 := Option.some.inj (hfc2.symm.trans hfc4)
  have e4 : ∀ k, k ≠ 9 → ad4 k = ad k := fun k hk => by rw [had4, u2_k hk, e3 k hk]
  refine f_val2 (congrArg Value.ref (congrFun (e4 0 (by decide)) 4).symm) ?_
  refine e_putF (C := RX6) (T := TX6) (N := 22) (ty := .array .int) hx hb hts i6 tyX6 tyX6_ok nmX6 hown hK hw hS ((u2_at (by decide)).trans u2_self) rfl 10 (by decide) (hts (.fieldLink RX6 20 "FerryQuayModel" "limit" "[I") (by decide +kernel)) rfl hnm rfl (by decide +kernel) rfl rfl (Nat.le_of_ble_eq_true rfl) dX6_init_33 (fun H locs hw hS => ?_)
  refine f_aload_n hx hb dX6_init_36 hl 0 rfl rfl ?_
  refine lv_bipush (v := 16) hx hb dX6_init_37 (by decide) ?_
  refine e_newa (atype := .int) (N := 16) hx hb (hts (.arrayClass .int) (by decide +kernel)) hw hS 9 5 (by simp [u2, va_up, h9]) rfl (by decide) rfl (by decide) (Nat.le_of_ble_eq_true rfl) (Nat.le_of_ble_eq_true rfl) dX6_init_39 (fun cA5 H ad5 had5 hAr5 hfc5 hw hS => ?_)
  obtain rfl : cA2 = cA5 := Option.some.inj (hfc2.symm.trans hfc5)
  have e5 : ∀ k, k ≠ 9 → ad5 k = ad k := fun k hk => by rw [had5, u2_k hk, e4 k hk]
  refine f_val2 (congrArg Value.ref (congrFun (e5 0 (by decide)) 4).symm) ?_
  refine e_putF (C := RX6) (T := TX6) (N := 22) (ty := .array .int) hx hb hts i6 tyX6 tyX6_ok nmX6 hown hK hw hS ((u2_at (by decide)).trans u2_self) rfl 11 (by decide) (hts (.fieldLink RX6 23 "FerryQuayModel" "wear" "[I") (by decide +kernel)) rfl hnm rfl (by decide +kernel) rfl rfl (Nat.le_of_ble_eq_true rfl) dX6_init_41 (fun H locs hw hS => ?_)
  refine f_aload_n hx hb dX6_init_44 hl 0 rfl rfl ?_
  refine lv_bipush (v := 16) hx hb dX6_init_45 (by decide) ?_
  refine e_newa (atype := .int) (N := 16) hx hb (hts (.arrayClass .int) (by decide +kernel)) hw hS 9 6 (by simp [u2, va_up, h9]) rfl (by decide) rfl (by decide) (Nat.le_of_ble_eq_true rfl) (Nat.le_of_ble_eq_true rfl) dX6_init_47 (fun cA6 H ad6 had6 hAr6 hfc6 hw hS => ?_)
  obtain rfl : cA2 = cA6 := Option.some.inj (hfc2.symm.trans hfc6)
  have e6 : ∀ k, k ≠ 9 → ad6 k = ad k := fun k hk => by rw [had6, u2_k hk, e5 k hk]
  refine f_val2 (congrArg Value.ref (congrFun (e6 0 (by decide)) 4).symm) ?_
  refine e_putF (C := RX6) (T := TX6) (N := 22) (ty := .array .int) hx hb hts i6 tyX6 tyX6_ok nmX6 hown hK hw hS ((u2_at (by decide)).trans u2_self) rfl 12 (by decide) (hts (.fieldLink RX6 26 "FerryQuayModel" "rampTaken" "[I") (by decide +kernel)) rfl hnm rfl (by decide +kernel) rfl rfl (Nat.le_of_ble_eq_true rfl) dX6_init_49 (fun H locs hw hS => ?_)
  refine f_aload_n hx hb dX6_init_52 hl 0 rfl rfl ?_
  refine lv_bipush (v := 8) hx hb dX6_init_53 (by decide) ?_
  refine e_newa (atype := .int) (N := 8) hx hb (hts (.arrayClass .int) (by decide +kernel)) hw hS 9 7 (by simp [u2, va_up, h9]) rfl (by decide) rfl (by decide) (Nat.le_of_ble_eq_true rfl) (Nat.le_of_ble_eq_true rfl) dX6_init_55 (fun cA7 H ad7 had7 hAr7 hfc7 hw hS => ?_)
  obtain rfl : cA2 = cA7 := Option.some.inj (hfc2.symm.trans hfc7)
  have e7 : ∀ k, k ≠ 9 → ad7 k = ad k := fun k hk => by rw [had7, u2_k hk, e6 k hk]
  refine f_val2 (congrArg Value.ref (congrFun (e7 0 (by decide)) 4).symm) ?_
  refine e_putF (C := RX6) (T := TX6) (N := 22) (ty := .array .int) hx hb hts i6 tyX6 tyX6_ok nmX6 hown hK hw hS ((u2_at (by decide)).trans u2_self) rfl 13 (by decide) (hts (.fieldLink RX6 29 "FerryQuayModel" "gateOf" "[I") (by decide +kernel)) rfl hnm rfl (by decide +kernel) rfl rfl (Nat.le_of_ble_eq_true rfl) dX6_init_57 (fun H locs hw hS => ?_)
  refine f_aload_n hx hb dX6_init_60 hl 0 rfl rfl ?_
  refine lv_bipush (v := 8) hx hb dX6_init_61 (by decide) ?_
  refine e_newa (atype := .int) (N := 8) hx hb (hts (.arrayClass .int) (by decide +kernel)) hw hS 9 8 (by simp [u2, va_up, h9]) rfl (by decide) rfl (by decide) (Nat.le_of_ble_eq_true rfl) (Nat.le_of_ble_eq_true rfl) dX6_init_63 (fun cA8 H ad8 had8 hAr8 hfc8 hw hS => ?_)
  obtain rfl : cA2 = cA8 := Option.some.inj (hfc2.symm.trans hfc8)
  have e8 : ∀ k, k ≠ 9 → ad8 k = ad k := fun k hk => by rw [had8, u2_k hk, e7 k hk]
  refine f_val2 (congrArg Value.ref (congrFun (e8 0 (by decide)) 4).symm) ?_
  refine e_putF (C := RX6) (T := TX6) (N := 22) (ty := .array .int) hx hb hts i6 tyX6 tyX6_ok nmX6 hown hK hw hS ((u2_at (by decide)).trans u2_self) rfl 14 (by decide) (hts (.fieldLink RX6 32 "FerryQuayModel" "rampOf" "[I") (by decide +kernel)) rfl hnm rfl (by decide +kernel) rfl rfl (Nat.le_of_ble_eq_true rfl) dX6_init_65 (fun H locs hw hS => ?_)
  refine f_aload_n hx hb dX6_init_68 hl 0 rfl rfl ?_
  refine lv_bipush (v := 8) hx hb dX6_init_69 (by decide) ?_
  refine e_newa (atype := .int) (N := 8) hx hb (hts (.arrayClass .int) (by decide +kernel)) hw hS 9 9 (by simp [u2, va_up, h9]) rfl (by decide) rfl (by decide) (Nat.le_of_ble_eq_true rfl) (Nat.le_of_ble_eq_true rfl) dX6_init_71 (fun cA9 H ad9 had9 hAr9 hfc9 hw hS => ?_)
  obtain rfl : cA2 = cA9 := Option.some.inj (hfc2.symm.trans hfc9)
  have e9 : ∀ k, k ≠ 9 → ad9 k = ad k := fun k hk => by rw [had9, u2_k hk, e8 k hk]
  refine f_val2 (congrArg Value.ref (congrFun (e9 0 (by decide)) 4).symm) ?_
  refine e_putF (C := RX6) (T := TX6) (N := 22) (ty := .array .int) hx hb hts i6 tyX6 tyX6_ok nmX6 hown hK hw hS ((u2_at (by decide)).trans u2_self) rfl 15 (by decide) (hts (.fieldLink RX6 35 "FerryQuayModel" "ferryOf" "[I") (by decide +kernel)) rfl hnm rfl (by decide +kernel) rfl rfl (Nat.le_of_ble_eq_true rfl) dX6_init_73 (fun H locs hw hS => ?_)
  refine f_aload_n hx hb dX6_init_76 hl 0 rfl rfl ?_
  refine lv_bipush (v := 8) hx hb dX6_init_77 (by decide) ?_
  refine e_newa (atype := .int) (N := 8) hx hb (hts (.arrayClass .int) (by decide +kernel)) hw hS 9 10 (by simp [u2, va_up, h9]) rfl (by decide) rfl (by decide) (Nat.le_of_ble_eq_true rfl) (Nat.le_of_ble_eq_true rfl) dX6_init_79 (fun cA10 H ad10 had10 hAr10 hfc10 hw hS => ?_)
  obtain rfl : cA2 = cA10 := Option.some.inj (hfc2.symm.trans hfc10)
  have e10 : ∀ k, k ≠ 9 → ad10 k = ad k := fun k hk => by rw [had10, u2_k hk, e9 k hk]
  refine f_val2 (congrArg Value.ref (congrFun (e10 0 (by decide)) 4).symm) ?_
  refine e_putF (C := RX6) (T := TX6) (N := 22) (ty := .array .int) hx hb hts i6 tyX6 tyX6_ok nmX6 hown hK hw hS ((u2_at (by decide)).trans u2_self) rfl 16 (by decide) (hts (.fieldLink RX6 38 "FerryQuayModel" "waits" "[I") (by decide +kernel)) rfl hnm rfl (by decide +kernel) rfl rfl (Nat.le_of_ble_eq_true rfl) dX6_init_81 (fun H locs hw hS => ?_)
  refine f_aload_n hx hb dX6_init_84 hl 0 rfl rfl ?_
  refine lv_sipush (v := 240) hx hb dX6_init_85 (by decide) ?_
  refine e_newa (atype := .int) (N := 240) hx hb (hts (.arrayClass .int) (by decide +kernel)) hw hS 9 11 (by simp [u2, va_up, h9]) rfl (by decide) rfl (by decide) (Nat.le_of_ble_eq_true rfl) (Nat.le_of_ble_eq_true rfl) dX6_init_88 (fun cA11 H ad11 had11 hAr11 hfc11 hw hS => ?_)
  obtain rfl : cA2 = cA11 := Option.some.inj (hfc2.symm.trans hfc11)
  have e11 : ∀ k, k ≠ 9 → ad11 k = ad k := fun k hk => by rw [had11, u2_k hk, e10 k hk]
  refine f_val2 (congrArg Value.ref (congrFun (e11 0 (by decide)) 4).symm) ?_
  refine e_putF (C := RX6) (T := TX6) (N := 22) (ty := .array .int) hx hb hts i6 tyX6 tyX6_ok nmX6 hown hK hw hS ((u2_at (by decide)).trans u2_self) rfl 17 (by decide) (hts (.fieldLink RX6 41 "FerryQuayModel" "lane" "[I") (by decide +kernel)) rfl hnm rfl (by decide +kernel) rfl rfl (Nat.le_of_ble_eq_true rfl) dX6_init_90 (fun H locs hw hS => ?_)
  refine f_aload_n hx hb dX6_init_93 hl 0 rfl rfl ?_
  refine lv_bipush (v := 8) hx hb dX6_init_94 (by decide) ?_
  refine e_newa (atype := .int) (N := 8) hx hb (hts (.arrayClass .int) (by decide +kernel)) hw hS 9 12 (by simp [u2, va_up, h9]) rfl (by decide) rfl (by decide) (Nat.le_of_ble_eq_true rfl) (Nat.le_of_ble_eq_true rfl) dX6_init_96 (fun cA12 H ad12 had12 hAr12 hfc12 hw hS => ?_)
  obtain rfl : cA2 = cA12 := Option.some.inj (hfc2.symm.trans hfc12)
  have e12 : ∀ k, k ≠ 9 → ad12 k = ad k := fun k hk => by rw [had12, u2_k hk, e11 k hk]
  refine f_val2 (congrArg Value.ref (congrFun (e12 0 (by decide)) 4).symm) ?_
  refine e_putF (C := RX6) (T := TX6) (N := 22) (ty := .array .int) hx hb hts i6 tyX6 tyX6_ok nmX6 hown hK hw hS ((u2_at (by decide)).trans u2_self) rfl 18 (by decide) (hts (.fieldLink RX6 44 "FerryQuayModel" "room" "[I") (by decide +kernel)) rfl hnm rfl (by decide +kernel) rfl rfl (Nat.le_of_ble_eq_true rfl) dX6_init_98 (fun H locs hw hS => ?_)
  refine f_aload_n hx hb dX6_init_101 hl 0 rfl rfl ?_
  refine lv_bipush (v := 8) hx hb dX6_init_102 (by decide) ?_
  refine e_newa (atype := .int) (N := 8) hx hb (hts (.arrayClass .int) (by decide +kernel)) hw hS 9 13 (by simp [u2, va_up, h9]) rfl (by decide) rfl (by decide) (Nat.le_of_ble_eq_true rfl) (Nat.le_of_ble_eq_true rfl) dX6_init_104 (fun cA13 H ad13 had13 hAr13 hfc13 hw hS => ?_)
  obtain rfl : cA2 = cA13 := Option.some.inj (hfc2.symm.trans hfc13)
  have e13 : ∀ k, k ≠ 9 → ad13 k = ad k := fun k hk => by rw [had13, u2_k hk, e12 k hk]
  refine f_val2 (congrArg Value.ref (congrFun (e13 0 (by decide)) 4).symm) ?_
  refine e_putF (C := RX6) (T := TX6) (N := 22) (ty := .array .int) hx hb hts i6 tyX6 tyX6_ok nmX6 hown hK hw hS ((u2_at (by decide)).trans u2_self) rfl 19 (by decide) (hts (.fieldLink RX6 47 "FerryQuayModel" "load" "[I") (by decide +kernel)) rfl hnm rfl (by decide +kernel) rfl rfl (Nat.le_of_ble_eq_true rfl) dX6_init_106 (fun H locs hw hS => ?_)
  refine f_aload_n hx hb dX6_init_109 hl 0 rfl rfl ?_
  refine lv_bipush (v := 8) hx hb dX6_init_110 (by decide) ?_
  refine e_newa (atype := .int) (N := 8) hx hb (hts (.arrayClass .int) (by decide +kernel)) hw hS 9 14 (by simp [u2, va_up, h9]) rfl (by decide) rfl (by decide) (Nat.le_of_ble_eq_true rfl) (Nat.le_of_ble_eq_true rfl) dX6_init_112 (fun cA14 H ad14 had14 hAr14 hfc14 hw hS => ?_)
  obtain rfl : cA2 = cA14 := Option.some.inj (hfc2.symm.trans hfc14)
  have e14 : ∀ k, k ≠ 9 → ad14 k = ad k := fun k hk => by rw [had14, u2_k hk, e13 k hk]
  refine f_val2 (congrArg Value.ref (congrFun (e14 0 (by decide)) 4).symm) ?_
  refine e_putF (C := RX6) (T := TX6) (N := 22) (ty := .array .int) hx hb hts i6 tyX6 tyX6_ok nmX6 hown hK hw hS ((u2_at (by decide)).trans u2_self) rfl 20 (by decide) (hts (.fieldLink RX6 50 "FerryQuayModel" "many" "[I") (by decide +kernel)) rfl hnm rfl (by decide +kernel) rfl rfl (Nat.le_of_ble_eq_true rfl) dX6_init_114 (fun H locs hw hS => ?_)
  refine f_aload_n hx hb dX6_init_117 hl 0 rfl rfl ?_
  refine lv_sipush (v := 320) hx hb dX6_init_118 (by decide) ?_
  refine e_newa (atype := .int) (N := 320) hx hb (hts (.arrayClass .int) (by decide +kernel)) hw hS 9 15 (by simp [u2, va_up, h9]) rfl (by decide) rfl (by decide) (Nat.le_of_ble_eq_true rfl) (Nat.le_of_ble_eq_true rfl) dX6_init_121 (fun cA15 H ad15 had15 hAr15 hfc15 hw hS => ?_)
  obtain rfl : cA2 = cA15 := Option.some.inj (hfc2.symm.trans hfc15)
  have e15 : ∀ k, k ≠ 9 → ad15 k = ad k := fun k hk => by rw [had15, u2_k hk, e14 k hk]
  refine f_val2 (congrArg Value.ref (congrFun (e15 0 (by decide)) 4).symm) ?_
  refine e_putF (C := RX6) (T := TX6) (N := 22) (ty := .array .int) hx hb hts i6 tyX6 tyX6_ok nmX6 hown hK hw hS ((u2_at (by decide)).trans u2_self) rfl 21 (by decide) (hts (.fieldLink RX6 53 "FerryQuayModel" "deck" "[I") (by decide +kernel)) rfl hnm rfl (by decide +kernel) rfl rfl (Nat.le_of_ble_eq_true rfl) dX6_init_123 (fun H locs hw hS => ?_)
  have g1 : ad1 9 1 = ad15 9 1 := by rw [had15, u2_i (by decide), had14, u2_i (by decide), had13, u2_i (by decide), had12, u2_i (by decide), had11, u2_i (by decide), had10, u2_i (by decide), had9, u2_i (by decide), had8, u2_i (by decide), had7, u2_i (by decide), had6, u2_i (by decide), had5, u2_i (by decide), had4, u2_i (by decide), had3, u2_i (by decide), had2, u2_i (by decide)]
  have g2 : ad2 9 2 = ad15 9 2 := by rw [had15, u2_i (by decide), had14, u2_i (by decide), had13, u2_i (by decide), had12, u2_i (by decide), had11, u2_i (by decide), had10, u2_i (by decide), had9, u2_i (by decide), had8, u2_i (by decide), had7, u2_i (by decide), had6, u2_i (by decide), had5, u2_i (by decide), had4, u2_i (by decide), had3, u2_i (by decide)]
  have g3 : ad3 9 3 = ad15 9 3 := by rw [had15, u2_i (by decide), had14, u2_i (by decide), had13, u2_i (by decide), had12, u2_i (by decide), had11, u2_i (by decide), had10, u2_i (by decide), had9, u2_i (by decide), had8, u2_i (by decide), had7, u2_i (by decide), had6, u2_i (by decide), had5, u2_i (by decide), had4, u2_i (by decide)]
  have g4 : ad4 9 4 = ad15 9 4 := by rw [had15, u2_i (by decide), had14, u2_i (by decide), had13, u2_i (by decide), had12, u2_i (by decide), had11, u2_i (by decide), had10, u2_i (by decide), had9, u2_i (by decide), had8, u2_i (by decide), had7, u2_i (by decide), had6, u2_i (by decide), had5, u2_i (by decide)]
  have g5 : ad5 9 5 = ad15 9 5 := by rw [had15, u2_i (by decide), had14, u2_i (by decide), had13, u2_i (by decide), had12, u2_i (by decide), had11, u2_i (by decide), had10, u2_i (by decide), had9, u2_i (by decide), had8, u2_i (by decide), had7, u2_i (by decide), had6, u2_i (by decide)]
  have g6 : ad6 9 6 = ad15 9 6 := by rw [had15, u2_i (by decide), had14, u2_i (by decide), had13, u2_i (by decide), had12, u2_i (by decide), had11, u2_i (by decide), had10, u2_i (by decide), had9, u2_i (by decide), had8, u2_i (by decide), had7, u2_i (by decide)]
  have g7 : ad7 9 7 = ad15 9 7 := by rw [had15, u2_i (by decide), had14, u2_i (by decide), had13, u2_i (by decide), had12, u2_i (by decide), had11, u2_i (by decide), had10, u2_i (by decide), had9, u2_i (by decide), had8, u2_i (by decide)]
  have g8 : ad8 9 8 = ad15 9 8 := by rw [had15, u2_i (by decide), had14, u2_i (by decide), had13, u2_i (by decide), had12, u2_i (by decide), had11, u2_i (by decide), had10, u2_i (by decide), had9, u2_i (by decide)]
  have g9 : ad9 9 9 = ad15 9 9 := by rw [had15, u2_i (by decide), had14, u2_i (by decide), had13, u2_i (by decide), had12, u2_i (by decide), had11, u2_i (by decide), had10, u2_i (by decide)]
  have g10 : ad10 9 10 = ad15 9 10 := by rw [had15, u2_i (by decide), had14, u2_i (by decide), had13, u2_i (by decide), had12, u2_i (by decide), had11, u2_i (by decide)]
  have g11 : ad11 9 11 = ad15 9 11 := by rw [had15, u2_i (by decide), had14, u2_i (by decide), had13, u2_i (by decide), had12, u2_i (by decide)]
  have g12 : ad12 9 12 = ad15 9 12 := by rw [had15, u2_i (by decide), had14, u2_i (by decide), had13, u2_i (by decide)]
  have g13 : ad13 9 13 = ad15 9 13 := by rw [had15, u2_i (by decide), had14, u2_i (by decide)]
  have g14 : ad14 9 14 = ad15 9 14 := by rw [had15, u2_i (by decide)]
  rw [g1, g2, g3, g4, g5, g6, g7, g8, g9, g10, g11, g12, g13, g14] at hw
  have hK := K_cons (K_cons hK ⟨hAr1, hfc1⟩) ⟨hAr2, hfc2⟩
  have hw := hw.cast (E' := moE (cA2, cA1, cG, cR, cB) E ad15) (by
    funext k i
    by_cases hk : k = 9
    · subst hk
      match i with
      | 0 => simp [moE, u2, va_up, h9]; rfl
      | 1 => simp [moE, u2, va_up]; rfl
      | 2 => simp [moE, u2, va_up]; rfl
      | 3 => simp [moE, u2, va_up]; rfl
      | 4 => simp [moE, u2, va_up]; rfl
      | 5 => simp [moE, u2, va_up]; rfl
      | 6 => simp [moE, u2, va_up]; rfl
      | 7 => simp [moE, u2, va_up]; rfl
      | 8 => simp [moE, u2, va_up]; rfl
      | 9 => simp [moE, u2, va_up]; rfl
      | 10 => simp [moE, u2, va_up]; rfl
      | 11 => simp [moE, u2, va_up]; rfl
      | 12 => simp [moE, u2, va_up]; rfl
      | 13 => simp [moE, u2, va_up]; rfl
      | 14 => simp [moE, u2, va_up]; rfl
      | 15 => simp [moE, u2, va_up]; rfl
      | n + 16 => simp [moE, u2, va_up, h9]; rfl
    · unfold moE
      rw [if_neg hk]
      by_cases h0 : k = 0
      · subst h0
        by_cases h4 : i = 4
        · subst h4
          rw [u2_self, u2_self]
          rfl
        · simp [u2, va_up, h4]
      · simp [u2, va_up, hk, h0])
  exact q_vretA hx hb hr hlk hK hw hS dX6_init_126 ⟨cA2, cA1, rfl, e15⟩ rfl
