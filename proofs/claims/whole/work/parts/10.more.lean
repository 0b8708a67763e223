/-! more rows over the world: numbers as nI, the copy of a row onto itself -/
theorem u2_ne {α : Type} {f : Nat → Nat → α} {k i k' i' : Nat} {v : α} (h : ¬ (k' = k ∧ i' = i)) : u2 f k i v k' i' = f k' i' := by
  by_cases hk : k' = k
  · subst hk
    exact u2_i (fun q => h ⟨rfl, q⟩)
  · rw [u2_k hk]
theorem two_ne {E : Nat → Nat → Option va_E} {k i k2 i2 : Nat} {a b : va_E} (h : E k i = some a) (h2 : E k2 i2 = some b) (hab : a ≠ b) : ¬ (k = k2 ∧ i = i2) := by
  rintro ⟨rfl, rfl⟩
  exact hab (Option.some.inj (h.symm.trans h2))
theorem nI_s1 {n : Nat} (h : 0 < n) : nI n - 1 = nI (n - 1) := by
  cases n with
  | zero => omega
  | succ n => exact nI_pred n
theorem vp_in_not {x : Int32} {n : Nat} (h0 : ¬ x < 0) (h1 : ¬ nI n ≤ x) (hn : n < 2 ^ 31) : vp_in x n := by
  rcases pk_ix x hn with h | h | ⟨j, hj, rfl⟩
  · exact absurd h h0
  · exact absurd h h1
  · exact vp_in_nI hj hn
section LM
variable {p : Program} {l : Launch} {e : Env} {R : Room} {s : State} {m : MethodId} {args : Array Value} {below : List Frame} {meth : Method} {c : Code} {H : Heap} {locs : List Loc} {cells slots : Nat} {Q : State → Prop}
variable {cc : ByteArray} {pc : Nat} {ls : Array Slot} {rest : List Value} {G : va_G} {lo : Nat} {E : Nat → Nat → Option va_E} {ad : Nat → Nat → Nat} {H0 : Heap} {tys : List (ClassId × FieldType)} {k i : Nat}
theorem f_top {x y : Int32} (h : x = y) (kk : W p l e R s m args below meth c H locs cells slots Q (F0 m pc ls (.int y :: rest))) : W p l e R s m args below meth c H locs cells slots Q (F0 m pc ls (.int x :: rest)) := h ▸ kk
theorem f_val {x y : Value} (h : x = y) (kk : W p l e R s m args below meth c H locs cells slots Q (F0 m pc ls (y :: rest))) : W p l e R s m args below meth c H locs cells slots Q (F0 m pc ls (x :: rest)) := h ▸ kk
theorem e_ialdN (hx : p.tables.exec = Jvm.exec) (hb : c.code = cc) (hK : va_K G vwCl tys s) (hw : wo G lo E ad H) (t0 : Nat) {cA : ClassId} {n : Nat} {f : Nat → Int32} (he : E k i = some (.inl (cA, n, .inl f))) (ht : tys[t0]? = some (cA, .int)) {x : Int32} {j : Nat} (hj : x = nI j) (hn : j < n) (hn2 : n < 2 ^ 31) (hdg : decode cc pc = .ok (.iaload, 1))
    (kk : W p l e R s m args below meth c H locs cells slots Q (F0 m (pc + 1) ls (.int (f j) :: rest))) : W p l e R s m args below meth c H locs cells slots Q (F0 m pc ls (.int x :: .ref (ad k i) :: rest)) := by
  subst hj
  refine e_iald hx hb hK hw t0 he ht (vp_in_nI hn hn2) hdg ?_
  rw [nI_clamp (Nat.lt_trans hn hn2)]
  exact kk
theorem e_zaldN (hx : p.tables.exec = Jvm.exec) (hb : c.code = cc) (hK : va_K G vwCl tys s) (hw : wo G lo E ad H) (t0 : Nat) {cA : ClassId} {n : Nat} {f : Nat → Int32} (he : E k i = some (.inl (cA, n, .inl f))) (ht : tys[t0]? = some (cA, .boolean)) {x : Int32} {j : Nat} (hj : x = nI j) (hn : j < n) (hn2 : n < 2 ^ 31) (hdg : decode cc pc = .ok (.baload, 1))
    (kk : W p l e R s m args below meth c H locs cells slots Q (F0 m (pc + 1) ls (.int (f j) :: rest))) : W p l e R s m args below meth c H locs cells slots Q (F0 m pc ls (.int x :: .ref (ad k i) :: rest)) := by
  subst hj
  refine e_zald hx hb hK hw t0 he ht (vp_in_nI hn hn2) hdg ?_
  rw [nI_clamp (Nat.lt_trans hn hn2)]
  exact kk
theorem e_aaldN (hx : p.tables.exec = Jvm.exec) (hb : c.code = cc) (hK : va_K G vwCl tys s) (hw : wo G lo E ad H) (t0 : Nat) {cA : ClassId} {C : String} {n : Nat} {f : Nat → Option Nat} (he : E k i = some (.inl (cA, n, .inr (.inr (.inr (.inr f)))))) (ht : tys[t0]? = some (cA, .object C)) {x : Int32} {j : Nat} (hj : x = nI j) (hn : j < n) (hn2 : n < 2 ^ 31) {r : Option Nat} (hr : f j = r) (hdg : decode cc pc = .ok (.aaload, 1))
    (kk : W p l e R s m args below meth c H locs cells slots Q (F0 m (pc + 1) ls (va_rf r :: rest))) : W p l e R s m args below meth c H locs cells slots Q (F0 m pc ls (.int x :: .ref (ad k i) :: rest)) := by
  subst hj hr
  refine e_aald hx hb hK hw t0 he ht (vp_in_nI hn hn2) hdg ?_
  rw [nI_clamp (Nat.lt_trans hn hn2)]
  exact kk
theorem e_iastN (hx : p.tables.exec = Jvm.exec) (hb : c.code = cc) (hK : va_K G vwCl tys s) (hw : wo G lo E ad H) (hS : va_S (fun q => lo ≤ q) H0 H locs) (t0 : Nat) {cA : ClassId} {n : Nat} {f : Nat → Int32} (he : E k i = some (.inl (cA, n, .inl f))) (ht : tys[t0]? = some (cA, .int)) {x v : Int32} {j : Nat} (hj : x = nI j) (hn : j < n) (hn2 : n < 2 ^ 31) (hdg : decode cc pc = .ok (.iastore, 1))
    (kk : ∀ (H1 : Heap) (locs1 : List Loc), wo G lo (u2 E k i (some (.inl (cA, n, .inl (va_up f j v))))) ad H1 → va_S (fun q => lo ≤ q) H0 H1 locs1 → W p l e R s m args below meth c H1 locs1 cells slots Q (F0 m (pc + 1) ls rest)) : W p l e R s m args below meth c H locs cells slots Q (F0 m pc ls (.int v :: .int x :: .ref (ad k i) :: rest)) := by
  subst hj
  refine e_iast hx hb hK hw hS t0 he ht (vp_in_nI hn hn2) hdg ?_
  rw [nI_clamp (Nat.lt_trans hn hn2)]
  exact kk
theorem e_zastN (hx : p.tables.exec = Jvm.exec) (hb : c.code = cc) (hK : va_K G vwCl tys s) (hw : wo G lo E ad H) (hS : va_S (fun q => lo ≤ q) H0 H locs) (t0 : Nat) {cA : ClassId} {n : Nat} {f : Nat → Int32} (he : E k i = some (.inl (cA, n, .inl f))) (ht : tys[t0]? = some (cA, .boolean)) {x v : Int32} {j : Nat} (hj : x = nI j) (hn : j < n) (hn2 : n < 2 ^ 31) (hv : narrow .boolean (.int v) = .int v) (hdg : decode cc pc = .ok (.bastore, 1))
    (kk : ∀ (H1 : Heap) (locs1 : List Loc), wo G lo (u2 E k i (some (.inl (cA, n, .inl (va_up f j v))))) ad H1 → va_S (fun q => lo ≤ q) H0 H1 locs1 → W p l e R s m args below meth c H1 locs1 cells slots Q (F0 m (pc + 1) ls rest)) : W p l e R s m args below meth c H locs cells slots Q (F0 m pc ls (.int v :: .int x :: .ref (ad k i) :: rest)) := by
  subst hj
  refine e_zast hx hb hK hw hS t0 he ht (vp_in_nI hn hn2) hv hdg ?_
  rw [nI_clamp (Nat.lt_trans hn hn2)]
  exact kk
theorem e_aastN (hx : p.tables.exec = Jvm.exec) (hb : c.code = cc) (hK : va_K G vwCl tys s) (hw : wo G lo E ad H) (hS : va_S (fun q => lo ≤ q) H0 H locs) (t0 ci : Nat) {k' i' : Nat} {cA : ClassId} {r : vw_C} {n : Nat} {vs : List Value} {f : Nat → Option Nat} (he : E k i = some (.inl (cA, n, .inr (.inr (.inr (.inr f)))))) (ht : tys[t0]? = some (cA, .object r.1)) (hv : E k' i' = some (.inr (ci, vs))) (hcl : vwCl[ci]? = some r) {x : Int32} {j : Nat} (hj : x = nI j) (hn : j < n) (hn2 : n < 2 ^ 31) (hdg : decode cc pc = .ok (.aastore, 1))
    (kk : ∀ (H1 : Heap) (locs1 : List Loc), wo G lo (u2 E k i (some (.inl (cA, n, .inr (.inr (.inr (.inr (va_up f j (some (ad k' i')))))))))) ad H1 → va_S (fun q => lo ≤ q) H0 H1 locs1 → W p l e R s m args below meth c H1 locs1 cells slots Q (F0 m (pc + 1) ls rest)) : W p l e R s m args below meth c H locs cells slots Q (F0 m pc ls (.ref (ad k' i') :: .int x :: .ref (ad k i) :: rest)) := by
  subst hj
  refine e_aast hx hb hK hw hS t0 ci he ht hv hcl (vp_in_nI hn hn2) hdg ?_
  rw [nI_clamp (Nat.lt_trans hn hn2)]
  exact kk
/-- a row of ints copied onto itself -/
theorem e_copy (hx : p.tables.exec = Jvm.exec) (hb : c.code = cc) (hml : c.maxLocals = ls.size) {own : String} {index : Nat} (hown : s.vm.findClass own = some m.cls) (hlink : (Cond.methodLink own index arraycopyName).before args s = true) (hnat : (Cond.native arraycopyName).before args s = true) (hstat : (Cond.static arraycopyName).before args s = true) (hini : (Cond.initialized "java/lang/System").before args s = true)
    (hK : va_K G vwCl tys s) (hw : wo G lo E ad H) (hS : va_S (fun q => lo ≤ q) H0 H locs) (t0 : Nat) {cA : ClassId} {n0 : Nat} {f : Nat → Int32} (he : E k i = some (.inl (cA, n0, .inl f))) (ht : tys[t0]? = some (cA, .int))
    {sp dp n : Int32} (h1 : ¬ sp < 0) (h2 : ¬ dp < 0) (h3 : ¬ n < 0) (h4 : sp.toNatClampNeg + n.toNatClampNeg ≤ n0) (h5 : dp.toNatClampNeg + n.toNatClampNeg ≤ n0)
    (hframes : 1 ≤ R.frames) (hlocals : (rest.map fun v => v.category).sum + 18 ≤ R.locals) (hdg : decode cc pc = .ok (.invokestatic index, 3))
    (kk : ∀ (H1 : Heap) (locs1 : List Loc), wo G lo (u2 E k i (some (.inl (cA, n0, .inl (va_cpy f f sp.toNatClampNeg dp.toNatClampNeg n.toNatClampNeg))))) ad H1 → va_S (fun q => lo ≤ q) H0 H1 locs1 → W p l e R s m args below meth c H1 locs1 cells slots Q (F0 m (pc + 3) ls rest)) : W p l e R s m args below meth c H locs cells slots Q (F0 m pc ls (.int n :: .int dp :: .ref (ad k i) :: .int sp :: .ref (ad k i) :: rest)) := by
  have nn : ∀ z : Int32, ¬ z < 0 → z.toInt = (z.toNatClampNeg : Int) := by
    intro z hz
    have hz0 : (0 : Int) ≤ z.toInt := by
      have := Int32.not_lt.mp hz
      simpa using Int32.le_iff_toInt_le.mp this
    show z.toInt = ((z.toInt.toNat : Nat) : Int)
    omega
  intro T hT X
  have hlo := (hw.2.1 k i _ he).2
  have hc : H[ad k i]? = some (vp_cell cA (n0, .inl f)) := (hw.2.1 k i _ he).1
  obtain ⟨-, k0, hk0, cm0, hkk0⟩ := (hK.2 t0 _ ht).1 n0 (fun j => .int (f j))
  obtain ⟨vm', X', step⟩ := X.arraycopy hx hown hlink hnat hstat hini (src := ad k i) (dst := ad k i) (cs := vp_cell cA (n0, .inl f)) (cd := vp_cell cA (n0, .inl f)) (srcPos := sp) (destPos := dp) (n := n) (by rw [hT]; exact hc) (by rw [hT]; exact hc)
    (fun _ h => by cases h) (fun _ h => by cases h) (fun h => by cases h) (fun h => by cases h) hk0 hk0 hkk0 hkk0 (by simp [refKind]) h1 h2 h3
    (by rw [nn sp h1, nn n h3]; show ¬ _ > ((arrV cA n0 (fun j => .int (f j))).slots.size : Int); rw [arrV_size]; omega)
    (by rw [nn dp h2, nn n h3]; show ¬ _ > ((arrV cA n0 (fun j => .int (f j))).slots.size : Int); rw [arrV_size]; omega)
    (fun vm₁ _ q hq => by
      have e : (vp_cell cA (n0, .inl f)).slots.getD (sp.toNatClampNeg + q) .null = .int (f (sp.toNatClampNeg + q)) := by
        show (arrV cA n0 (fun j => .int (f j))).slots.getD _ _ = _
        rw [Array.getD_eq_getD_getElem?, arrV_read _ _ (by omega)]
        rfl
      refine ⟨?_, ?_⟩
      · rw [e]
        rfl
      · rw [e]
        exact trivial)
    (g := F0 m pc ls (.int n :: .int dp :: .ref (ad k i) :: .int sp :: .ref (ad k i) :: rest)) rfl (by rw [hml]) (rest := rest) rfl (by rw [hb]; exact hdg) hframes (by show 2 * 0 + _ + (5 + 2 + 11) ≤ _; omega)
  have e1 : copied (vp_cell cA (n0, .inl f)) (vp_cell cA (n0, .inl f)) sp dp n = vp_cell cA (n0, .inl (va_cpy f f sp.toNatClampNeg dp.toNatClampNeg n.toNatClampNeg)) := va_copied (fun z => .int z) cA cA f f h4
  rw [e1] at X' step
  have hl : ad k i < H.size := (Array.getElem?_eq_some_iff.mp hc).1
  have hheap : ((T.setVm vm').setCell (ad k i) (vp_cell cA (n0, .inl (va_cpy f f sp.toNatClampNeg dp.toNatClampNeg n.toNatClampNeg)))).heap = H.setIfInBounds (ad k i) (vp_cell cA (n0, .inl (va_cpy f f sp.toNatClampNeg dp.toNatClampNeg n.toNatClampNeg))) := by rw [← hT]; rfl
  have oq : ∀ q : Nat, q ≠ ad k i → (H.setIfInBounds (ad k i) (vp_cell cA (n0, .inl (va_cpy f f sp.toNatClampNeg dp.toNatClampNeg n.toNatClampNeg))))[q]? = H[q]? := fun q hq => by simp [Array.getElem?_setIfInBounds, Ne.symm hq]
  obtain ⟨t, a1, b1⟩ := kk _ _ (hw.set he (show (H.setIfInBounds (ad k i) _)[ad k i]? = some _ by simp [Array.getElem?_setIfInBounds, hl]) (by simp) oq) ⟨by simp; exact hS.1, fun q g1 g2 => by
      rw [oq q (fun e => g2 (by rw [e]; exact hlo))]
      exact hS.2.1 q g1 g2, fun q hq => by
      rcases List.mem_append.mp hq with h | h
      · exact hS.2.2 q h
      · obtain ⟨z, -, hz⟩ := List.mem_map.mp h
        rw [← hz]
        exact hlo⟩ _ hheap X'
  exact ⟨t, step t a1, b1⟩
end LM
