/-! THE WORLD: cells by kind and number. E k i: what the cell holds; ad k i: where it lies. -/
def u2 {α : Type} (f : Nat → Nat → α) (k i : Nat) (v : α) : Nat → Nat → α := va_up f k (va_up (f k) i v)
theorem u2_self {α : Type} {f : Nat → Nat → α} {k i : Nat} {v : α} : u2 f k i v k i = v := by simp [u2, va_up]
theorem u2_k {α : Type} {f : Nat → Nat → α} {k i k' : Nat} {v : α} (h : k' ≠ k) : u2 f k i v k' = f k' := by simp [u2, va_up, h]
theorem u2_i {α : Type} {f : Nat → Nat → α} {k i i' : Nat} {v : α} (h : i' ≠ i) : u2 f k i v k i' = f k i' := by simp [u2, va_up, h]
theorem u2_some {α : Type} {E : Nat → Nat → Option α} {k i k' i' : Nat} {e e' : α} (h : u2 E k i (some e) k' i' = some e') : (k' = k ∧ i' = i ∧ e' = e) ∨ (¬ (k' = k ∧ i' = i) ∧ E k' i' = some e') := by
  by_cases hk : k' = k
  · subst hk
    by_cases hi : i' = i
    · subst hi
      rw [u2_self] at h
      cases h
      exact Or.inl ⟨rfl, rfl, rfl⟩
    · rw [u2_i hi] at h
      exact Or.inr ⟨fun z => hi z.2, h⟩
  · rw [u2_k hk] at h
    exact Or.inr ⟨fun z => hk z.1, h⟩
def wo (G : va_G) (lo : Nat) (E : Nat → Nat → Option va_E) (ad : Nat → Nat → Nat) (H : Heap) : Prop :=
  lo ≤ H.size ∧ (∀ (k i : Nat) (e : va_E), E k i = some e → va_at G vwCl (ad k i, e) H ∧ lo ≤ ad k i) ∧
  ∀ (k i k' i' : Nat) (e e' : va_E), E k i = some e → E k' i' = some e' → ad k i = ad k' i' → k = k' ∧ i = i'
theorem wo.cast {G : va_G} {lo : Nat} {E E' : Nat → Nat → Option va_E} {ad : Nat → Nat → Nat} {H : Heap} (h : wo G lo E ad H) (e : E = E') : wo G lo E' ad H := e ▸ h
theorem wo.one {G : va_G} {lo : Nat} {E : Nat → Nat → Option va_E} {ad : Nat → Nat → Nat} {H : Heap} (h : wo G lo E ad H) {k i : Nat} {e : va_E} (he : E k i = some e) : va_P G vwCl [(ad k i, e)] H := by
  intro j q hj
  cases j with
  | zero => cases hj; exact (h.2.1 k i e he).1
  | succ j => simp at hj
theorem wo.lt {G : va_G} {lo : Nat} {E : Nat → Nat → Option va_E} {ad : Nat → Nat → Nat} {H : Heap} (h : wo G lo E ad H) {k i : Nat} {e : va_E} (he : E k i = some e) : ad k i < H.size := (h.2.1 k i e he).1.lt
theorem wo.set {G : va_G} {lo : Nat} {E : Nat → Nat → Option va_E} {ad : Nat → Nat → Nat} {H H1 : Heap} {k i : Nat} {e0 e : va_E} (h : wo G lo E ad H) (he : E k i = some e0) (h1 : va_at G vwCl (ad k i, e) H1) (z : H1.size = H.size) (oq : ∀ q : Nat, q ≠ ad k i → H1[q]? = H[q]?) : wo G lo (u2 E k i (some e)) ad H1 := by
  obtain ⟨h0, h2, h3⟩ := h
  have back : ∀ (k' i' : Nat) (e' : va_E), u2 E k i (some e) k' i' = some e' → ∃ x, E k' i' = some x := by
    intro k' i' e' hh
    rcases u2_some hh with ⟨rfl, rfl, -⟩ | ⟨-, q⟩
    · exact ⟨_, he⟩
    · exact ⟨_, q⟩
  refine ⟨by rw [z]; exact h0, ?_, ?_⟩
  · intro k' i' e' hh
    rcases u2_some hh with ⟨rfl, rfl, rfl⟩ | ⟨hn, hh⟩
    · exact ⟨h1, (h2 _ _ _ he).2⟩
    · exact ⟨(h2 _ _ _ hh).1.kept (oq _ fun q => hn (h3 _ _ _ _ _ _ hh he q)), (h2 _ _ _ hh).2⟩
  · intro k1 i1 k2 i2 e1 e2 hh1 hh2 hq
    obtain ⟨x1, g1⟩ := back _ _ _ hh1
    obtain ⟨x2, g2⟩ := back _ _ _ hh2
    exact h3 _ _ _ _ _ _ g1 g2 hq
theorem wo.new {G : va_G} {lo : Nat} {E : Nat → Nat → Option va_E} {ad : Nat → Nat → Nat} {H H1 : Heap} {k i : Nat} {e : va_E} (h : wo G lo E ad H) (he : E k i = none) (h1 : va_at G vwCl (H.size, e) H1) (z : H1.size = H.size + 1) (oq : ∀ q : Nat, q < H.size → H1[q]? = H[q]?) : wo G lo (u2 E k i (some e)) (u2 ad k i H.size) H1 := by
  obtain ⟨h0, h2, h3⟩ := h
  have old : ∀ (k' i' : Nat) (x : va_E), E k' i' = some x → u2 ad k i H.size k' i' = ad k' i' := by
    intro k' i' x hh
    by_cases hk : k' = k
    · subst hk
      by_cases hi : i' = i
      · subst hi
        rw [he] at hh
        cases hh
      · exact congrFun (show u2 ad k' i H.size k' = va_up (ad k') i H.size by simp [u2, va_up]) i' |>.trans (va_up_ne _ _ hi)
    · rw [u2_k hk]
  have olt : ∀ (k' i' : Nat) (x : va_E), E k' i' = some x → ad k' i' < H.size := fun k' i' x hh => (h2 _ _ _ hh).1.lt
  refine ⟨by omega, ?_, ?_⟩
  · intro k' i' e' hh
    rcases u2_some hh with ⟨rfl, rfl, rfl⟩ | ⟨hn, hh⟩
    · rw [u2_self]
      exact ⟨h1, h0⟩
    · rw [old _ _ _ hh]
      exact ⟨(h2 _ _ _ hh).1.kept (oq _ (olt _ _ _ hh)), (h2 _ _ _ hh).2⟩
  · intro k1 i1 k2 i2 e1 e2 hh1 hh2 hq
    rcases u2_some hh1 with ⟨rfl, rfl, -⟩ | ⟨-, g1⟩ <;> rcases u2_some hh2 with ⟨rfl, rfl, -⟩ | ⟨-, g2⟩
    · exact ⟨rfl, rfl⟩
    · rw [u2_self, old _ _ _ g2] at hq
      have := olt _ _ _ g2
      omega
    · rw [u2_self, old _ _ _ g1] at hq
      have := olt _ _ _ g1
      omega
    · rw [old _ _ _ g1, old _ _ _ g2] at hq
      exact h3 _ _ _ _ _ _ g1 g2 hq
/-! LOCALS as a function -/
def lh (ls : Array Slot) (n : Nat) (f : Nat → Option Value) : Prop := ls.size = n ∧ lv_wf ls ∧ ∀ (i : Nat) (v : Value), f i = some v → ls[i]? = some (.val v) ∧ v.category = 1
theorem lh.at {ls : Array Slot} {n : Nat} {f : Nat → Option Value} (h : lh ls n f) {i : Nat} {v : Value} (hv : f i = some v) : ls[i]? = some (.val v) := (h.2.2 i v hv).1
def lh_l (n : Nat) (f : Nat → Option Value) : List (Nat × Value) := (List.range n).filterMap (fun j => (f j).map (fun v => (j, v)))
theorem lh_mem {n : Nat} {f : Nat → Option Value} {q : Nat × Value} : q ∈ lh_l n f ↔ q.1 < n ∧ f q.1 = some q.2 := by
  obtain ⟨j, v⟩ := q
  simp only [lh_l, List.mem_filterMap, List.mem_range, Option.map_eq_some_iff, Prod.mk.injEq]
  constructor
  · rintro ⟨a, h1, b, h2, rfl, rfl⟩
    exact ⟨h1, h2⟩
  · rintro ⟨h1, h2⟩
    exact ⟨j, h1, v, h2, rfl, rfl⟩
theorem lh.has {ls : Array Slot} {n : Nat} {f : Nat → Option Value} (h : lh ls n f) : lv_has ls n (lh_l n f) := ⟨h.1, h.2.1, fun q hq => h.at (lh_mem.mp hq).2⟩
theorem lh.store {ls ls' : Array Slot} {n i : Nat} {f : Nat → Option Value} {v : Value} (h : lh ls n f) (hc : v.category = 1) (h' : lv_has ls' n ((i, v) :: (lh_l n f).filter (fun q => !(q.1 == i) && !(q.1 + 1 == i && q.2.category == 2)))) : lh ls' n (va_up f i (some v)) := by
  refine ⟨h'.1, h'.2.1, fun j w hj => ?_⟩
  by_cases hji : j = i
  · subst hji
    rw [va_up_self] at hj
    cases hj
    exact ⟨h'.2.2 (j, v) List.mem_cons_self, hc⟩
  · rw [va_up_ne _ _ hji] at hj
    have hw := (h.2.2 j w hj).2
    refine ⟨h'.2.2 (j, w) (List.mem_cons_of_mem _ (List.mem_filter.mpr ⟨lh_mem.mpr ⟨?_, hj⟩, ?_⟩)), hw⟩
    · have := lv_lt (h.at hj)
      rw [h.1] at this
      exact this
    · simp [hji, hw]
theorem lh.of {ls : Array Slot} {n : Nat} {l : List (Nat × Value)} (h : lv_has ls n l) (hc : l.all (fun q => q.2.category == 1) = true) : lh ls n (fun i => (l.find? (fun q => q.1 == i)).map (fun q => q.2)) := by
  refine ⟨h.1, h.2.1, fun i v hv => ?_⟩
  obtain ⟨q, h1, h2⟩ := Option.map_eq_some_iff.mp hv
  have hm := List.mem_of_find?_eq_some h1
  have hi := List.find?_some h1
  simp at hi
  subst h2
  subst hi
  have := List.all_eq_true.mp hc q hm
  simp at this
  exact ⟨h.2.2 q hm, this⟩
section LF
variable {p : Program} {l : Launch} {e : Env} {R : Room} {s : State} {m : MethodId} {args : Array Value} {below : List Frame} {meth : Method} {c : Code} {H : Heap} {locs : List Loc} {cells slots : Nat} {Q : State → Prop}
variable {cc : ByteArray} {pc : Nat} {ls : Array Slot} {rest : List Value} {nL : Nat} {f : Nat → Option Value}
theorem f_iload_n (hx : p.tables.exec = Jvm.exec) (hb : c.code = cc) {k : Fin 4} {x : Int32} (hdg : decode cc pc = .ok (.iload_n k, 1)) (hl : lh ls nL f) (i : Nat) (hi : (k : Nat) = i) (hv : f i = some (.int x)) (kk : W p l e R s m args below meth c H locs cells slots Q (F0 m (pc + 1) ls (.int x :: rest))) : W p l e R s m args below meth c H locs cells slots Q (F0 m pc ls rest) := lv_iload_n hx hb hdg hi (hl.at hv) kk
theorem f_iload (hx : p.tables.exec = Jvm.exec) (hb : c.code = cc) {i : Nat} {x : Int32} (hdg : decode cc pc = .ok (.iload i, 2)) (hl : lh ls nL f) (hv : f i = some (.int x)) (kk : W p l e R s m args below meth c H locs cells slots Q (F0 m (pc + 2) ls (.int x :: rest))) : W p l e R s m args below meth c H locs cells slots Q (F0 m pc ls rest) := lv_iload hx hb hdg (hl.at hv) kk
theorem f_aload_n (hx : p.tables.exec = Jvm.exec) (hb : c.code = cc) {k : Fin 4} {x : Nat} (hdg : decode cc pc = .ok (.aload_n k, 1)) (hl : lh ls nL f) (i : Nat) (hi : (k : Nat) = i) (hv : f i = some (.ref x)) (kk : W p l e R s m args below meth c H locs cells slots Q (F0 m (pc + 1) ls (.ref x :: rest))) : W p l e R s m args below meth c H locs cells slots Q (F0 m pc ls rest) := lv_aload_n hx hb hdg hi (hl.at hv) kk
theorem f_aload (hx : p.tables.exec = Jvm.exec) (hb : c.code = cc) {i : Nat} {x : Nat} (hdg : decode cc pc = .ok (.aload i, 2)) (hl : lh ls nL f) (hv : f i = some (.ref x)) (kk : W p l e R s m args below meth c H locs cells slots Q (F0 m (pc + 2) ls (.ref x :: rest))) : W p l e R s m args below meth c H locs cells slots Q (F0 m pc ls rest) := lv_aload hx hb hdg (hl.at hv) kk
theorem f_aload_nN (hx : p.tables.exec = Jvm.exec) (hb : c.code = cc) {k : Fin 4} (hdg : decode cc pc = .ok (.aload_n k, 1)) (hl : lh ls nL f) (i : Nat) (hi : (k : Nat) = i) (hv : f i = some .null) (kk : W p l e R s m args below meth c H locs cells slots Q (F0 m (pc + 1) ls (.null :: rest))) : W p l e R s m args below meth c H locs cells slots Q (F0 m pc ls rest) := lv_aload_nN hx hb hdg hi (hl.at hv) kk
theorem f_aloadN (hx : p.tables.exec = Jvm.exec) (hb : c.code = cc) {i : Nat} (hdg : decode cc pc = .ok (.aload i, 2)) (hl : lh ls nL f) (hv : f i = some .null) (kk : W p l e R s m args below meth c H locs cells slots Q (F0 m (pc + 2) ls (.null :: rest))) : W p l e R s m args below meth c H locs cells slots Q (F0 m pc ls rest) := lv_aloadN hx hb hdg (hl.at hv) kk
theorem f_istore_n (hx : p.tables.exec = Jvm.exec) (hb : c.code = cc) {k : Fin 4} {x : Int32} (hdg : decode cc pc = .ok (.istore_n k, 1)) (hl : lh ls nL f) (i : Nat) (hi : (k : Nat) = i) (hn : i < nL) (kk : ∀ ls : Array Slot, lh ls nL (va_up f i (some (.int x))) → W p l e R s m args below meth c H locs cells slots Q (F0 m (pc + 1) ls rest)) : W p l e R s m args below meth c H locs cells slots Q (F0 m pc ls (.int x :: rest)) := lv_istore_n hx hb hdg hi hl.has hn rfl (fun ls' h' => kk ls' (hl.store rfl h'))
theorem f_istore (hx : p.tables.exec = Jvm.exec) (hb : c.code = cc) {i : Nat} {x : Int32} (hdg : decode cc pc = .ok (.istore i, 2)) (hl : lh ls nL f) (hn : i < nL) (kk : ∀ ls : Array Slot, lh ls nL (va_up f i (some (.int x))) → W p l e R s m args below meth c H locs cells slots Q (F0 m (pc + 2) ls rest)) : W p l e R s m args below meth c H locs cells slots Q (F0 m pc ls (.int x :: rest)) := lv_istore hx hb hdg hl.has hn rfl (fun ls' h' => kk ls' (hl.store rfl h'))
theorem f_astore_n (hx : p.tables.exec = Jvm.exec) (hb : c.code = cc) {k : Fin 4} {x : Nat} (hdg : decode cc pc = .ok (.astore_n k, 1)) (hl : lh ls nL f) (i : Nat) (hi : (k : Nat) = i) (hn : i < nL) (kk : ∀ ls : Array Slot, lh ls nL (va_up f i (some (.ref x))) → W p l e R s m args below meth c H locs cells slots Q (F0 m (pc + 1) ls rest)) : W p l e R s m args below meth c H locs cells slots Q (F0 m pc ls (.ref x :: rest)) := lv_astore_n hx hb hdg hi hl.has hn rfl (fun ls' h' => kk ls' (hl.store rfl h'))
theorem f_astore (hx : p.tables.exec = Jvm.exec) (hb : c.code = cc) {i : Nat} {x : Nat} (hdg : decode cc pc = .ok (.astore i, 2)) (hl : lh ls nL f) (hn : i < nL) (kk : ∀ ls : Array Slot, lh ls nL (va_up f i (some (.ref x))) → W p l e R s m args below meth c H locs cells slots Q (F0 m (pc + 2) ls rest)) : W p l e R s m args below meth c H locs cells slots Q (F0 m pc ls (.ref x :: rest)) := lv_astore hx hb hdg hl.has hn rfl (fun ls' h' => kk ls' (hl.store rfl h'))
theorem f_astore_nN (hx : p.tables.exec = Jvm.exec) (hb : c.code = cc) {k : Fin 4} (hdg : decode cc pc = .ok (.astore_n k, 1)) (hl : lh ls nL f) (i : Nat) (hi : (k : Nat) = i) (hn : i < nL) (kk : ∀ ls : Array Slot, lh ls nL (va_up f i (some .null)) → W p l e R s m args below meth c H locs cells slots Q (F0 m (pc + 1) ls rest)) : W p l e R s m args below meth c H locs cells slots Q (F0 m pc ls (.null :: rest)) := lv_astore_nN hx hb hdg hi hl.has hn rfl (fun ls' h' => kk ls' (hl.store rfl h'))
theorem f_astoreN (hx : p.tables.exec = Jvm.exec) (hb : c.code = cc) {i : Nat} (hdg : decode cc pc = .ok (.astore i, 2)) (hl : lh ls nL f) (hn : i < nL) (kk : ∀ ls : Array Slot, lh ls nL (va_up f i (some .null)) → W p l e R s m args below meth c H locs cells slots Q (F0 m (pc + 2) ls rest)) : W p l e R s m args below meth c H locs cells slots Q (F0 m pc ls (.null :: rest)) := lv_astoreN hx hb hdg hl.has hn rfl (fun ls' h' => kk ls' (hl.store rfl h'))
theorem f_iinc (hx : p.tables.exec = Jvm.exec) (hb : c.code = cc) {i : Nat} {n : Int} {x : Int32} (hdg : decode cc pc = .ok (.iinc i n, 3)) (hl : lh ls nL f) (hv : f i = some (.int x)) {d : Int32} (hd : Int32.ofInt n = d) (hn : i < nL) (kk : ∀ ls : Array Slot, lh ls nL (va_up f i (some (.int (x + d)))) → W p l e R s m args below meth c H locs cells slots Q (F0 m (pc + 3) ls rest)) : W p l e R s m args below meth c H locs cells slots Q (F0 m pc ls rest) := by
  subst hd
  have hm : (i, Value.int x) ∈ lh_l nL f := lh_mem.mpr ⟨by have := lv_lt (hl.at hv); rw [hl.1] at this; exact this, hv⟩
  obtain ⟨k, hk⟩ := List.getElem?_of_mem hm
  exact lv_iinc hx hb hdg hl.has hk rfl hn rfl (fun ls' h' => kk ls' (hl.store rfl h'))
end LF
section LE
variable {p : Program} {l : Launch} {e : Env} {R : Room} {s : State} {m : MethodId} {args : Array Value} {below : List Frame} {meth : Method} {c : Code} {H : Heap} {locs : List Loc} {cells slots : Nat} {Q : State → Prop}
variable {cc : ByteArray} {pc : Nat} {ls : Array Slot} {rest : List Value} {G : va_G} {lo : Nat} {E : Nat → Nat → Option va_E} {ad : Nat → Nat → Nat} {H0 : Heap} {tys : List (ClassId × FieldType)} {k i : Nat}
theorem e_get (hx : p.tables.exec = Jvm.exec) (hb : c.code = cc) {own C : String} {T : u_T} {N ci index : Nat} {Ts : List Cond} (hts : ∀ w ∈ Ts, w.before args s = true) (hin : ∀ w ∈ u_ws C T N, w ∈ Ts) (hown : s.vm.findClass own = some m.cls) (hK : va_K G vwCl tys s) (hw : wo G lo E ad H) {fs : List Value} (he : E k i = some (.inr (ci, fs))) (hc : vwCl[ci]? = some (C, T, N)) (f : Nat) (hf : f < N) (hlink : (Cond.fieldLink own index (T f).1 (T f).2.1 (T f).2.2.1).before args s = true) {v : Value} (hv : fs[f]? = some v) (hdg : decode cc pc = .ok (.getfield index, 3))
    (kk : W p l e R s m args below meth c H locs cells slots Q (F0 m (pc + 3) ls (v :: rest))) : W p l e R s m args below meth c H locs cells slots Q (F0 m pc ls (.ref (ad k i) :: rest)) :=
  va_get (D := G) (cl := vwCl) (tys := tys) (ws := [(ad k i, .inr (ci, fs))]) hx hb hts hin hown hK (hw.one he) 0 rfl hc f hf hlink (fun _ h => h) hv hdg kk
theorem e_put (hx : p.tables.exec = Jvm.exec) (hb : c.code = cc) {own C : String} {T : u_T} {N ci index : Nat} {Ts : List Cond} (hts : ∀ w ∈ Ts, w.before args s = true) (hin : ∀ w ∈ u_ws C T N, w ∈ Ts) (ty0 : Nat → FieldType) (hty : ∀ k, k < N → parseFieldDescriptor (T k).2.2.1 = some (ty0 k)) (hnm : ∀ a, a < N → ∀ b, b < N → a ≠ b → (T a).2.1 ≠ (T b).2.1) (hown : s.vm.findClass own = some m.cls) (hK : va_K G vwCl tys s) (hw : wo G lo E ad H) (hS0 : va_S (fun q => lo ≤ q) H0 H locs) {fs : List Value} (he : E k i = some (.inr (ci, fs))) (hc : vwCl[ci]? = some (C, T, N)) (f : Nat) (hk : f < N) (hlink : (Cond.fieldLink own index (T f).1 (T f).2.1 (T f).2.2.1).before args s = true) (hfin : (T f).2.2.2 = false) {ty : FieldType} {v : Value} (hd : parseFieldDescriptor (T f).2.2.1 = some ty) (hn : narrow ty v = v) (hfit : fits ty v = true) (hl : f < fs.length)
    (hdg : decode cc pc = .ok (.putfield index, 3)) (kk : ∀ (H1 : Heap) (locs1 : List Loc), wo G lo (u2 E k i (some (.inr (ci, fs.set f v)))) ad H1 → va_S (fun q => lo ≤ q) H0 H1 locs1 → W p l e R s m args below meth c H1 locs1 cells slots Q (F0 m (pc + 3) ls rest)) : W p l e R s m args below meth c H locs cells slots Q (F0 m pc ls (v :: .ref (ad k i) :: rest)) := by
  have hap := va_apart (own := own) hts hin ty0 hty hnm hK hc
  obtain ⟨r, h1, cell, q1, q2, q3, q4⟩ := (hw.2.1 k i _ he).1
  have hr : r = (C, T, N) := Option.some.inj (h1.symm.trans hc)
  subst hr
  obtain ⟨hS, hfc, kC, hkC, hkind⟩ := hK.1 ci _ hc
  obtain ⟨cf, kf, fi, fd, hi, hsl⟩ := hS f hk
  have hlay := hts _ (hin _ (u_in_lay hk))
  unfold u_lay at hlay
  rw [if_neg (by rw [hfin]; decide)] at hlay
  have hst := (u_facts hfc hkC (u_lays hts hin hk) hi).1
  have h6 := u_store hfc hkC hkind hlay hi hd hn hfit
  refine W.putK hx hb (f := fd) ⟨hown, hlink, ⟨_, _, _, hi⟩, hst⟩ (by rw [q2]; exact h6) q1 q3 (by rw [hsl]; exact k2_hasslot (q4 f hk)) rfl rfl hdg fun H' e1 e2 e3 => ?_
  rw [hsl] at e1 ⊢
  exact kk H' _ (hw.set he ⟨_, hc, t_OB.to (V := updV (vp_V fs) f v) ⟨_, e1, q2, q3, t_set q4 hap hk v⟩ (fun j _ => vp_updV_set hl v j)⟩ e2 e3) (hS0.put e2 e3 (hw.2.1 k i _ he).2)
theorem e_putF (hx : p.tables.exec = Jvm.exec) (hb : c.code = cc) {own C : String} {T : u_T} {N ci index : Nat} {Ts : List Cond} (hts : ∀ w ∈ Ts, w.before args s = true) (hin : ∀ w ∈ u_ws C T N, w ∈ Ts) (ty0 : Nat → FieldType) (hty : ∀ k, k < N → parseFieldDescriptor (T k).2.2.1 = some (ty0 k)) (hnm : ∀ a, a < N → ∀ b, b < N → a ≠ b → (T a).2.1 ≠ (T b).2.1) (hown : s.vm.findClass own = some m.cls) (hK : va_K G vwCl tys s) (hw : wo G lo E ad H) (hS0 : va_S (fun q => lo ≤ q) H0 H locs) {fs : List Value} (he : E k i = some (.inr (ci, fs))) (hc : vwCl[ci]? = some (C, T, N)) (f : Nat) (hk : f < N) (hlink : (Cond.fieldLink own index (T f).1 (T f).2.1 (T f).2.2.1).before args s = true) (hfin : (T f).2.2.2 = true) (hin2 : meth.name = "<init>") (hdecl : (T f).1 = own) {ty : FieldType} {v : Value} (hd : parseFieldDescriptor (T f).2.2.1 = some ty) (hn : narrow ty v = v) (hfit : fits ty v = true) (hl : f < fs.length)
    (hdg : decode cc pc = .ok (.putfield index, 3)) (kk : ∀ (H1 : Heap) (locs1 : List Loc), wo G lo (u2 E k i (some (.inr (ci, fs.set f v)))) ad H1 → va_S (fun q => lo ≤ q) H0 H1 locs1 → W p l e R s m args below meth c H1 locs1 cells slots Q (F0 m (pc + 3) ls rest)) : W p l e R s m args below meth c H locs cells slots Q (F0 m pc ls (v :: .ref (ad k i) :: rest)) := by
  have hap := va_apart (own := own) hts hin ty0 hty hnm hK hc
  obtain ⟨r, h1, cell, q1, q2, q3, q4⟩ := (hw.2.1 k i _ he).1
  have hr : r = (C, T, N) := Option.some.inj (h1.symm.trans hc)
  subst hr
  obtain ⟨hS, hfc, kC, hkC, hkind⟩ := hK.1 ci _ hc
  obtain ⟨cf, kf, fi, fd, hi, hsl⟩ := hS f hk
  have hlay := hts _ (hin _ (u_in_lay hk))
  unfold u_lay at hlay
  rw [if_pos hfin] at hlay
  have hst := (u_facts hfc hkC (u_lays hts hin hk) hi).1
  have hcf : m.cls = cf := by
    obtain ⟨_, _, c', _, _, _, -, -, hf', -, -, -, hown2, -⟩ := Cond.laysFinal_spec hlay
    have e1 : c' = cf := by have := hi.symm.trans hf'; simp at this; exact this.1.symm
    rw [hdecl] at hown2
    rw [← e1]; exact Option.some.inj (hown.symm.trans hown2)
  have h6 := u_fits hfc hkC hkind (Or.inr hlay) hi hd hn hfit
  refine W.putFinK hx hb hown hlink hi hst hcf hin2 (by rw [q2]; exact h6) q1 q3 (by rw [hsl]; exact k2_hasslot (q4 f hk)) rfl rfl hdg fun H' e1 e2 e3 => ?_
  rw [hsl] at e1 ⊢
  exact kk H' _ (hw.set he ⟨_, hc, t_OB.to (V := updV (vp_V fs) f v) ⟨_, e1, q2, q3, t_set q4 hap hk v⟩ (fun j _ => vp_updV_set hl v j)⟩ e2 e3) (hS0.put e2 e3 (hw.2.1 k i _ he).2)
theorem e_iald (hx : p.tables.exec = Jvm.exec) (hb : c.code = cc) (hK : va_K G vwCl tys s) (hw : wo G lo E ad H) (t0 : Nat) {cA : ClassId} {n : Nat} {f : Nat → Int32} (he : E k i = some (.inl (cA, n, .inl f))) (ht : tys[t0]? = some (cA, .int)) {x : Int32} (hin : vp_in x n) (hdg : decode cc pc = .ok (.iaload, 1))
    (kk : W p l e R s m args below meth c H locs cells slots Q (F0 m (pc + 1) ls (.int (f x.toNatClampNeg) :: rest))) : W p l e R s m args below meth c H locs cells slots Q (F0 m pc ls (.int x :: .ref (ad k i) :: rest)) :=
  va_iald (D := G) (cl := vwCl) (tys := tys) (ws := [(ad k i, .inl (cA, n, .inl f))]) hx hb hK (hw.one he) 0 t0 rfl ht hin hdg kk
theorem e_zald (hx : p.tables.exec = Jvm.exec) (hb : c.code = cc) (hK : va_K G vwCl tys s) (hw : wo G lo E ad H) (t0 : Nat) {cA : ClassId} {n : Nat} {f : Nat → Int32} (he : E k i = some (.inl (cA, n, .inl f))) (ht : tys[t0]? = some (cA, .boolean)) {x : Int32} (hin : vp_in x n) (hdg : decode cc pc = .ok (.baload, 1))
    (kk : W p l e R s m args below meth c H locs cells slots Q (F0 m (pc + 1) ls (.int (f x.toNatClampNeg) :: rest))) : W p l e R s m args below meth c H locs cells slots Q (F0 m pc ls (.int x :: .ref (ad k i) :: rest)) :=
  va_zald (D := G) (cl := vwCl) (tys := tys) (ws := [(ad k i, .inl (cA, n, .inl f))]) hx hb hK (hw.one he) 0 t0 rfl ht hin hdg kk
theorem e_aald (hx : p.tables.exec = Jvm.exec) (hb : c.code = cc) (hK : va_K G vwCl tys s) (hw : wo G lo E ad H) (t0 : Nat) {cA : ClassId} {C : String} {n : Nat} {f : Nat → Option Nat} (he : E k i = some (.inl (cA, n, .inr (.inr (.inr (.inr f)))))) (ht : tys[t0]? = some (cA, .object C)) {x : Int32} (hin : vp_in x n) (hdg : decode cc pc = .ok (.aaload, 1))
    (kk : W p l e R s m args below meth c H locs cells slots Q (F0 m (pc + 1) ls (va_rf (f x.toNatClampNeg) :: rest))) : W p l e R s m args below meth c H locs cells slots Q (F0 m pc ls (.int x :: .ref (ad k i) :: rest)) :=
  va_aldq (D := G) (cl := vwCl) (tys := tys) (ws := [(ad k i, .inl (cA, n, .inr (.inr (.inr (.inr f)))))]) hx hb hK (hw.one he) 0 t0 rfl ht hin hdg kk
theorem e_alen (hx : p.tables.exec = Jvm.exec) (hb : c.code = cc) (hK : va_K G vwCl tys s) (hw : wo G lo E ad H) (t0 : Nat) {cA : ClassId} {x : vp_A} (he : E k i = some (.inl (cA, x))) {ty : FieldType} (ht : tys[t0]? = some (cA, ty)) {v : Int32} (hv : Int32.ofNat x.1 = v) (hdg : decode cc pc = .ok (.arraylength, 1))
    (kk : W p l e R s m args below meth c H locs cells slots Q (F0 m (pc + 1) ls (.int v :: rest))) : W p l e R s m args below meth c H locs cells slots Q (F0 m pc ls (.ref (ad k i) :: rest)) :=
  va_alen (D := G) (cl := vwCl) (tys := tys) (ws := [(ad k i, .inl (cA, x))]) hx hb hK (hw.one he) 0 t0 rfl ht hv hdg kk
theorem e_iast (hx : p.tables.exec = Jvm.exec) (hb : c.code = cc) (hK : va_K G vwCl tys s) (hw : wo G lo E ad H) (hS : va_S (fun q => lo ≤ q) H0 H locs) (t0 : Nat) {cA : ClassId} {n : Nat} {f : Nat → Int32} (he : E k i = some (.inl (cA, n, .inl f))) (ht : tys[t0]? = some (cA, .int)) {x v : Int32} (hin : vp_in x n) (hdg : decode cc pc = .ok (.iastore, 1))
    (kk : ∀ (H1 : Heap) (locs1 : List Loc), wo G lo (u2 E k i (some (.inl (cA, n, .inl (va_up f x.toNatClampNeg v))))) ad H1 → va_S (fun q => lo ≤ q) H0 H1 locs1 → W p l e R s m args below meth c H1 locs1 cells slots Q (F0 m (pc + 1) ls rest)) : W p l e R s m args below meth c H locs cells slots Q (F0 m pc ls (.int v :: .int x :: .ref (ad k i) :: rest)) := by
  have hc := (hw.2.1 k i _ he).1
  refine W.iast hx hb hc ((hK.2 t0 _ ht).1 n (fun j => .int (f j))) (fun q => by cases q) (by show ¬ (x < 0 ∨ (arrV _ _ _).slots.size ≤ _); rw [arrV_size]; exact hin) rfl rfl hdg fun H1 e z oq => ?_
  refine kk H1 _ (hw.set he ?_ z oq) (hS.put z oq (hw.2.1 k i _ he).2)
  show H1[ad k i]? = some (vp_cell _ _)
  rw [e, vp_cell_i, vp_cell_i, arrV_store]
  congr 2
  funext q
  by_cases hq : q = x.toNatClampNeg <;> simp [updV, va_up, hq]
theorem e_zast (hx : p.tables.exec = Jvm.exec) (hb : c.code = cc) (hK : va_K G vwCl tys s) (hw : wo G lo E ad H) (hS : va_S (fun q => lo ≤ q) H0 H locs) (t0 : Nat) {cA : ClassId} {n : Nat} {f : Nat → Int32} (he : E k i = some (.inl (cA, n, .inl f))) (ht : tys[t0]? = some (cA, .boolean)) {x v : Int32} (hin : vp_in x n) (hv : narrow .boolean (.int v) = .int v) (hdg : decode cc pc = .ok (.bastore, 1))
    (kk : ∀ (H1 : Heap) (locs1 : List Loc), wo G lo (u2 E k i (some (.inl (cA, n, .inl (va_up f x.toNatClampNeg v))))) ad H1 → va_S (fun q => lo ≤ q) H0 H1 locs1 → W p l e R s m args below meth c H1 locs1 cells slots Q (F0 m (pc + 1) ls rest)) : W p l e R s m args below meth c H locs cells slots Q (F0 m pc ls (.int v :: .int x :: .ref (ad k i) :: rest)) := by
  have hc := (hw.2.1 k i _ he).1
  refine W.zast hx hb hc ((hK.2 t0 _ ht).1 n (fun j => .int (f j))) (fun q => by cases q) (by show ¬ (x < 0 ∨ (arrV _ _ _).slots.size ≤ _); rw [arrV_size]; exact hin) rfl rfl hdg fun H1 e z oq => ?_
  refine kk H1 _ (hw.set he ?_ z oq) (hS.put z oq (hw.2.1 k i _ he).2)
  show H1[ad k i]? = some (vp_cell _ _)
  rw [e, hv, vp_cell_i, vp_cell_i, arrV_store]
  congr 2
  funext q
  by_cases hq : q = x.toNatClampNeg <;> simp [updV, va_up, hq]
theorem e_aast (hx : p.tables.exec = Jvm.exec) (hb : c.code = cc) (hK : va_K G vwCl tys s) (hw : wo G lo E ad H) (hS : va_S (fun q => lo ≤ q) H0 H locs) (t0 ci : Nat) {k' i' : Nat} {cA : ClassId} {r : vw_C} {n : Nat} {vs : List Value} {f : Nat → Option Nat} (he : E k i = some (.inl (cA, n, .inr (.inr (.inr (.inr f)))))) (ht : tys[t0]? = some (cA, .object r.1)) (hv : E k' i' = some (.inr (ci, vs))) (hcl : vwCl[ci]? = some r) {x : Int32} (hin : vp_in x n) (hdg : decode cc pc = .ok (.aastore, 1))
    (kk : ∀ (H1 : Heap) (locs1 : List Loc), wo G lo (u2 E k i (some (.inl (cA, n, .inr (.inr (.inr (.inr (va_up f x.toNatClampNeg (some (ad k' i')))))))))) ad H1 → va_S (fun q => lo ≤ q) H0 H1 locs1 → W p l e R s m args below meth c H1 locs1 cells slots Q (F0 m (pc + 1) ls rest)) : W p l e R s m args below meth c H locs cells slots Q (F0 m pc ls (.ref (ad k' i') :: .int x :: .ref (ad k i) :: rest)) := by
  have hc := (hw.2.1 k i _ he).1
  have hlt : x.toNatClampNeg < n := Nat.not_le.mp fun q => hin (Or.inr q)
  have h0 : ¬ x < 0 := fun q => hin (Or.inl q)
  obtain ⟨r', hr', cellV, g1, g2, g3, -⟩ := (hw.2.1 k' i' _ hv).1
  have hcls := (hK.1 ci r hcl).2
  obtain ⟨kA, comp, k1, k2, k3, -⟩ := (hK.2 t0 _ ht).2
  have hcomp : comp = G.1 ci := Option.some.inj (k3.symm.trans hcls.1)
  subst hcomp
  obtain ⟨kC, hkC, -⟩ := hcls.2
  refine W.aast hx hb hc (fun q h => by cases h) (fun h => by cases h) k1 k2 rfl hkC ⟨h0, by show _ < (arrV _ _ _).slots.size; rw [arrV_size]; exact hlt⟩ g1 (fun q h => by rw [g3] at h; cases h) (by rw [g2]; exact hkC) (by rw [g2]; exact va_assign hcls) rfl rfl hdg fun H1 e z oq => ?_
  refine kk H1 _ (hw.set he ?_ z oq) (hS.put z oq (hw.2.1 k i _ he).2)
  show H1[ad k i]? = some (vp_cell _ _)
  rw [e, vp_cell_q, vp_cell_q, arrV_store]
  congr 2
  funext q
  by_cases hq : q = x.toNatClampNeg <;> simp [updV, va_up, hq, va_rf]
/-- a new object: at any cell number that is free -/
theorem e_new (hx : p.tables.exec = Jvm.exec) (hb : c.code = cc) {own C : String} {T : u_T} {N ci index : Nat} {Ts : List Cond} (hts : ∀ w ∈ Ts, w.before args s = true) (hin : ∀ w ∈ u_ws C T N, w ∈ Ts) (ty : Nat → FieldType) (hty : ∀ k, k < N → parseFieldDescriptor (T k).2.2.1 = some (ty k)) (hown : s.vm.findClass own = some m.cls) (hcl : (Cond.classLink own index C).before args s = true) (hinst : (Cond.instantiable C N).before args s = true) (hini : (Cond.initialized C).before args s = true)
    (hK : va_K G vwCl tys s) (hw : wo G lo E ad H) (hS : va_S (fun q => lo ≤ q) H0 H locs) (hc : vwCl[ci]? = some (C, T, N)) (k i : Nat) (he : E k i = none) {fs : List Value} (hfs : ∀ j, j < N → defaultValue (ty j) = vp_V fs j) (hcells : cells + 1 ≤ R.cells) (hslots : slots + N ≤ R.slots) (hdg : decode cc pc = .ok (.new index, 3))
    (kk : ∀ (H1 : Heap) (ad1 : Nat → Nat → Nat), ad1 = u2 ad k i H.size → wo G lo (u2 E k i (some (.inr (ci, fs)))) ad1 H1 → va_S (fun q => lo ≤ q) H0 H1 locs → W p l e R s m args below meth c H1 locs (cells + 1) (slots + N) Q (F0 m (pc + 3) ls (.ref (ad1 k i) :: rest))) : W p l e R s m args below meth c H locs cells slots Q (F0 m pc ls rest) := by
  have hKn := hK.1 ci _ hc
  refine W.newcK hx hb hown hcl hinst hini rfl hdg hcells hslots hKn.2.1 rfl fun H1 kC hkC e1 z1 o1 => ?_
  have h1 := kk H1 (u2 ad k i H.size) rfl (hw.new he ⟨_, hc, (u_born ty hts hin hKn hkC e1 hty).to hfs⟩ z1 o1) ⟨Nat.le_trans hS.1 (by omega), fun x h1 h2 => (o1 x (Nat.lt_of_lt_of_le h1 hS.1)).trans (hS.2.1 x h1 h2), hS.2.2⟩
  rw [u2_self] at h1
  exact h1
/-- a new array of ints or booleans, its class known -/
theorem e_newa (hx : p.tables.exec = Jvm.exec) (hb : c.code = cc) {atype : ArrayType} (harr : (Cond.arrayClass (newarray.typeOf atype)).before args s = true) (hw : wo G lo E ad H) (hS : va_S (fun q => lo ≤ q) H0 H locs) (k i : Nat) (he : E k i = none)
    {n : Int32} {N : Nat} (ha : defaultValue (newarray.typeOf atype) = .int 0) (hn : ¬ n < 0) (hN : n.toNatClampNeg = N) (hbytes : N * componentBytes (newarray.typeOf atype) ≤ 536870912) (hcells : cells + 1 ≤ R.cells) (hslots : slots + N ≤ R.slots) (hdg : decode cc pc = .ok (.newarray atype, 2))
    (kk : ∀ (cA : ClassId) (H1 : Heap) (ad1 : Nat → Nat → Nat), ad1 = u2 ad k i H.size → ArrOfT s cA (newarray.typeOf atype) → s.vm.findClass ("[" ++ (newarray.typeOf atype).toString) = some cA → wo G lo (u2 E k i (some (.inl (cA, N, .inl (fun _ => 0))))) ad1 H1 → va_S (fun q => lo ≤ q) H0 H1 locs → W p l e R s m args below meth c H1 locs (cells + 1) (slots + N) Q (F0 m (pc + 2) ls (.ref (ad1 k i) :: rest))) : W p l e R s m args below meth c H locs cells slots Q (F0 m pc ls (.int n :: rest)) := by
  refine va_newaK hx hb harr rfl hdg rfl hn hN hbytes hcells hslots rfl fun H1 cA e1 z1 o1 hAr hNm => ?_
  have h1 := kk cA H1 (u2 ad k i H.size) rfl hAr hNm (hw.new he (show H1[H.size]? = some (vp_cell cA (N, .inl (fun _ => 0))) by rw [e1, ha]; rfl) z1 o1) ⟨Nat.le_trans hS.1 (by omega), fun x h1 h2 => (o1 x (Nat.lt_of_lt_of_le h1 hS.1)).trans (hS.2.1 x h1 h2), hS.2.2⟩
  rw [u2_self] at h1
  exact h1
/-- a new array of references -/
theorem e_newq (hx : p.tables.exec = Jvm.exec) (hb : c.code = cc) {own C : String} {index : Nat} (hown : s.vm.findClass own = some m.cls) (hclink : (Cond.classLink own index C).before args s = true) (hover : (Cond.arrayOver (.object C)).before args s = true) (hw : wo G lo E ad H) (hS : va_S (fun q => lo ≤ q) H0 H locs) (k i : Nat) (he : E k i = none)
    {n : Int32} {N : Nat} (hn : ¬ n < 0) (hN : n.toNatClampNeg = N) (hbytes : N * 4 ≤ 536870912) (hcells : cells + 1 ≤ R.cells) (hslots : slots + N ≤ R.slots) (hdg : decode cc pc = .ok (.anewarray index, 3))
    (kk : ∀ (cA : ClassId) (H1 : Heap) (ad1 : Nat → Nat → Nat), ad1 = u2 ad k i H.size → ArrOfT s cA (.object C) → va_RA s cA (.object C) → wo G lo (u2 E k i (some (.inl (cA, N, .inr (.inr (.inr (.inr (fun _ => none)))))))) ad1 H1 → va_S (fun q => lo ≤ q) H0 H1 locs → W p l e R s m args below meth c H1 locs (cells + 1) (slots + N) Q (F0 m (pc + 3) ls (.ref (ad1 k i) :: rest))) : W p l e R s m args below meth c H locs cells slots Q (F0 m pc ls (.int n :: rest)) := by
  subst hN
  refine W.anew hx hb hown hclink hover rfl hdg rfl hn hbytes hcells hslots fun cA kA comp f1 f2 f3 f4 => ?_
  generalize hH1 : H.push ({ cls := cA, slots := Array.replicate n.toNatClampNeg .null, vm := .none } : Cell) = H1
  have z1 : H1.size = H.size + 1 := by rw [← hH1, Array.size_push]
  have e1 : H1[H.size]? = some (arrV cA n.toNatClampNeg (fun _ => .null)) := by rw [← hH1, Array.getElem?_push_size, ← arrV_new]
  have o1 : ∀ q : Nat, q < H.size → H1[q]? = H[q]? := fun q hq => by rw [← hH1, Array.getElem?_push, if_neg (Nat.ne_of_lt hq)]
  have hAr : ArrOfT s cA (.object C) := fun N z => ⟨(fun k h => by cases h), kA, f2, comp, f3⟩
  have h1 := kk cA H1 (u2 ad k i H.size) rfl hAr ⟨kA, comp, f2, f3, f4, f1⟩ (hw.new he (show H1[H.size]? = some (vp_cell cA (n.toNatClampNeg, .inr (.inr (.inr (.inr (fun _ => none)))))) by rw [e1]; rfl) z1 o1) ⟨Nat.le_trans hS.1 (by omega), fun x h1 h2 => (o1 x (Nat.lt_of_lt_of_le h1 hS.1)).trans (hS.2.1 x h1 h2), hS.2.2⟩
  rw [u2_self] at h1
  exact h1
end LE
