/-! rows for the class and the reference, in the state's words -/
section CLS
variable {p : Program} {l : Launch} {e : Env} {R : Room} {s : State} {m : MethodId} {args : Array Value} {below : List Frame} {meth : Method} {c : Code} {H : Heap} {locs : List Loc} {cells slots : Nat} {Q : State → Prop}
variable {cc : ByteArray} {pc : Nat} {ls : Array Slot} {rest : List Value} {G : va_G} {lo : Nat} {ad : Nat → Nat → Nat} {H0 : Heap} {Y : YT} {ng nr nb : Nat} {z u zc : St}
theorem q_isp (hx : p.tables.exec = Jvm.exec) (hb : c.code = cc) (hr : meth.sig.returnType = some .int) (hlk : meth.locks = false) (hK : va_K G vwCl (tysY Y) s) (hw : wo G lo (Ew Y ng nr nb zc u ad) ad H) (hS : va_S (fun q => lo ≤ q) s.heap H locs) {v : Int32} {sp : Int32 × St} (hdg : decode cc pc = .ok (.ireturn, 1)) (hsp : sp = (v, zc)) : W p l e R s m args below meth c H locs cells slots (MQ below (QI G (tysY Y) lo sp.1 (Ew Y ng nr nb sp.2 u ad) ad) args s cells slots (fun q => lo ≤ q)) (F0 m pc ls [.int v]) := by
  subst hsp
  exact q_iret hx hb hr hlk hK hw hS hdg rfl rfl
theorem q_ism (hx : p.tables.exec = Jvm.exec) (hb : c.code = cc) (hr : meth.sig.returnType = some .int) (hlk : meth.locks = false) (hK : va_K G vwCl (tysY Y) s) (hw : wo G lo (Ew Y ng nr nb z zc ad) ad H) (hS : va_S (fun q => lo ≤ q) s.heap H locs) {v : Int32} {sp : Int32 × St} (hdg : decode cc pc = .ok (.ireturn, 1)) (hsp : sp = (v, zc)) : W p l e R s m args below meth c H locs cells slots (MQ below (QI G (tysY Y) lo sp.1 (Ew Y ng nr nb z sp.2 ad) ad) args s cells slots (fun q => lo ≤ q)) (F0 m pc ls [.int v]) := by
  subst hsp
  exact q_iret hx hb hr hlk hK hw hS hdg rfl rfl
end CLS
theorem orefN {x : Int32} {f : Nat → Nat} (h : x = -1) : va_rf (oref x f) = .null := by
  subst h
  rfl
theorem orefR {x : Int32} {f : Nat → Nat} {g : Nat} (h : x = nI g) (hg : g < 2 ^ 31) : va_rf (oref x f) = .ref (f g) := by
  subst h
  rw [oref_s hg]
  rfl
section EP
variable {Y : YT} {ng nr nb : Nat} {s u : St} {ad : Nat → Nat → Nat}
theorem Ep_bfR {i g : Nat} (h : i < nb) (hg : g < 2 ^ 31) : u2 (Ew Y ng nr nb s u ad) 3 i (some (.inr (0, [.ref (ad 4 i), .ref (ad 6 g), va_rf (oref (sc s 7 i) (ad 1)), va_rf (oref (sc s 8 i) (ad 2))]))) = Ew Y ng nr nb (us s 9 i (nI g)) u ad := by
  rw [← Ep_bf h, nI_clamp hg]
theorem Ep_b2R {i g : Nat} (h : i < nb) (hg : g < 2 ^ 31) : u2 (Ew Y ng nr nb s u ad) 3 i (some (.inr (0, [.ref (ad 4 i), .ref (ad 6 (sc s 9 i).toNatClampNeg), .ref (ad 1 g), va_rf (oref (sc s 8 i) (ad 2))]))) = Ew Y ng nr nb (us s 7 i (nI g)) u ad := by
  rw [← Ep_b2 h, orefR rfl hg]
theorem Ep_b3R {i g : Nat} (h : i < nb) (hg : g < 2 ^ 31) : u2 (Ew Y ng nr nb s u ad) 3 i (some (.inr (0, [.ref (ad 4 i), .ref (ad 6 (sc s 9 i).toNatClampNeg), va_rf (oref (sc s 7 i) (ad 1)), .ref (ad 2 g)]))) = Ew Y ng nr nb (us s 8 i (nI g)) u ad := by
  rw [← Ep_b3 h, orefR rfl hg]
theorem Ep_b2N {i : Nat} (h : i < nb) : u2 (Ew Y ng nr nb s u ad) 3 i (some (.inr (0, [.ref (ad 4 i), .ref (ad 6 (sc s 9 i).toNatClampNeg), .null, va_rf (oref (sc s 8 i) (ad 2))]))) = Ew Y ng nr nb (us s 7 i (-1)) u ad := by
  rw [← Ep_b2 h, orefN rfl]
theorem Ep_b3N {i : Nat} (h : i < nb) : u2 (Ew Y ng nr nb s u ad) 3 i (some (.inr (0, [.ref (ad 4 i), .ref (ad 6 (sc s 9 i).toNatClampNeg), va_rf (oref (sc s 7 i) (ad 1)), .null]))) = Ew Y ng nr nb (us s 8 i (-1)) u ad := by
  rw [← Ep_b3 h, orefN rfl]
theorem Ep_comes {j n : Nat} {x : Int32} (hj : j < nb) (hn : ln s j = n) : u2 (u2 (Ew Y ng nr nb s u ad) 5 j (some (.inl (Y.1, 30, .inl (va_up (s 11 j) n x))))) 4 j (some (.inr (4, [.ref (ad 5 j), .int (nI (n + 1))]))) = Ew Y ng nr nb (comes s j x) u ad := by
  subst hn
  rw [Ep_larr hj, Ep_lane hj]
theorem Ep_goes {j n : Nat} (hj : j < nb) (hn : ln s j = n) : u2 (u2 (Ew Y ng nr nb s u ad) 4 j (some (.inr (4, [.ref (ad 5 j), .int (nI (n - 1))])))) 5 j (some (.inl (Y.1, 30, .inl (va_cpy (s 11 j) (s 11 j) 1 0 (n - 1))))) = Ew Y ng nr nb (goes s j) u ad := by
  subst hn
  rw [Ep_lane hj, Ep_larr hj]
theorem Ep_brd {f n : Nat} {x : Int32} (hf : f < nb) (hn : dk s f = n) : u2 (u2 (u2 (Ew Y ng nr nb s u ad) 8 f (some (.inl (Y.1, 40, .inl (va_up (s 15 f) n x))))) 7 f (some (.inr (4, [.ref (ad 8 f), .int (nI (n + 1))])))) 6 f (some (.inr (1, [.int (sc s 12 f), .ref (ad 7 f), .int (sc s 13 f + x)]))) = Ew Y ng nr nb (brd s f x) u ad := by
  subst hn
  rw [Ep_farr hf, Ep_frow hf]
  exact Ep_ferry (s := us (u2 s 15 f (va_up (s 15 f) (dk s f) x)) 14 f (nI (dk s f + 1))) hf
theorem us_comm {z : St} {k k' i i' : Nat} {a b : Int32} (h : k ≠ k') : us (us z k i a) k' i' b = us (us z k' i' b) k i a := by
  have h' : k' ≠ k := fun q => h q.symm
  funext x y
  by_cases hx : x = k
  · subst hx
    simp [us, u2, va_up, h, h']
  · by_cases hx2 : x = k'
    · subst hx2
      simp [us, u2, va_up, h, h']
    · simp [us, u2, va_up, hx, hx2]
theorem Ep_lnd {f n : Nat} (hf : f < nb) (hn : dk s f = n) : u2 (u2 (Ew Y ng nr nb s u ad) 6 f (some (.inr (1, [.int (sc s 12 f), .ref (ad 7 f), .int (sc s 13 f - s 15 f (n - 1))])))) 7 f (some (.inr (4, [.ref (ad 8 f), .int (nI (n - 1))]))) = Ew Y ng nr nb (lnd s f) u ad := by
  subst hn
  rw [Ep_ferry hf, Ep_frow hf, us_comm (by decide)]
end EP
theorem sw_out {x : Int32} {n : Nat} (hn : n + 1 < 2 ^ 31) (h : ∀ k, k ≤ n → x ≠ nI k) : x.toInt < 0 ∨ (n : Int) < x.toInt := by
  rcases pk_ix x hn with q | q | ⟨j, hj, q⟩
  · have := Int32.lt_iff_toInt_lt.mp q
    exact Or.inl (by simpa using this)
  · have h1 := Int32.le_iff_toInt_le.mp q
    rw [nI_toInt hn] at h1
    exact Or.inr (by omega)
  · exact absurd q (h j (by omega))
