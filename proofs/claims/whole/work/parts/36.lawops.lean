set_option maxHeartbeats 4000000 in
set_option maxRecDepth 100000 in
theorem law_gate {p : Program} {l : Launch} {e : Env} {s : State} {m : MethodId} {below : List Frame} {meth : Method} {c : Code} {b L : Nat} {xs : Nat → Int32} (hL : L ≤ 2048) (C0 : lw_At p s m meth c b L xs) {G : va_G} {Y : YT} {ng nr nb : Nat} {z : St} {ad : Nat → Nat → Nat} {i : Nat} {H : Heap} {locs : List Loc} {cells slots : Nat} {ls : Array Slot} (hI : Inv z ng nr nb) (hi : i + 4 ≤ L) (hK : va_K G vwCl (tysY Y) s) (hw : wo G s.heap.size (Ew Y ng nr nb z z ad) ad H) (hS : va_S (fun q => s.heap.size ≤ q) s.heap H locs) (hl : lh ls 4 (fun i9 => (([(0, .ref b), (1, .ref (ad 0 0)), (2, .ref (ad 0 4)), (3, .int (nI i))] : List (Nat × Value)).find? (fun q => q.1 == i9)).map (fun q => q.2))) (hc : cells + 6 ≤ 600000) (hs : slots + 81 ≤ 7302250) (kk : ∀ (ng nr nb : Nat) (z : St) (a : Nat → Nat → Nat) (H : Heap) (locs : List Loc), Inv z ng nr nb → a 0 = ad 0 → wo G s.heap.size (Ew Y ng nr nb z z a) a H → va_S (fun q => s.heap.size ≤ q) s.heap H locs → W p l e room_1 s m #[Value.ref b] below meth c H locs (cells + 6) (slots + 81) (lw_Z below #[Value.ref b] s) (F0 m 717 ls [])) : W p l e room_1 s m #[Value.ref b] below meth c H locs (cells) (slots) (lw_Z below #[Value.ref b] s) (F0 m 124 ls []) := by
  obtain ⟨hx, hb, hr, hml, hown, hts0, hX, hbl, hlocks, hgv⟩ := C0
  have hts : ∀ w ∈ wsL_law, w.before #[Value.ref b] s = true := fun w h => hts0 w (wsL_law_in w h)
  have hbA : ¬ (fun q : Nat => s.heap.size ≤ q) b := Nat.not_le.mpr hbl
  refine f_aload_n hx hb dL_law_124 hl 1 rfl rfl ?_
  refine q_cib (q_runV (C := RX5) (T := TX5) (N := 10) ⟨hx, hb, hml, hown, hts⟩ (c_X5_gate l (u := z) hI ) (cwV 0 hts gL_law_X5_gate rfl rfl rfl (by decide +kernel) ⟨Nat.le_of_ble_eq_true rfl, Nat.le_of_ble_eq_true rfl⟩) hK hw Ew_fq rfl rfl hl.1 rfl (by simp [Value.category, va_rf]) dL_law_125 ⟨by show cells + 1 ≤ 600000; omega, by show slots + 4 ≤ 7302250; omega⟩) hS (fun ad1 H locs ha hw hS => ?_)
  refine f_aload_n hx hb dL_law_128 hl 2 rfl rfl ?_
  refine f_val (congrArg Value.ref (congrFun ha 4).symm) ?_
  refine q_ci (q_runV (C := RX6) (T := TX6) (N := 22) ⟨hx, hb, hml, hown, hts⟩ (c_X6_gate l (u := z) hI ) (cwV 0 hts gL_law_X6_gate rfl rfl rfl (by decide +kernel) ⟨Nat.le_of_ble_eq_true rfl, Nat.le_of_ble_eq_true rfl⟩) hK hw Ew_mo rfl rfl hl.1 rfl (by simp [Value.category, va_rf]) dL_law_129 ⟨by show cells + 1 + 0 ≤ 600000; omega, by show slots + 4 + 0 ≤ 7302250; omega⟩) hS (fun H locs hw hS => ?_)
  refine lv_icmp_eq (tgt := 717) hx hb dL_law_132 (by decide) (fun c132 => ?_) (fun c132 => absurd rfl c132)
  refine W.widen (k := cells + 6) (n := slots + 81) (by omega) (by omega) ?_
  exact kk _ _ _ _ _ _ _ (iv_gate hI) ha hw hS
set_option maxHeartbeats 4000000 in
set_option maxRecDepth 100000 in
theorem law_ramp {p : Program} {l : Launch} {e : Env} {s : State} {m : MethodId} {below : List Frame} {meth : Method} {c : Code} {b L : Nat} {xs : Nat → Int32} (hL : L ≤ 2048) (C0 : lw_At p s m meth c b L xs) {G : va_G} {Y : YT} {ng nr nb : Nat} {z : St} {ad : Nat → Nat → Nat} {i : Nat} {H : Heap} {locs : List Loc} {cells slots : Nat} {ls : Array Slot} (hI : Inv z ng nr nb) (hi : i + 4 ≤ L) (hK : va_K G vwCl (tysY Y) s) (hw : wo G s.heap.size (Ew Y ng nr nb z z ad) ad H) (hS : va_S (fun q => s.heap.size ≤ q) s.heap H locs) (hl : lh ls 4 (fun i9 => (([(0, .ref b), (1, .ref (ad 0 0)), (2, .ref (ad 0 4)), (3, .int (nI i))] : List (Nat × Value)).find? (fun q => q.1 == i9)).map (fun q => q.2))) (hc : cells + 6 ≤ 600000) (hs : slots + 81 ≤ 7302250) (kk : ∀ (ng nr nb : Nat) (z : St) (a : Nat → Nat → Nat) (H : Heap) (locs : List Loc), Inv z ng nr nb → a 0 = ad 0 → wo G s.heap.size (Ew Y ng nr nb z z a) a H → va_S (fun q => s.heap.size ≤ q) s.heap H locs → W p l e room_1 s m #[Value.ref b] below meth c H locs (cells + 6) (slots + 81) (lw_Z below #[Value.ref b] s) (F0 m 717 ls [])) : W p l e room_1 s m #[Value.ref b] below meth c H locs (cells) (slots) (lw_Z below #[Value.ref b] s) (F0 m 137 ls []) := by
  obtain ⟨hx, hb, hr, hml, hown, hts0, hX, hbl, hlocks, hgv⟩ := C0
  have hts : ∀ w ∈ wsL_law, w.before #[Value.ref b] s = true := fun w h => hts0 w (wsL_law_in w h)
  have hbA : ¬ (fun q : Nat => s.heap.size ≤ q) b := Nat.not_le.mpr hbl
  refine f_aload_n hx hb dL_law_137 hl 1 rfl rfl ?_
  refine f_aload_n hx hb dL_law_138 hl 0 rfl rfl ?_
  refine f_iload_n hx hb dL_law_139 hl 3 rfl rfl ?_
  refine lv_iconst (v := 1) hx hb dL_law_140 (by decide) ?_
  refine lv_iadd hx hb dL_law_141 ?_
  refine f_top (nI_add i 1) ?_
  refine va_sld hx hb hX hbl hbA hS (vp_in_nI (by omega) (by omega)) dL_law_142 ?_
  refine q_cib (q_runV (C := RX5) (T := TX5) (N := 10) ⟨hx, hb, hml, hown, hts⟩ (c_X5_ramp l (u := z) hI _) (cwV 1 hts gL_law_X5_ramp rfl rfl rfl (by decide +kernel) ⟨Nat.le_of_ble_eq_true rfl, Nat.le_of_ble_eq_true rfl⟩) hK hw Ew_fq rfl rfl hl.1 rfl (by simp [Value.category, va_rf]) dL_law_143 ⟨by show cells + 1 ≤ 600000; omega, by show slots + 4 ≤ 7302250; omega⟩) hS (fun ad1 H locs ha hw hS => ?_)
  refine f_aload_n hx hb dL_law_146 hl 2 rfl rfl ?_
  refine f_val (congrArg Value.ref (congrFun ha 4).symm) ?_
  refine f_aload_n hx hb dL_law_147 hl 0 rfl rfl ?_
  refine f_iload_n hx hb dL_law_148 hl 3 rfl rfl ?_
  refine lv_iconst (v := 1) hx hb dL_law_149 (by decide) ?_
  refine lv_iadd hx hb dL_law_150 ?_
  refine f_top (nI_add i 1) ?_
  refine va_sld hx hb hX hbl hbA hS (vp_in_nI (by omega) (by omega)) dL_law_151 ?_
  refine q_ci (q_runV (C := RX6) (T := TX6) (N := 22) ⟨hx, hb, hml, hown, hts⟩ (c_X6_ramp l (u := z) hI _) (cwV 1 hts gL_law_X6_ramp rfl rfl rfl (by decide +kernel) ⟨Nat.le_of_ble_eq_true rfl, Nat.le_of_ble_eq_true rfl⟩) hK hw Ew_mo rfl rfl hl.1 rfl (by simp [Value.category, va_rf]) dL_law_152 ⟨by show cells + 1 + 0 ≤ 600000; omega, by show slots + 4 + 0 ≤ 7302250; omega⟩) hS (fun H locs hw hS => ?_)
  refine lv_icmp_eq (tgt := 717) hx hb dL_law_155 (by decide) (fun c155 => ?_) (fun c155 => absurd rfl c155)
  refine W.widen (k := cells + 6) (n := slots + 81) (by omega) (by omega) ?_
  exact kk _ _ _ _ _ _ _ (iv_ramp hI _) ha hw hS
set_option maxHeartbeats 4000000 in
set_option maxRecDepth 100000 in
theorem law_berth {p : Program} {l : Launch} {e : Env} {s : State} {m : MethodId} {below : List Frame} {meth : Method} {c : Code} {b L : Nat} {xs : Nat → Int32} (hL : L ≤ 2048) (C0 : lw_At p s m meth c b L xs) {G : va_G} {Y : YT} {ng nr nb : Nat} {z : St} {ad : Nat → Nat → Nat} {i : Nat} {H : Heap} {locs : List Loc} {cells slots : Nat} {ls : Array Slot} (hI : Inv z ng nr nb) (hi : i + 4 ≤ L) (hK : va_K G vwCl (tysY Y) s) (hw : wo G s.heap.size (Ew Y ng nr nb z z ad) ad H) (hS : va_S (fun q => s.heap.size ≤ q) s.heap H locs) (hl : lh ls 4 (fun i9 => (([(0, .ref b), (1, .ref (ad 0 0)), (2, .ref (ad 0 4)), (3, .int (nI i))] : List (Nat × Value)).find? (fun q => q.1 == i9)).map (fun q => q.2))) (hc : cells + 6 ≤ 600000) (hs : slots + 81 ≤ 7302250) (kk : ∀ (ng nr nb : Nat) (z : St) (a : Nat → Nat → Nat) (H : Heap) (locs : List Loc), Inv z ng nr nb → a 0 = ad 0 → wo G s.heap.size (Ew Y ng nr nb z z a) a H → va_S (fun q => s.heap.size ≤ q) s.heap H locs → W p l e room_1 s m #[Value.ref b] below meth c H locs (cells + 6) (slots + 81) (lw_Z below #[Value.ref b] s) (F0 m 717 ls [])) : W p l e room_1 s m #[Value.ref b] below meth c H locs (cells) (slots) (lw_Z below #[Value.ref b] s) (F0 m 160 ls []) := by
  obtain ⟨hx, hb, hr, hml, hown, hts0, hX, hbl, hlocks, hgv⟩ := C0
  have hts : ∀ w ∈ wsL_law, w.before #[Value.ref b] s = true := fun w h => hts0 w (wsL_law_in w h)
  have hbA : ¬ (fun q : Nat => s.heap.size ≤ q) b := Nat.not_le.mpr hbl
  refine f_aload_n hx hb dL_law_160 hl 1 rfl rfl ?_
  refine f_aload_n hx hb dL_law_161 hl 0 rfl rfl ?_
  refine f_iload_n hx hb dL_law_162 hl 3 rfl rfl ?_
  refine lv_iconst (v := 1) hx hb dL_law_163 (by decide) ?_
  refine lv_iadd hx hb dL_law_164 ?_
  refine f_top (nI_add i 1) ?_
  refine va_sld hx hb hX hbl hbA hS (vp_in_nI (by omega) (by omega)) dL_law_165 ?_
  refine q_cib (q_runV (C := RX5) (T := TX5) (N := 10) ⟨hx, hb, hml, hown, hts⟩ (c_X5_berth l (u := z) hI _) (cwV 1 hts gL_law_X5_berth rfl rfl rfl (by decide +kernel) ⟨Nat.le_of_ble_eq_true rfl, Nat.le_of_ble_eq_true rfl⟩) hK hw Ew_fq rfl rfl hl.1 rfl (by simp [Value.category, va_rf]) dL_law_166 ⟨by show cells + 6 ≤ 600000; omega, by show slots + 81 ≤ 7302250; omega⟩) hS (fun ad1 H locs ha hw hS => ?_)
  refine f_aload_n hx hb dL_law_169 hl 2 rfl rfl ?_
  refine f_val (congrArg Value.ref (congrFun ha 4).symm) ?_
  refine f_aload_n hx hb dL_law_170 hl 0 rfl rfl ?_
  refine f_iload_n hx hb dL_law_171 hl 3 rfl rfl ?_
  refine lv_iconst (v := 1) hx hb dL_law_172 (by decide) ?_
  refine lv_iadd hx hb dL_law_173 ?_
  refine f_top (nI_add i 1) ?_
  refine va_sld hx hb hX hbl hbA hS (vp_in_nI (by omega) (by omega)) dL_law_174 ?_
  refine q_ci (q_runV (C := RX6) (T := TX6) (N := 22) ⟨hx, hb, hml, hown, hts⟩ (c_X6_berth l (u := z) hI _) (cwV 1 hts gL_law_X6_berth rfl rfl rfl (by decide +kernel) ⟨Nat.le_of_ble_eq_true rfl, Nat.le_of_ble_eq_true rfl⟩) hK hw Ew_mo rfl rfl hl.1 rfl (by simp [Value.category, va_rf]) dL_law_175 ⟨by show cells + 6 + 0 ≤ 600000; omega, by show slots + 81 + 0 ≤ 7302250; omega⟩) hS (fun H locs hw hS => ?_)
  refine lv_icmp_eq (tgt := 717) hx hb dL_law_178 (by decide) (fun c178 => ?_) (fun c178 => absurd rfl c178)
  refine W.widen (k := cells + 6) (n := slots + 81) (by omega) (by omega) ?_
  exact kk _ _ _ _ _ _ _ (iv_berth hI _) ha hw hS
set_option maxHeartbeats 4000000 in
set_option maxRecDepth 100000 in
theorem law_hinge {p : Program} {l : Launch} {e : Env} {s : State} {m : MethodId} {below : List Frame} {meth : Method} {c : Code} {b L : Nat} {xs : Nat → Int32} (hL : L ≤ 2048) (C0 : lw_At p s m meth c b L xs) {G : va_G} {Y : YT} {ng nr nb : Nat} {z : St} {ad : Nat → Nat → Nat} {i : Nat} {H : Heap} {locs : List Loc} {cells slots : Nat} {ls : Array Slot} (hI : Inv z ng nr nb) (hi : i + 4 ≤ L) (hK : va_K G vwCl (tysY Y) s) (hw : wo G s.heap.size (Ew Y ng nr nb z z ad) ad H) (hS : va_S (fun q => s.heap.size ≤ q) s.heap H locs) (hl : lh ls 4 (fun i9 => (([(0, .ref b), (1, .ref (ad 0 0)), (2, .ref (ad 0 4)), (3, .int (nI i))] : List (Nat × Value)).find? (fun q => q.1 == i9)).map (fun q => q.2))) (hc : cells + 6 ≤ 600000) (hs : slots + 81 ≤ 7302250) (kk : ∀ (ng nr nb : Nat) (z : St) (a : Nat → Nat → Nat) (H : Heap) (locs : List Loc), Inv z ng nr nb → a 0 = ad 0 → wo G s.heap.size (Ew Y ng nr nb z z a) a H → va_S (fun q => s.heap.size ≤ q) s.heap H locs → W p l e room_1 s m #[Value.ref b] below meth c H locs (cells + 6) (slots + 81) (lw_Z below #[Value.ref b] s) (F0 m 717 ls [])) : W p l e room_1 s m #[Value.ref b] below meth c H locs (cells) (slots) (lw_Z below #[Value.ref b] s) (F0 m 183 ls []) := by
  obtain ⟨hx, hb, hr, hml, hown, hts0, hX, hbl, hlocks, hgv⟩ := C0
  have hts : ∀ w ∈ wsL_law, w.before #[Value.ref b] s = true := fun w h => hts0 w (wsL_law_in w h)
  have hbA : ¬ (fun q : Nat => s.heap.size ≤ q) b := Nat.not_le.mpr hbl
  refine f_aload_n hx hb dL_law_183 hl 1 rfl rfl ?_
  refine f_aload_n hx hb dL_law_184 hl 0 rfl rfl ?_
  refine f_iload_n hx hb dL_law_185 hl 3 rfl rfl ?_
  refine lv_iconst (v := 1) hx hb dL_law_186 (by decide) ?_
  refine lv_iadd hx hb dL_law_187 ?_
  refine f_top (nI_add i 1) ?_
  refine va_sld hx hb hX hbl hbA hS (vp_in_nI (by omega) (by omega)) dL_law_188 ?_
  refine f_aload_n hx hb dL_law_189 hl 0 rfl rfl ?_
  refine f_iload_n hx hb dL_law_190 hl 3 rfl rfl ?_
  refine lv_iconst (v := 2) hx hb dL_law_191 (by decide) ?_
  refine lv_iadd hx hb dL_law_192 ?_
  refine f_top (nI_add i 2) ?_
  refine va_sld hx hb hX hbl hbA hS (vp_in_nI (by omega) (by omega)) dL_law_193 ?_
  refine q_ci (q_runV (C := RX5) (T := TX5) (N := 10) ⟨hx, hb, hml, hown, hts⟩ (c_X5_hinge l (u := z) hI _ _) (cwV 2 hts gL_law_X5_hinge rfl rfl rfl (by decide +kernel) ⟨Nat.le_of_ble_eq_true rfl, Nat.le_of_ble_eq_true rfl⟩) hK hw Ew_fq rfl rfl hl.1 rfl (by simp [Value.category, va_rf]) dL_law_194 ⟨by show cells + 0 ≤ 600000; omega, by show slots + 0 ≤ 7302250; omega⟩) hS (fun H locs hw hS => ?_)
  refine f_aload_n hx hb dL_law_197 hl 2 rfl rfl ?_
  refine f_aload_n hx hb dL_law_198 hl 0 rfl rfl ?_
  refine f_iload_n hx hb dL_law_199 hl 3 rfl rfl ?_
  refine lv_iconst (v := 1) hx hb dL_law_200 (by decide) ?_
  refine lv_iadd hx hb dL_law_201 ?_
  refine f_top (nI_add i 1) ?_
  refine va_sld hx hb hX hbl hbA hS (vp_in_nI (by omega) (by omega)) dL_law_202 ?_
  refine f_aload_n hx hb dL_law_203 hl 0 rfl rfl ?_
  refine f_iload_n hx hb dL_law_204 hl 3 rfl rfl ?_
  refine lv_iconst (v := 2) hx hb dL_law_205 (by decide) ?_
  refine lv_iadd hx hb dL_law_206 ?_
  refine f_top (nI_add i 2) ?_
  refine va_sld hx hb hX hbl hbA hS (vp_in_nI (by omega) (by omega)) dL_law_207 ?_
  refine q_ci (q_runV (C := RX6) (T := TX6) (N := 22) ⟨hx, hb, hml, hown, hts⟩ (c_X6_hinge l (u := z) hI _ _) (cwV 2 hts gL_law_X6_hinge rfl rfl rfl (by decide +kernel) ⟨Nat.le_of_ble_eq_true rfl, Nat.le_of_ble_eq_true rfl⟩) hK hw Ew_mo rfl rfl hl.1 rfl (by simp [Value.category, va_rf]) dL_law_208 ⟨by show cells + 0 + 0 ≤ 600000; omega, by show slots + 0 + 0 ≤ 7302250; omega⟩) hS (fun H locs hw hS => ?_)
  refine lv_icmp_eq (tgt := 717) hx hb dL_law_211 (by decide) (fun c211 => ?_) (fun c211 => absurd rfl c211)
  refine W.widen (k := cells + 6) (n := slots + 81) (by omega) (by omega) ?_
  exact kk _ _ _ _ _ _ _ (iv_hinge hI _ _) rfl hw hS
set_option maxHeartbeats 4000000 in
set_option maxRecDepth 100000 in
theorem law_lay {p : Program} {l : Launch} {e : Env} {s : State} {m : MethodId} {below : List Frame} {meth : Method} {c : Code} {b L : Nat} {xs : Nat → Int32} (hL : L ≤ 2048) (C0 : lw_At p s m meth c b L xs) {G : va_G} {Y : YT} {ng nr nb : Nat} {z : St} {ad : Nat → Nat → Nat} {i : Nat} {H : Heap} {locs : List Loc} {cells slots : Nat} {ls : Array Slot} (hI : Inv z ng nr nb) (hi : i + 4 ≤ L) (hK : va_K G vwCl (tysY Y) s) (hw : wo G s.heap.size (Ew Y ng nr nb z z ad) ad H) (hS : va_S (fun q => s.heap.size ≤ q) s.heap H locs) (hl : lh ls 4 (fun i9 => (([(0, .ref b), (1, .ref (ad 0 0)), (2, .ref (ad 0 4)), (3, .int (nI i))] : List (Nat × Value)).find? (fun q => q.1 == i9)).map (fun q => q.2))) (hc : cells + 6 ≤ 600000) (hs : slots + 81 ≤ 7302250) (kk : ∀ (ng nr nb : Nat) (z : St) (a : Nat → Nat → Nat) (H : Heap) (locs : List Loc), Inv z ng nr nb → a 0 = ad 0 → wo G s.heap.size (Ew Y ng nr nb z z a) a H → va_S (fun q => s.heap.size ≤ q) s.heap H locs → W p l e room_1 s m #[Value.ref b] below meth c H locs (cells + 6) (slots + 81) (lw_Z below #[Value.ref b] s) (F0 m 717 ls [])) : W p l e room_1 s m #[Value.ref b] below meth c H locs (cells) (slots) (lw_Z below #[Value.ref b] s) (F0 m 216 ls []) := by
  obtain ⟨hx, hb, hr, hml, hown, hts0, hX, hbl, hlocks, hgv⟩ := C0
  have hts : ∀ w ∈ wsL_law, w.before #[Value.ref b] s = true := fun w h => hts0 w (wsL_law_in w h)
  have hbA : ¬ (fun q : Nat => s.heap.size ≤ q) b := Nat.not_le.mpr hbl
  refine f_aload_n hx hb dL_law_216 hl 1 rfl rfl ?_
  refine f_aload_n hx hb dL_law_217 hl 0 rfl rfl ?_
  refine f_iload_n hx hb dL_law_218 hl 3 rfl rfl ?_
  refine lv_iconst (v := 1) hx hb dL_law_219 (by decide) ?_
  refine lv_iadd hx hb dL_law_220 ?_
  refine f_top (nI_add i 1) ?_
  refine va_sld hx hb hX hbl hbA hS (vp_in_nI (by omega) (by omega)) dL_law_221 ?_
  refine f_aload_n hx hb dL_law_222 hl 0 rfl rfl ?_
  refine f_iload_n hx hb dL_law_223 hl 3 rfl rfl ?_
  refine lv_iconst (v := 2) hx hb dL_law_224 (by decide) ?_
  refine lv_iadd hx hb dL_law_225 ?_
  refine f_top (nI_add i 2) ?_
  refine va_sld hx hb hX hbl hbA hS (vp_in_nI (by omega) (by omega)) dL_law_226 ?_
  refine q_ci (q_runV (C := RX5) (T := TX5) (N := 10) ⟨hx, hb, hml, hown, hts⟩ (c_X5_lay l (u := z) hI _ _) (cwV 2 hts gL_law_X5_lay rfl rfl rfl (by decide +kernel) ⟨Nat.le_of_ble_eq_true rfl, Nat.le_of_ble_eq_true rfl⟩) hK hw Ew_fq rfl rfl hl.1 rfl (by simp [Value.category, va_rf]) dL_law_227 ⟨by show cells + 0 ≤ 600000; omega, by show slots + 0 ≤ 7302250; omega⟩) hS (fun H locs hw hS => ?_)
  refine f_aload_n hx hb dL_law_230 hl 2 rfl rfl ?_
  refine f_aload_n hx hb dL_law_231 hl 0 rfl rfl ?_
  refine f_iload_n hx hb dL_law_232 hl 3 rfl rfl ?_
  refine lv_iconst (v := 1) hx hb dL_law_233 (by decide) ?_
  refine lv_iadd hx hb dL_law_234 ?_
  refine f_top (nI_add i 1) ?_
  refine va_sld hx hb hX hbl hbA hS (vp_in_nI (by omega) (by omega)) dL_law_235 ?_
  refine f_aload_n hx hb dL_law_236 hl 0 rfl rfl ?_
  refine f_iload_n hx hb dL_law_237 hl 3 rfl rfl ?_
  refine lv_iconst (v := 2) hx hb dL_law_238 (by decide) ?_
  refine lv_iadd hx hb dL_law_239 ?_
  refine f_top (nI_add i 2) ?_
  refine va_sld hx hb hX hbl hbA hS (vp_in_nI (by omega) (by omega)) dL_law_240 ?_
  refine q_ci (q_runV (C := RX6) (T := TX6) (N := 22) ⟨hx, hb, hml, hown, hts⟩ (c_X6_lay l (u := z) hI _ _) (cwV 2 hts gL_law_X6_lay rfl rfl rfl (by decide +kernel) ⟨Nat.le_of_ble_eq_true rfl, Nat.le_of_ble_eq_true rfl⟩) hK hw Ew_mo rfl rfl hl.1 rfl (by simp [Value.category, va_rf]) dL_law_241 ⟨by show cells + 0 + 0 ≤ 600000; omega, by show slots + 0 + 0 ≤ 7302250; omega⟩) hS (fun H locs hw hS => ?_)
  refine lv_icmp_eq (tgt := 717) hx hb dL_law_244 (by decide) (fun c244 => ?_) (fun c244 => absurd rfl c244)
  refine W.widen (k := cells + 6) (n := slots + 81) (by omega) (by omega) ?_
  exact kk _ _ _ _ _ _ _ (iv_lay hI _ _) rfl hw hS
set_option maxHeartbeats 4000000 in
set_option maxRecDepth 100000 in
theorem law_shut {p : Program} {l : Launch} {e : Env} {s : State} {m : MethodId} {below : List Frame} {meth : Method} {c : Code} {b L : Nat} {xs : Nat → Int32} (hL : L ≤ 2048) (C0 : lw_At p s m meth c b L xs) {G : va_G} {Y : YT} {ng nr nb : Nat} {z : St} {ad : Nat → Nat → Nat} {i : Nat} {H : Heap} {locs : List Loc} {cells slots : Nat} {ls : Array Slot} (hI : Inv z ng nr nb) (hi : i + 4 ≤ L) (hK : va_K G vwCl (tysY Y) s) (hw : wo G s.heap.size (Ew Y ng nr nb z z ad) ad H) (hS : va_S (fun q => s.heap.size ≤ q) s.heap H locs) (hl : lh ls 4 (fun i9 => (([(0, .ref b), (1, .ref (ad 0 0)), (2, .ref (ad 0 4)), (3, .int (nI i))] : List (Nat × Value)).find? (fun q => q.1 == i9)).map (fun q => q.2))) (hc : cells + 6 ≤ 600000) (hs : slots + 81 ≤ 7302250) (kk : ∀ (ng nr nb : Nat) (z : St) (a : Nat → Nat → Nat) (H : Heap) (locs : List Loc), Inv z ng nr nb → a 0 = ad 0 → wo G s.heap.size (Ew Y ng nr nb z z a) a H → va_S (fun q => s.heap.size ≤ q) s.heap H locs → W p l e room_1 s m #[Value.ref b] below meth c H locs (cells + 6) (slots + 81) (lw_Z below #[Value.ref b] s) (F0 m 717 ls [])) : W p l e room_1 s m #[Value.ref b] below meth c H locs (cells) (slots) (lw_Z below #[Value.ref b] s) (F0 m 249 ls []) := by
  obtain ⟨hx, hb, hr, hml, hown, hts0, hX, hbl, hlocks, hgv⟩ := C0
  have hts : ∀ w ∈ wsL_law, w.before #[Value.ref b] s = true := fun w h => hts0 w (wsL_law_in w h)
  have hbA : ¬ (fun q : Nat => s.heap.size ≤ q) b := Nat.not_le.mpr hbl
  refine f_aload_n hx hb dL_law_249 hl 1 rfl rfl ?_
  refine f_aload_n hx hb dL_law_250 hl 0 rfl rfl ?_
  refine f_iload_n hx hb dL_law_251 hl 3 rfl rfl ?_
  refine lv_iconst (v := 1) hx hb dL_law_252 (by decide) ?_
  refine lv_iadd hx hb dL_law_253 ?_
  refine f_top (nI_add i 1) ?_
  refine va_sld hx hb hX hbl hbA hS (vp_in_nI (by omega) (by omega)) dL_law_254 ?_
  refine f_aload_n hx hb dL_law_255 hl 0 rfl rfl ?_
  refine f_iload_n hx hb dL_law_256 hl 3 rfl rfl ?_
  refine lv_iconst (v := 2) hx hb dL_law_257 (by decide) ?_
  refine lv_iadd hx hb dL_law_258 ?_
  refine f_top (nI_add i 2) ?_
  refine va_sld hx hb hX hbl hbA hS (vp_in_nI (by omega) (by omega)) dL_law_259 ?_
  refine lv_if_eq (tgt := 267) hx hb dL_law_260 (by decide) (fun c260 => ?_) (fun c260 => ?_)
  · refine lv_iconst (v := 0) hx hb dL_law_267 (by decide) ?_
    refine q_ci (q_runV (C := RX5) (T := TX5) (N := 10) ⟨hx, hb, hml, hown, hts⟩ (c_X5_shut l (u := z) hI _ _ (Or.inl rfl)) (cwV 2 hts gL_law_X5_shut rfl rfl rfl (by decide +kernel) ⟨Nat.le_of_ble_eq_true rfl, Nat.le_of_ble_eq_true rfl⟩) hK hw Ew_fq rfl rfl hl.1 rfl (by simp [Value.category, va_rf]) dL_law_268 ⟨by show cells + 0 ≤ 600000; omega, by show slots + 0 ≤ 7302250; omega⟩) hS (fun H locs hw hS => ?_)
    refine f_aload_n hx hb dL_law_271 hl 2 rfl rfl ?_
    refine f_aload_n hx hb dL_law_272 hl 0 rfl rfl ?_
    refine f_iload_n hx hb dL_law_273 hl 3 rfl rfl ?_
    refine lv_iconst (v := 1) hx hb dL_law_274 (by decide) ?_
    refine lv_iadd hx hb dL_law_275 ?_
    refine f_top (nI_add i 1) ?_
    refine va_sld hx hb hX hbl hbA hS (vp_in_nI (by omega) (by omega)) dL_law_276 ?_
    refine f_aload_n hx hb dL_law_277 hl 0 rfl rfl ?_
    refine f_iload_n hx hb dL_law_278 hl 3 rfl rfl ?_
    refine lv_iconst (v := 2) hx hb dL_law_279 (by decide) ?_
    refine lv_iadd hx hb dL_law_280 ?_
    refine f_top (nI_add i 2) ?_
    refine va_sld hx hb hX hbl hbA hS (vp_in_nI (by omega) (by omega)) dL_law_281 ?_
    refine lv_if_eq (tgt := 289) hx hb dL_law_282 (by decide) (fun c282 => ?_) (fun c282 => absurd c260 c282)
    refine lv_iconst (v := 0) hx hb dL_law_289 (by decide) ?_
    refine q_ci (q_runV (C := RX6) (T := TX6) (N := 22) ⟨hx, hb, hml, hown, hts⟩ (c_X6_shut l (u := z) hI _ _ (Or.inl rfl)) (cwV 2 hts gL_law_X6_shut rfl rfl rfl (by decide +kernel) ⟨Nat.le_of_ble_eq_true rfl, Nat.le_of_ble_eq_true rfl⟩) hK hw Ew_mo rfl rfl hl.1 rfl (by simp [Value.category, va_rf]) dL_law_290 ⟨by show cells + 0 + 0 ≤ 600000; omega, by show slots + 0 + 0 ≤ 7302250; omega⟩) hS (fun H locs hw hS => ?_)
    refine lv_icmp_eq (tgt := 717) hx hb dL_law_293 (by decide) (fun c293 => ?_) (fun c293 => absurd rfl c293)
    refine W.widen (k := cells + 6) (n := slots + 81) (by omega) (by omega) ?_
    exact kk _ _ _ _ _ _ _ (iv_shut hI _ _ (Or.inl rfl)) rfl hw hS
  · refine lv_iconst (v := 1) hx hb dL_law_263 (by decide) ?_
    refine lv_goto (tgt := 268) hx hb dL_law_264 (by decide) ?_
    refine q_ci (q_runV (C := RX5) (T := TX5) (N := 10) ⟨hx, hb, hml, hown, hts⟩ (c_X5_shut l (u := z) hI _ _ (Or.inr rfl)) (cwV 2 hts gL_law_X5_shut rfl rfl rfl (by decide +kernel) ⟨Nat.le_of_ble_eq_true rfl, Nat.le_of_ble_eq_true rfl⟩) hK hw Ew_fq rfl rfl hl.1 rfl (by simp [Value.category, va_rf]) dL_law_268 ⟨by show cells + 0 ≤ 600000; omega, by show slots + 0 ≤ 7302250; omega⟩) hS (fun H locs hw hS => ?_)
    refine f_aload_n hx hb dL_law_271 hl 2 rfl rfl ?_
    refine f_aload_n hx hb dL_law_272 hl 0 rfl rfl ?_
    refine f_iload_n hx hb dL_law_273 hl 3 rfl rfl ?_
    refine lv_iconst (v := 1) hx hb dL_law_274 (by decide) ?_
    refine lv_iadd hx hb dL_law_275 ?_
    refine f_top (nI_add i 1) ?_
    refine va_sld hx hb hX hbl hbA hS (vp_in_nI (by omega) (by omega)) dL_law_276 ?_
    refine f_aload_n hx hb dL_law_277 hl 0 rfl rfl ?_
    refine f_iload_n hx hb dL_law_278 hl 3 rfl rfl ?_
    refine lv_iconst (v := 2) hx hb dL_law_279 (by decide) ?_
    refine lv_iadd hx hb dL_law_280 ?_
    refine f_top (nI_add i 2) ?_
    refine va_sld hx hb hX hbl hbA hS (vp_in_nI (by omega) (by omega)) dL_law_281 ?_
    refine lv_if_eq (tgt := 289) hx hb dL_law_282 (by decide) (fun c282 => absurd c282 c260) (fun c282 => ?_)
    refine lv_iconst (v := 1) hx hb dL_law_285 (by decide) ?_
    refine lv_goto (tgt := 290) hx hb dL_law_286 (by decide) ?_
    refine q_ci (q_runV (C := RX6) (T := TX6) (N := 22) ⟨hx, hb, hml, hown, hts⟩ (c_X6_shut l (u := z) hI _ _ (Or.inr rfl)) (cwV 2 hts gL_law_X6_shut rfl rfl rfl (by decide +kernel) ⟨Nat.le_of_ble_eq_true rfl, Nat.le_of_ble_eq_true rfl⟩) hK hw Ew_mo rfl rfl hl.1 rfl (by simp [Value.category, va_rf]) dL_law_290 ⟨by show cells + 0 + 0 ≤ 600000; omega, by show slots + 0 + 0 ≤ 7302250; omega⟩) hS (fun H locs hw hS => ?_)
    refine lv_icmp_eq (tgt := 717) hx hb dL_law_293 (by decide) (fun c293 => ?_) (fun c293 => absurd rfl c293)
    refine W.widen (k := cells + 6) (n := slots + 81) (by omega) (by omega) ?_
    exact kk _ _ _ _ _ _ _ (iv_shut hI _ _ (Or.inr rfl)) rfl hw hS
set_option maxHeartbeats 4000000 in
set_option maxRecDepth 100000 in
theorem law_arrive {p : Program} {l : Launch} {e : Env} {s : State} {m : MethodId} {below : List Frame} {meth : Method} {c : Code} {b L : Nat} {xs : Nat → Int32} (hL : L ≤ 2048) (C0 : lw_At p s m meth c b L xs) {G : va_G} {Y : YT} {ng nr nb : Nat} {z : St} {ad : Nat → Nat → Nat} {i : Nat} {H : Heap} {locs : List Loc} {cells slots : Nat} {ls : Array Slot} (hI : Inv z ng nr nb) (hi : i + 4 ≤ L) (hK : va_K G vwCl (tysY Y) s) (hw : wo G s.heap.size (Ew Y ng nr nb z z ad) ad H) (hS : va_S (fun q => s.heap.size ≤ q) s.heap H locs) (hl : lh ls 4 (fun i9 => (([(0, .ref b), (1, .ref (ad 0 0)), (2, .ref (ad 0 4)), (3, .int (nI i))] : List (Nat × Value)).find? (fun q => q.1 == i9)).map (fun q => q.2))) (hc : cells + 6 ≤ 600000) (hs : slots + 81 ≤ 7302250) (kk : ∀ (ng nr nb : Nat) (z : St) (a : Nat → Nat → Nat) (H : Heap) (locs : List Loc), Inv z ng nr nb → a 0 = ad 0 → wo G s.heap.size (Ew Y ng nr nb z z a) a H → va_S (fun q => s.heap.size ≤ q) s.heap H locs → W p l e room_1 s m #[Value.ref b] below meth c H locs (cells + 6) (slots + 81) (lw_Z below #[Value.ref b] s) (F0 m 717 ls [])) : W p l e room_1 s m #[Value.ref b] below meth c H locs (cells) (slots) (lw_Z below #[Value.ref b] s) (F0 m 298 ls []) := by
  obtain ⟨hx, hb, hr, hml, hown, hts0, hX, hbl, hlocks, hgv⟩ := C0
  have hts : ∀ w ∈ wsL_law, w.before #[Value.ref b] s = true := fun w h => hts0 w (wsL_law_in w h)
  have hbA : ¬ (fun q : Nat => s.heap.size ≤ q) b := Nat.not_le.mpr hbl
  refine f_aload_n hx hb dL_law_298 hl 1 rfl rfl ?_
  refine f_aload_n hx hb dL_law_299 hl 0 rfl rfl ?_
  refine f_iload_n hx hb dL_law_300 hl 3 rfl rfl ?_
  refine lv_iconst (v := 1) hx hb dL_law_301 (by decide) ?_
  refine lv_iadd hx hb dL_law_302 ?_
  refine f_top (nI_add i 1) ?_
  refine va_sld hx hb hX hbl hbA hS (vp_in_nI (by omega) (by omega)) dL_law_303 ?_
  refine f_aload_n hx hb dL_law_304 hl 0 rfl rfl ?_
  refine f_iload_n hx hb dL_law_305 hl 3 rfl rfl ?_
  refine lv_iconst (v := 2) hx hb dL_law_306 (by decide) ?_
  refine lv_iadd hx hb dL_law_307 ?_
  refine f_top (nI_add i 2) ?_
  refine va_sld hx hb hX hbl hbA hS (vp_in_nI (by omega) (by omega)) dL_law_308 ?_
  refine q_ci (q_runV (C := RX5) (T := TX5) (N := 10) ⟨hx, hb, hml, hown, hts⟩ (c_X5_arrive l (u := z) hI _ _) (cwV 2 hts gL_law_X5_arrive rfl rfl rfl (by decide +kernel) ⟨Nat.le_of_ble_eq_true rfl, Nat.le_of_ble_eq_true rfl⟩) hK hw Ew_fq rfl rfl hl.1 rfl (by simp [Value.category, va_rf]) dL_law_309 ⟨by show cells + 0 ≤ 600000; omega, by show slots + 0 ≤ 7302250; omega⟩) hS (fun H locs hw hS => ?_)
  refine f_aload_n hx hb dL_law_312 hl 2 rfl rfl ?_
  refine f_aload_n hx hb dL_law_313 hl 0 rfl rfl ?_
  refine f_iload_n hx hb dL_law_314 hl 3 rfl rfl ?_
  refine lv_iconst (v := 1) hx hb dL_law_315 (by decide) ?_
  refine lv_iadd hx hb dL_law_316 ?_
  refine f_top (nI_add i 1) ?_
  refine va_sld hx hb hX hbl hbA hS (vp_in_nI (by omega) (by omega)) dL_law_317 ?_
  refine f_aload_n hx hb dL_law_318 hl 0 rfl rfl ?_
  refine f_iload_n hx hb dL_law_319 hl 3 rfl rfl ?_
  refine lv_iconst (v := 2) hx hb dL_law_320 (by decide) ?_
  refine lv_iadd hx hb dL_law_321 ?_
  refine f_top (nI_add i 2) ?_
  refine va_sld hx hb hX hbl hbA hS (vp_in_nI (by omega) (by omega)) dL_law_322 ?_
  refine q_ci (q_runV (C := RX6) (T := TX6) (N := 22) ⟨hx, hb, hml, hown, hts⟩ (c_X6_arrive l (u := z) hI _ _) (cwV 2 hts gL_law_X6_arrive rfl rfl rfl (by decide +kernel) ⟨Nat.le_of_ble_eq_true rfl, Nat.le_of_ble_eq_true rfl⟩) hK hw Ew_mo rfl rfl hl.1 rfl (by simp [Value.category, va_rf]) dL_law_323 ⟨by show cells + 0 + 0 ≤ 600000; omega, by show slots + 0 + 0 ≤ 7302250; omega⟩) hS (fun H locs hw hS => ?_)
  refine lv_icmp_eq (tgt := 717) hx hb dL_law_326 (by decide) (fun c326 => ?_) (fun c326 => absurd rfl c326)
  refine W.widen (k := cells + 6) (n := slots + 81) (by omega) (by omega) ?_
  exact kk _ _ _ _ _ _ _ (iv_arrive hI _ _) rfl hw hS
set_option maxHeartbeats 4000000 in
set_option maxRecDepth 100000 in
theorem law_board {p : Program} {l : Launch} {e : Env} {s : State} {m : MethodId} {below : List Frame} {meth : Method} {c : Code} {b L : Nat} {xs : Nat → Int32} (hL : L ≤ 2048) (C0 : lw_At p s m meth c b L xs) {G : va_G} {Y : YT} {ng nr nb : Nat} {z : St} {ad : Nat → Nat → Nat} {i : Nat} {H : Heap} {locs : List Loc} {cells slots : Nat} {ls : Array Slot} (hI : Inv z ng nr nb) (hi : i + 4 ≤ L) (hK : va_K G vwCl (tysY Y) s) (hw : wo G s.heap.size (Ew Y ng nr nb z z ad) ad H) (hS : va_S (fun q => s.heap.size ≤ q) s.heap H locs) (hl : lh ls 4 (fun i9 => (([(0, .ref b), (1, .ref (ad 0 0)), (2, .ref (ad 0 4)), (3, .int (nI i))] : List (Nat × Value)).find? (fun q => q.1 == i9)).map (fun q => q.2))) (hc : cells + 6 ≤ 600000) (hs : slots + 81 ≤ 7302250) (kk : ∀ (ng nr nb : Nat) (z : St) (a : Nat → Nat → Nat) (H : Heap) (locs : List Loc), Inv z ng nr nb → a 0 = ad 0 → wo G s.heap.size (Ew Y ng nr nb z z a) a H → va_S (fun q => s.heap.size ≤ q) s.heap H locs → W p l e room_1 s m #[Value.ref b] below meth c H locs (cells + 6) (slots + 81) (lw_Z below #[Value.ref b] s) (F0 m 717 ls [])) : W p l e room_1 s m #[Value.ref b] below meth c H locs (cells) (slots) (lw_Z below #[Value.ref b] s) (F0 m 331 ls []) := by
  obtain ⟨hx, hb, hr, hml, hown, hts0, hX, hbl, hlocks, hgv⟩ := C0
  have hts : ∀ w ∈ wsL_law, w.before #[Value.ref b] s = true := fun w h => hts0 w (wsL_law_in w h)
  have hbA : ¬ (fun q : Nat => s.heap.size ≤ q) b := Nat.not_le.mpr hbl
  refine f_aload_n hx hb dL_law_331 hl 1 rfl rfl ?_
  refine f_aload_n hx hb dL_law_332 hl 0 rfl rfl ?_
  refine f_iload_n hx hb dL_law_333 hl 3 rfl rfl ?_
  refine lv_iconst (v := 1) hx hb dL_law_334 (by decide) ?_
  refine lv_iadd hx hb dL_law_335 ?_
  refine f_top (nI_add i 1) ?_
  refine va_sld hx hb hX hbl hbA hS (vp_in_nI (by omega) (by omega)) dL_law_336 ?_
  refine f_aload_n hx hb dL_law_337 hl 0 rfl rfl ?_
  refine f_iload_n hx hb dL_law_338 hl 3 rfl rfl ?_
  refine lv_iconst (v := 2) hx hb dL_law_339 (by decide) ?_
  refine lv_iadd hx hb dL_law_340 ?_
  refine f_top (nI_add i 2) ?_
  refine va_sld hx hb hX hbl hbA hS (vp_in_nI (by omega) (by omega)) dL_law_341 ?_
  refine q_ci (q_runV (C := RX5) (T := TX5) (N := 10) ⟨hx, hb, hml, hown, hts⟩ (c_X5_board l (u := z) hI _ _) (cwV 2 hts gL_law_X5_board rfl rfl rfl (by decide +kernel) ⟨Nat.le_of_ble_eq_true rfl, Nat.le_of_ble_eq_true rfl⟩) hK hw Ew_fq rfl rfl hl.1 rfl (by simp [Value.category, va_rf]) dL_law_342 ⟨by show cells + 0 ≤ 600000; omega, by show slots + 0 ≤ 7302250; omega⟩) hS (fun H locs hw hS => ?_)
  refine f_aload_n hx hb dL_law_345 hl 2 rfl rfl ?_
  refine f_aload_n hx hb dL_law_346 hl 0 rfl rfl ?_
  refine f_iload_n hx hb dL_law_347 hl 3 rfl rfl ?_
  refine lv_iconst (v := 1) hx hb dL_law_348 (by decide) ?_
  refine lv_iadd hx hb dL_law_349 ?_
  refine f_top (nI_add i 1) ?_
  refine va_sld hx hb hX hbl hbA hS (vp_in_nI (by omega) (by omega)) dL_law_350 ?_
  refine f_aload_n hx hb dL_law_351 hl 0 rfl rfl ?_
  refine f_iload_n hx hb dL_law_352 hl 3 rfl rfl ?_
  refine lv_iconst (v := 2) hx hb dL_law_353 (by decide) ?_
  refine lv_iadd hx hb dL_law_354 ?_
  refine f_top (nI_add i 2) ?_
  refine va_sld hx hb hX hbl hbA hS (vp_in_nI (by omega) (by omega)) dL_law_355 ?_
  refine q_ci (q_runV (C := RX6) (T := TX6) (N := 22) ⟨hx, hb, hml, hown, hts⟩ (c_X6_board l (u := z) hI _ _) (cwV 2 hts gL_law_X6_board rfl rfl rfl (by decide +kernel) ⟨Nat.le_of_ble_eq_true rfl, Nat.le_of_ble_eq_true rfl⟩) hK hw Ew_mo rfl rfl hl.1 rfl (by simp [Value.category, va_rf]) dL_law_356 ⟨by show cells + 0 + 0 ≤ 600000; omega, by show slots + 0 + 0 ≤ 7302250; omega⟩) hS (fun H locs hw hS => ?_)
  refine lv_icmp_eq (tgt := 717) hx hb dL_law_359 (by decide) (fun c359 => ?_) (fun c359 => absurd rfl c359)
  refine W.widen (k := cells + 6) (n := slots + 81) (by omega) (by omega) ?_
  exact kk _ _ _ _ _ _ _ (iv_board hI _ _) rfl hw hS
set_option maxHeartbeats 4000000 in
set_option maxRecDepth 100000 in
theorem law_land {p : Program} {l : Launch} {e : Env} {s : State} {m : MethodId} {below : List Frame} {meth : Method} {c : Code} {b L : Nat} {xs : Nat → Int32} (hL : L ≤ 2048) (C0 : lw_At p s m meth c b L xs) {G : va_G} {Y : YT} {ng nr nb : Nat} {z : St} {ad : Nat → Nat → Nat} {i : Nat} {H : Heap} {locs : List Loc} {cells slots : Nat} {ls : Array Slot} (hI : Inv z ng nr nb) (hi : i + 4 ≤ L) (hK : va_K G vwCl (tysY Y) s) (hw : wo G s.heap.size (Ew Y ng nr nb z z ad) ad H) (hS : va_S (fun q => s.heap.size ≤ q) s.heap H locs) (hl : lh ls 4 (fun i9 => (([(0, .ref b), (1, .ref (ad 0 0)), (2, .ref (ad 0 4)), (3, .int (nI i))] : List (Nat × Value)).find? (fun q => q.1 == i9)).map (fun q => q.2))) (hc : cells + 6 ≤ 600000) (hs : slots + 81 ≤ 7302250) (kk : ∀ (ng nr nb : Nat) (z : St) (a : Nat → Nat → Nat) (H : Heap) (locs : List Loc), Inv z ng nr nb → a 0 = ad 0 → wo G s.heap.size (Ew Y ng nr nb z z a) a H → va_S (fun q => s.heap.size ≤ q) s.heap H locs → W p l e room_1 s m #[Value.ref b] below meth c H locs (cells + 6) (slots + 81) (lw_Z below #[Value.ref b] s) (F0 m 717 ls [])) : W p l e room_1 s m #[Value.ref b] below meth c H locs (cells) (slots) (lw_Z below #[Value.ref b] s) (F0 m 364 ls []) := by
  obtain ⟨hx, hb, hr, hml, hown, hts0, hX, hbl, hlocks, hgv⟩ := C0
  have hts : ∀ w ∈ wsL_law, w.before #[Value.ref b] s = true := fun w h => hts0 w (wsL_law_in w h)
  have hbA : ¬ (fun q : Nat => s.heap.size ≤ q) b := Nat.not_le.mpr hbl
  refine f_aload_n hx hb dL_law_364 hl 1 rfl rfl ?_
  refine f_aload_n hx hb dL_law_365 hl 0 rfl rfl ?_
  refine f_iload_n hx hb dL_law_366 hl 3 rfl rfl ?_
  refine lv_iconst (v := 1) hx hb dL_law_367 (by decide) ?_
  refine lv_iadd hx hb dL_law_368 ?_
  refine f_top (nI_add i 1) ?_
  refine va_sld hx hb hX hbl hbA hS (vp_in_nI (by omega) (by omega)) dL_law_369 ?_
  refine f_aload_n hx hb dL_law_370 hl 0 rfl rfl ?_
  refine f_iload_n hx hb dL_law_371 hl 3 rfl rfl ?_
  refine lv_iconst (v := 2) hx hb dL_law_372 (by decide) ?_
  refine lv_iadd hx hb dL_law_373 ?_
  refine f_top (nI_add i 2) ?_
  refine va_sld hx hb hX hbl hbA hS (vp_in_nI (by omega) (by omega)) dL_law_374 ?_
  refine q_ci (q_runV (C := RX5) (T := TX5) (N := 10) ⟨hx, hb, hml, hown, hts⟩ (c_X5_land l (u := z) hI _ _) (cwV 2 hts gL_law_X5_land rfl rfl rfl (by decide +kernel) ⟨Nat.le_of_ble_eq_true rfl, Nat.le_of_ble_eq_true rfl⟩) hK hw Ew_fq rfl rfl hl.1 rfl (by simp [Value.category, va_rf]) dL_law_375 ⟨by show cells + 0 ≤ 600000; omega, by show slots + 0 ≤ 7302250; omega⟩) hS (fun H locs hw hS => ?_)
  refine f_aload_n hx hb dL_law_378 hl 2 rfl rfl ?_
  refine f_aload_n hx hb dL_law_379 hl 0 rfl rfl ?_
  refine f_iload_n hx hb dL_law_380 hl 3 rfl rfl ?_
  refine lv_iconst (v := 1) hx hb dL_law_381 (by decide) ?_
  refine lv_iadd hx hb dL_law_382 ?_
  refine f_top (nI_add i 1) ?_
  refine va_sld hx hb hX hbl hbA hS (vp_in_nI (by omega) (by omega)) dL_law_383 ?_
  refine f_aload_n hx hb dL_law_384 hl 0 rfl rfl ?_
  refine f_iload_n hx hb dL_law_385 hl 3 rfl rfl ?_
  refine lv_iconst (v := 2) hx hb dL_law_386 (by decide) ?_
  refine lv_iadd hx hb dL_law_387 ?_
  refine f_top (nI_add i 2) ?_
  refine va_sld hx hb hX hbl hbA hS (vp_in_nI (by omega) (by omega)) dL_law_388 ?_
  refine q_ci (q_runV (C := RX6) (T := TX6) (N := 22) ⟨hx, hb, hml, hown, hts⟩ (c_X6_land l (u := z) hI _ _) (cwV 2 hts gL_law_X6_land rfl rfl rfl (by decide +kernel) ⟨Nat.le_of_ble_eq_true rfl, Nat.le_of_ble_eq_true rfl⟩) hK hw Ew_mo rfl rfl hl.1 rfl (by simp [Value.category, va_rf]) dL_law_389 ⟨by show cells + 0 + 0 ≤ 600000; omega, by show slots + 0 + 0 ≤ 7302250; omega⟩) hS (fun H locs hw hS => ?_)
  refine lv_icmp_eq (tgt := 717) hx hb dL_law_392 (by decide) (fun c392 => ?_) (fun c392 => absurd rfl c392)
  refine W.widen (k := cells + 6) (n := slots + 81) (by omega) (by omega) ?_
  exact kk _ _ _ _ _ _ _ (iv_land hI _ _) rfl hw hS
set_option maxHeartbeats 4000000 in
set_option maxRecDepth 100000 in
theorem law_swap {p : Program} {l : Launch} {e : Env} {s : State} {m : MethodId} {below : List Frame} {meth : Method} {c : Code} {b L : Nat} {xs : Nat → Int32} (hL : L ≤ 2048) (C0 : lw_At p s m meth c b L xs) {G : va_G} {Y : YT} {ng nr nb : Nat} {z : St} {ad : Nat → Nat → Nat} {i : Nat} {H : Heap} {locs : List Loc} {cells slots : Nat} {ls : Array Slot} (hI : Inv z ng nr nb) (hi : i + 4 ≤ L) (hK : va_K G vwCl (tysY Y) s) (hw : wo G s.heap.size (Ew Y ng nr nb z z ad) ad H) (hS : va_S (fun q => s.heap.size ≤ q) s.heap H locs) (hl : lh ls 4 (fun i9 => (([(0, .ref b), (1, .ref (ad 0 0)), (2, .ref (ad 0 4)), (3, .int (nI i))] : List (Nat × Value)).find? (fun q => q.1 == i9)).map (fun q => q.2))) (hc : cells + 6 ≤ 600000) (hs : slots + 81 ≤ 7302250) (kk : ∀ (ng nr nb : Nat) (z : St) (a : Nat → Nat → Nat) (H : Heap) (locs : List Loc), Inv z ng nr nb → a 0 = ad 0 → wo G s.heap.size (Ew Y ng nr nb z z a) a H → va_S (fun q => s.heap.size ≤ q) s.heap H locs → W p l e room_1 s m #[Value.ref b] below meth c H locs (cells + 6) (slots + 81) (lw_Z below #[Value.ref b] s) (F0 m 717 ls [])) : W p l e room_1 s m #[Value.ref b] below meth c H locs (cells) (slots) (lw_Z below #[Value.ref b] s) (F0 m 397 ls []) := by
  obtain ⟨hx, hb, hr, hml, hown, hts0, hX, hbl, hlocks, hgv⟩ := C0
  have hts : ∀ w ∈ wsL_law, w.before #[Value.ref b] s = true := fun w h => hts0 w (wsL_law_in w h)
  have hbA : ¬ (fun q : Nat => s.heap.size ≤ q) b := Nat.not_le.mpr hbl
  refine f_aload_n hx hb dL_law_397 hl 1 rfl rfl ?_
  refine f_aload_n hx hb dL_law_398 hl 0 rfl rfl ?_
  refine f_iload_n hx hb dL_law_399 hl 3 rfl rfl ?_
  refine lv_iconst (v := 1) hx hb dL_law_400 (by decide) ?_
  refine lv_iadd hx hb dL_law_401 ?_
  refine f_top (nI_add i 1) ?_
  refine va_sld hx hb hX hbl hbA hS (vp_in_nI (by omega) (by omega)) dL_law_402 ?_
  refine f_aload_n hx hb dL_law_403 hl 0 rfl rfl ?_
  refine f_iload_n hx hb dL_law_404 hl 3 rfl rfl ?_
  refine lv_iconst (v := 2) hx hb dL_law_405 (by decide) ?_
  refine lv_iadd hx hb dL_law_406 ?_
  refine f_top (nI_add i 2) ?_
  refine va_sld hx hb hX hbl hbA hS (vp_in_nI (by omega) (by omega)) dL_law_407 ?_
  refine q_ci (q_runV (C := RX5) (T := TX5) (N := 10) ⟨hx, hb, hml, hown, hts⟩ (c_X5_swap l (u := z) hI _ _) (cwV 2 hts gL_law_X5_swap rfl rfl rfl (by decide +kernel) ⟨Nat.le_of_ble_eq_true rfl, Nat.le_of_ble_eq_true rfl⟩) hK hw Ew_fq rfl rfl hl.1 rfl (by simp [Value.category, va_rf]) dL_law_408 ⟨by show cells + 0 ≤ 600000; omega, by show slots + 0 ≤ 7302250; omega⟩) hS (fun H locs hw hS => ?_)
  refine f_aload_n hx hb dL_law_411 hl 2 rfl rfl ?_
  refine f_aload_n hx hb dL_law_412 hl 0 rfl rfl ?_
  refine f_iload_n hx hb dL_law_413 hl 3 rfl rfl ?_
  refine lv_iconst (v := 1) hx hb dL_law_414 (by decide) ?_
  refine lv_iadd hx hb dL_law_415 ?_
  refine f_top (nI_add i 1) ?_
  refine va_sld hx hb hX hbl hbA hS (vp_in_nI (by omega) (by omega)) dL_law_416 ?_
  refine f_aload_n hx hb dL_law_417 hl 0 rfl rfl ?_
  refine f_iload_n hx hb dL_law_418 hl 3 rfl rfl ?_
  refine lv_iconst (v := 2) hx hb dL_law_419 (by decide) ?_
  refine lv_iadd hx hb dL_law_420 ?_
  refine f_top (nI_add i 2) ?_
  refine va_sld hx hb hX hbl hbA hS (vp_in_nI (by omega) (by omega)) dL_law_421 ?_
  refine q_ci (q_runV (C := RX6) (T := TX6) (N := 22) ⟨hx, hb, hml, hown, hts⟩ (c_X6_swap l (u := z) hI _ _) (cwV 2 hts gL_law_X6_swap rfl rfl rfl (by decide +kernel) ⟨Nat.le_of_ble_eq_true rfl, Nat.le_of_ble_eq_true rfl⟩) hK hw Ew_mo rfl rfl hl.1 rfl (by simp [Value.category, va_rf]) dL_law_422 ⟨by show cells + 0 + 0 ≤ 600000; omega, by show slots + 0 + 0 ≤ 7302250; omega⟩) hS (fun H locs hw hS => ?_)
  refine lv_icmp_eq (tgt := 717) hx hb dL_law_425 (by decide) (fun c425 => ?_) (fun c425 => absurd rfl c425)
  refine W.widen (k := cells + 6) (n := slots + 81) (by omega) (by omega) ?_
  exact kk _ _ _ _ _ _ _ (iv_swap hI _ _) rfl hw hS
set_option maxHeartbeats 4000000 in
set_option maxRecDepth 100000 in
theorem law_round {p : Program} {l : Launch} {e : Env} {s : State} {m : MethodId} {below : List Frame} {meth : Method} {c : Code} {b L : Nat} {xs : Nat → Int32} (hL : L ≤ 2048) (C0 : lw_At p s m meth c b L xs) {G : va_G} {Y : YT} {ng nr nb : Nat} {z : St} {ad : Nat → Nat → Nat} {i : Nat} {H : Heap} {locs : List Loc} {cells slots : Nat} {ls : Array Slot} (hI : Inv z ng nr nb) (hi : i + 4 ≤ L) (hK : va_K G vwCl (tysY Y) s) (hw : wo G s.heap.size (Ew Y ng nr nb z z ad) ad H) (hS : va_S (fun q => s.heap.size ≤ q) s.heap H locs) (hl : lh ls 4 (fun i9 => (([(0, .ref b), (1, .ref (ad 0 0)), (2, .ref (ad 0 4)), (3, .int (nI i))] : List (Nat × Value)).find? (fun q => q.1 == i9)).map (fun q => q.2))) (hc : cells + 6 ≤ 600000) (hs : slots + 81 ≤ 7302250) (kk : ∀ (ng nr nb : Nat) (z : St) (a : Nat → Nat → Nat) (H : Heap) (locs : List Loc), Inv z ng nr nb → a 0 = ad 0 → wo G s.heap.size (Ew Y ng nr nb z z a) a H → va_S (fun q => s.heap.size ≤ q) s.heap H locs → W p l e room_1 s m #[Value.ref b] below meth c H locs (cells + 6) (slots + 81) (lw_Z below #[Value.ref b] s) (F0 m 717 ls [])) : W p l e room_1 s m #[Value.ref b] below meth c H locs (cells) (slots) (lw_Z below #[Value.ref b] s) (F0 m 430 ls []) := by
  obtain ⟨hx, hb, hr, hml, hown, hts0, hX, hbl, hlocks, hgv⟩ := C0
  have hts : ∀ w ∈ wsL_law, w.before #[Value.ref b] s = true := fun w h => hts0 w (wsL_law_in w h)
  have hbA : ¬ (fun q : Nat => s.heap.size ≤ q) b := Nat.not_le.mpr hbl
  refine f_aload_n hx hb dL_law_430 hl 1 rfl rfl ?_
  refine f_aload_n hx hb dL_law_431 hl 0 rfl rfl ?_
  refine f_iload_n hx hb dL_law_432 hl 3 rfl rfl ?_
  refine lv_iconst (v := 1) hx hb dL_law_433 (by decide) ?_
  refine lv_iadd hx hb dL_law_434 ?_
  refine f_top (nI_add i 1) ?_
  refine va_sld hx hb hX hbl hbA hS (vp_in_nI (by omega) (by omega)) dL_law_435 ?_
  refine f_aload_n hx hb dL_law_436 hl 0 rfl rfl ?_
  refine f_iload_n hx hb dL_law_437 hl 3 rfl rfl ?_
  refine lv_iconst (v := 2) hx hb dL_law_438 (by decide) ?_
  refine lv_iadd hx hb dL_law_439 ?_
  refine f_top (nI_add i 2) ?_
  refine va_sld hx hb hX hbl hbA hS (vp_in_nI (by omega) (by omega)) dL_law_440 ?_
  refine q_ci (q_runV (C := RX5) (T := TX5) (N := 10) ⟨hx, hb, hml, hown, hts⟩ (c_X5_round l (u := z) hI _ _) (cwV 2 hts gL_law_X5_round rfl rfl rfl (by decide +kernel) ⟨Nat.le_of_ble_eq_true rfl, Nat.le_of_ble_eq_true rfl⟩) hK hw Ew_fq rfl rfl hl.1 rfl (by simp [Value.category, va_rf]) dL_law_441 ⟨by show cells + 0 ≤ 600000; omega, by show slots + 0 ≤ 7302250; omega⟩) hS (fun H locs hw hS => ?_)
  refine f_aload_n hx hb dL_law_444 hl 2 rfl rfl ?_
  refine f_aload_n hx hb dL_law_445 hl 0 rfl rfl ?_
  refine f_iload_n hx hb dL_law_446 hl 3 rfl rfl ?_
  refine lv_iconst (v := 1) hx hb dL_law_447 (by decide) ?_
  refine lv_iadd hx hb dL_law_448 ?_
  refine f_top (nI_add i 1) ?_
  refine va_sld hx hb hX hbl hbA hS (vp_in_nI (by omega) (by omega)) dL_law_449 ?_
  refine f_aload_n hx hb dL_law_450 hl 0 rfl rfl ?_
  refine f_iload_n hx hb dL_law_451 hl 3 rfl rfl ?_
  refine lv_iconst (v := 2) hx hb dL_law_452 (by decide) ?_
  refine lv_iadd hx hb dL_law_453 ?_
  refine f_top (nI_add i 2) ?_
  refine va_sld hx hb hX hbl hbA hS (vp_in_nI (by omega) (by omega)) dL_law_454 ?_
  refine q_ci (q_runV (C := RX6) (T := TX6) (N := 22) ⟨hx, hb, hml, hown, hts⟩ (c_X6_round l (u := z) hI _ _) (cwV 2 hts gL_law_X6_round rfl rfl rfl (by decide +kernel) ⟨Nat.le_of_ble_eq_true rfl, Nat.le_of_ble_eq_true rfl⟩) hK hw Ew_mo rfl rfl hl.1 rfl (by simp [Value.category, va_rf]) dL_law_455 ⟨by show cells + 0 + 0 ≤ 600000; omega, by show slots + 0 + 0 ≤ 7302250; omega⟩) hS (fun H locs hw hS => ?_)
  refine lv_icmp_eq (tgt := 717) hx hb dL_law_458 (by decide) (fun c458 => ?_) (fun c458 => absurd rfl c458)
  refine W.widen (k := cells + 6) (n := slots + 81) (by omega) (by omega) ?_
  exact kk _ _ _ _ _ _ _ (iv_round hI _ _) rfl hw hS
set_option maxHeartbeats 4000000 in
set_option maxRecDepth 100000 in
theorem law_tend {p : Program} {l : Launch} {e : Env} {s : State} {m : MethodId} {below : List Frame} {meth : Method} {c : Code} {b L : Nat} {xs : Nat → Int32} (hL : L ≤ 2048) (C0 : lw_At p s m meth c b L xs) {G : va_G} {Y : YT} {ng nr nb : Nat} {z : St} {ad : Nat → Nat → Nat} {i : Nat} {H : Heap} {locs : List Loc} {cells slots : Nat} {ls : Array Slot} (hI : Inv z ng nr nb) (hi : i + 4 ≤ L) (hK : va_K G vwCl (tysY Y) s) (hw : wo G s.heap.size (Ew Y ng nr nb z z ad) ad H) (hS : va_S (fun q => s.heap.size ≤ q) s.heap H locs) (hl : lh ls 4 (fun i9 => (([(0, .ref b), (1, .ref (ad 0 0)), (2, .ref (ad 0 4)), (3, .int (nI i))] : List (Nat × Value)).find? (fun q => q.1 == i9)).map (fun q => q.2))) (hc : cells + 6 ≤ 600000) (hs : slots + 81 ≤ 7302250) (kk : ∀ (ng nr nb : Nat) (z : St) (a : Nat → Nat → Nat) (H : Heap) (locs : List Loc), Inv z ng nr nb → a 0 = ad 0 → wo G s.heap.size (Ew Y ng nr nb z z a) a H → va_S (fun q => s.heap.size ≤ q) s.heap H locs → W p l e room_1 s m #[Value.ref b] below meth c H locs (cells + 6) (slots + 81) (lw_Z below #[Value.ref b] s) (F0 m 717 ls [])) : W p l e room_1 s m #[Value.ref b] below meth c H locs (cells) (slots) (lw_Z below #[Value.ref b] s) (F0 m 463 ls []) := by
  obtain ⟨hx, hb, hr, hml, hown, hts0, hX, hbl, hlocks, hgv⟩ := C0
  have hts : ∀ w ∈ wsL_law, w.before #[Value.ref b] s = true := fun w h => hts0 w (wsL_law_in w h)
  have hbA : ¬ (fun q : Nat => s.heap.size ≤ q) b := Nat.not_le.mpr hbl
  refine f_aload_n hx hb dL_law_463 hl 1 rfl rfl ?_
  refine f_aload_n hx hb dL_law_464 hl 0 rfl rfl ?_
  refine f_iload_n hx hb dL_law_465 hl 3 rfl rfl ?_
  refine lv_iconst (v := 1) hx hb dL_law_466 (by decide) ?_
  refine lv_iadd hx hb dL_law_467 ?_
  refine f_top (nI_add i 1) ?_
  refine va_sld hx hb hX hbl hbA hS (vp_in_nI (by omega) (by omega)) dL_law_468 ?_
  refine q_ci (q_runV (C := RX5) (T := TX5) (N := 10) ⟨hx, hb, hml, hown, hts⟩ (c_X5_tend l (u := z) hI _) (cwV 1 hts gL_law_X5_tend rfl rfl rfl (by decide +kernel) ⟨Nat.le_of_ble_eq_true rfl, Nat.le_of_ble_eq_true rfl⟩) hK hw Ew_fq rfl rfl hl.1 rfl (by simp [Value.category, va_rf]) dL_law_469 ⟨by show cells + 0 ≤ 600000; omega, by show slots + 0 ≤ 7302250; omega⟩) hS (fun H locs hw hS => ?_)
  refine f_aload_n hx hb dL_law_472 hl 2 rfl rfl ?_
  refine f_aload_n hx hb dL_law_473 hl 0 rfl rfl ?_
  refine f_iload_n hx hb dL_law_474 hl 3 rfl rfl ?_
  refine lv_iconst (v := 1) hx hb dL_law_475 (by decide) ?_
  refine lv_iadd hx hb dL_law_476 ?_
  refine f_top (nI_add i 1) ?_
  refine va_sld hx hb hX hbl hbA hS (vp_in_nI (by omega) (by omega)) dL_law_477 ?_
  refine q_ci (q_runV (C := RX6) (T := TX6) (N := 22) ⟨hx, hb, hml, hown, hts⟩ (c_X6_tend l (u := z) hI _) (cwV 1 hts gL_law_X6_tend rfl rfl rfl (by decide +kernel) ⟨Nat.le_of_ble_eq_true rfl, Nat.le_of_ble_eq_true rfl⟩) hK hw Ew_mo rfl rfl hl.1 rfl (by simp [Value.category, va_rf]) dL_law_478 ⟨by show cells + 0 + 0 ≤ 600000; omega, by show slots + 0 + 0 ≤ 7302250; omega⟩) hS (fun H locs hw hS => ?_)
  refine lv_icmp_eq (tgt := 717) hx hb dL_law_481 (by decide) (fun c481 => ?_) (fun c481 => absurd rfl c481)
  refine W.widen (k := cells + 6) (n := slots + 81) (by omega) (by omega) ?_
  exact kk _ _ _ _ _ _ _ (iv_tend hI _) rfl hw hS
set_option maxHeartbeats 4000000 in
set_option maxRecDepth 100000 in
theorem law_shift {p : Program} {l : Launch} {e : Env} {s : State} {m : MethodId} {below : List Frame} {meth : Method} {c : Code} {b L : Nat} {xs : Nat → Int32} (hL : L ≤ 2048) (C0 : lw_At p s m meth c b L xs) {G : va_G} {Y : YT} {ng nr nb : Nat} {z : St} {ad : Nat → Nat → Nat} {i : Nat} {H : Heap} {locs : List Loc} {cells slots : Nat} {ls : Array Slot} (hI : Inv z ng nr nb) (hi : i + 4 ≤ L) (hK : va_K G vwCl (tysY Y) s) (hw : wo G s.heap.size (Ew Y ng nr nb z z ad) ad H) (hS : va_S (fun q => s.heap.size ≤ q) s.heap H locs) (hl : lh ls 4 (fun i9 => (([(0, .ref b), (1, .ref (ad 0 0)), (2, .ref (ad 0 4)), (3, .int (nI i))] : List (Nat × Value)).find? (fun q => q.1 == i9)).map (fun q => q.2))) (hc : cells + 6 ≤ 600000) (hs : slots + 81 ≤ 7302250) (kk : ∀ (ng nr nb : Nat) (z : St) (a : Nat → Nat → Nat) (H : Heap) (locs : List Loc), Inv z ng nr nb → a 0 = ad 0 → wo G s.heap.size (Ew Y ng nr nb z z a) a H → va_S (fun q => s.heap.size ≤ q) s.heap H locs → W p l e room_1 s m #[Value.ref b] below meth c H locs (cells + 6) (slots + 81) (lw_Z below #[Value.ref b] s) (F0 m 717 ls [])) : W p l e room_1 s m #[Value.ref b] below meth c H locs (cells) (slots) (lw_Z below #[Value.ref b] s) (F0 m 486 ls []) := by
  obtain ⟨hx, hb, hr, hml, hown, hts0, hX, hbl, hlocks, hgv⟩ := C0
  have hts : ∀ w ∈ wsL_law, w.before #[Value.ref b] s = true := fun w h => hts0 w (wsL_law_in w h)
  have hbA : ¬ (fun q : Nat => s.heap.size ≤ q) b := Nat.not_le.mpr hbl
  refine f_aload_n hx hb dL_law_486 hl 1 rfl rfl ?_
  refine f_aload_n hx hb dL_law_487 hl 0 rfl rfl ?_
  refine f_iload_n hx hb dL_law_488 hl 3 rfl rfl ?_
  refine lv_iconst (v := 1) hx hb dL_law_489 (by decide) ?_
  refine lv_iadd hx hb dL_law_490 ?_
  refine f_top (nI_add i 1) ?_
  refine va_sld hx hb hX hbl hbA hS (vp_in_nI (by omega) (by omega)) dL_law_491 ?_
  refine f_aload_n hx hb dL_law_492 hl 0 rfl rfl ?_
  refine f_iload_n hx hb dL_law_493 hl 3 rfl rfl ?_
  refine lv_iconst (v := 2) hx hb dL_law_494 (by decide) ?_
  refine lv_iadd hx hb dL_law_495 ?_
  refine f_top (nI_add i 2) ?_
  refine va_sld hx hb hX hbl hbA hS (vp_in_nI (by omega) (by omega)) dL_law_496 ?_
  refine f_aload_n hx hb dL_law_497 hl 0 rfl rfl ?_
  refine f_iload_n hx hb dL_law_498 hl 3 rfl rfl ?_
  refine lv_iconst (v := 3) hx hb dL_law_499 (by decide) ?_
  refine lv_iadd hx hb dL_law_500 ?_
  refine f_top (nI_add i 3) ?_
  refine va_sld hx hb hX hbl hbA hS (vp_in_nI (by omega) (by omega)) dL_law_501 ?_
  refine q_ci (q_runV (C := RX5) (T := TX5) (N := 10) ⟨hx, hb, hml, hown, hts⟩ (c_X5_shift l (u := z) hI _ _ _) (cwV 3 hts gL_law_X5_shift rfl rfl rfl (by decide +kernel) ⟨Nat.le_of_ble_eq_true rfl, Nat.le_of_ble_eq_true rfl⟩) hK hw Ew_fq rfl rfl hl.1 rfl (by simp [Value.category, va_rf]) dL_law_502 ⟨by show cells + 0 ≤ 600000; omega, by show slots + 0 ≤ 7302250; omega⟩) hS (fun H locs hw hS => ?_)
  refine f_aload_n hx hb dL_law_505 hl 2 rfl rfl ?_
  refine f_aload_n hx hb dL_law_506 hl 0 rfl rfl ?_
  refine f_iload_n hx hb dL_law_507 hl 3 rfl rfl ?_
  refine lv_iconst (v := 1) hx hb dL_law_508 (by decide) ?_
  refine lv_iadd hx hb dL_law_509 ?_
  refine f_top (nI_add i 1) ?_
  refine va_sld hx hb hX hbl hbA hS (vp_in_nI (by omega) (by omega)) dL_law_510 ?_
  refine f_aload_n hx hb dL_law_511 hl 0 rfl rfl ?_
  refine f_iload_n hx hb dL_law_512 hl 3 rfl rfl ?_
  refine lv_iconst (v := 2) hx hb dL_law_513 (by decide) ?_
  refine lv_iadd hx hb dL_law_514 ?_
  refine f_top (nI_add i 2) ?_
  refine va_sld hx hb hX hbl hbA hS (vp_in_nI (by omega) (by omega)) dL_law_515 ?_
  refine f_aload_n hx hb dL_law_516 hl 0 rfl rfl ?_
  refine f_iload_n hx hb dL_law_517 hl 3 rfl rfl ?_
  refine lv_iconst (v := 3) hx hb dL_law_518 (by decide) ?_
  refine lv_iadd hx hb dL_law_519 ?_
  refine f_top (nI_add i 3) ?_
  refine va_sld hx hb hX hbl hbA hS (vp_in_nI (by omega) (by omega)) dL_law_520 ?_
  refine q_ci (q_runV (C := RX6) (T := TX6) (N := 22) ⟨hx, hb, hml, hown, hts⟩ (c_X6_shift l (u := z) hI _ _ _) (cwV 3 hts gL_law_X6_shift rfl rfl rfl (by decide +kernel) ⟨Nat.le_of_ble_eq_true rfl, Nat.le_of_ble_eq_true rfl⟩) hK hw Ew_mo rfl rfl hl.1 rfl (by simp [Value.category, va_rf]) dL_law_521 ⟨by show cells + 0 + 0 ≤ 600000; omega, by show slots + 0 + 0 ≤ 7302250; omega⟩) hS (fun H locs hw hS => ?_)
  refine lv_icmp_eq (tgt := 717) hx hb dL_law_524 (by decide) (fun c524 => ?_) (fun c524 => absurd rfl c524)
  refine W.widen (k := cells + 6) (n := slots + 81) (by omega) (by omega) ?_
  exact kk _ _ _ _ _ _ _ (iv_shift hI _ _ _) rfl hw hS
set_option maxHeartbeats 4000000 in
set_option maxRecDepth 100000 in
theorem law_state {p : Program} {l : Launch} {e : Env} {s : State} {m : MethodId} {below : List Frame} {meth : Method} {c : Code} {b L : Nat} {xs : Nat → Int32} (hL : L ≤ 2048) (C0 : lw_At p s m meth c b L xs) {G : va_G} {Y : YT} {ng nr nb : Nat} {z : St} {ad : Nat → Nat → Nat} {i : Nat} {H : Heap} {locs : List Loc} {cells slots : Nat} {ls : Array Slot} (hI : Inv z ng nr nb) (hi : i + 4 ≤ L) (hK : va_K G vwCl (tysY Y) s) (hw : wo G s.heap.size (Ew Y ng nr nb z z ad) ad H) (hS : va_S (fun q => s.heap.size ≤ q) s.heap H locs) (hl : lh ls 4 (fun i9 => (([(0, .ref b), (1, .ref (ad 0 0)), (2, .ref (ad 0 4)), (3, .int (nI i))] : List (Nat × Value)).find? (fun q => q.1 == i9)).map (fun q => q.2))) (hc : cells + 6 ≤ 600000) (hs : slots + 81 ≤ 7302250) (kk : ∀ (ng nr nb : Nat) (z : St) (a : Nat → Nat → Nat) (H : Heap) (locs : List Loc), Inv z ng nr nb → a 0 = ad 0 → wo G s.heap.size (Ew Y ng nr nb z z a) a H → va_S (fun q => s.heap.size ≤ q) s.heap H locs → W p l e room_1 s m #[Value.ref b] below meth c H locs (cells + 6) (slots + 81) (lw_Z below #[Value.ref b] s) (F0 m 717 ls [])) : W p l e room_1 s m #[Value.ref b] below meth c H locs (cells) (slots) (lw_Z below #[Value.ref b] s) (F0 m 529 ls []) := by
  obtain ⟨hx, hb, hr, hml, hown, hts0, hX, hbl, hlocks, hgv⟩ := C0
  have hts : ∀ w ∈ wsL_law, w.before #[Value.ref b] s = true := fun w h => hts0 w (wsL_law_in w h)
  have hbA : ¬ (fun q : Nat => s.heap.size ≤ q) b := Nat.not_le.mpr hbl
  refine f_aload_n hx hb dL_law_529 hl 1 rfl rfl ?_
  refine f_aload_n hx hb dL_law_530 hl 0 rfl rfl ?_
  refine f_iload_n hx hb dL_law_531 hl 3 rfl rfl ?_
  refine lv_iconst (v := 1) hx hb dL_law_532 (by decide) ?_
  refine lv_iadd hx hb dL_law_533 ?_
  refine f_top (nI_add i 1) ?_
  refine va_sld hx hb hX hbl hbA hS (vp_in_nI (by omega) (by omega)) dL_law_534 ?_
  refine f_aload_n hx hb dL_law_535 hl 0 rfl rfl ?_
  refine f_iload_n hx hb dL_law_536 hl 3 rfl rfl ?_
  refine lv_iconst (v := 2) hx hb dL_law_537 (by decide) ?_
  refine lv_iadd hx hb dL_law_538 ?_
  refine f_top (nI_add i 2) ?_
  refine va_sld hx hb hX hbl hbA hS (vp_in_nI (by omega) (by omega)) dL_law_539 ?_
  refine q_ci (q_runV (C := RX5) (T := TX5) (N := 10) ⟨hx, hb, hml, hown, hts⟩ (c_X5_state l (u := z) hI _ _) (cwV 2 hts gL_law_X5_state rfl rfl rfl (by decide +kernel) ⟨Nat.le_of_ble_eq_true rfl, Nat.le_of_ble_eq_true rfl⟩) hK hw Ew_fq rfl rfl hl.1 rfl (by simp [Value.category, va_rf]) dL_law_540 ⟨by show cells + 0 ≤ 600000; omega, by show slots + 0 ≤ 7302250; omega⟩) hS (fun H locs hw hS => ?_)
  refine f_aload_n hx hb dL_law_543 hl 2 rfl rfl ?_
  refine f_aload_n hx hb dL_law_544 hl 0 rfl rfl ?_
  refine f_iload_n hx hb dL_law_545 hl 3 rfl rfl ?_
  refine lv_iconst (v := 1) hx hb dL_law_546 (by decide) ?_
  refine lv_iadd hx hb dL_law_547 ?_
  refine f_top (nI_add i 1) ?_
  refine va_sld hx hb hX hbl hbA hS (vp_in_nI (by omega) (by omega)) dL_law_548 ?_
  refine f_aload_n hx hb dL_law_549 hl 0 rfl rfl ?_
  refine f_iload_n hx hb dL_law_550 hl 3 rfl rfl ?_
  refine lv_iconst (v := 2) hx hb dL_law_551 (by decide) ?_
  refine lv_iadd hx hb dL_law_552 ?_
  refine f_top (nI_add i 2) ?_
  refine va_sld hx hb hX hbl hbA hS (vp_in_nI (by omega) (by omega)) dL_law_553 ?_
  refine q_ci (q_runV (C := RX6) (T := TX6) (N := 22) ⟨hx, hb, hml, hown, hts⟩ (c_X6_state l (u := z) hI _ _) (cwV 2 hts gL_law_X6_state rfl rfl rfl (by decide +kernel) ⟨Nat.le_of_ble_eq_true rfl, Nat.le_of_ble_eq_true rfl⟩) hK hw Ew_mo rfl rfl hl.1 rfl (by simp [Value.category, va_rf]) dL_law_554 ⟨by show cells + 0 + 0 ≤ 600000; omega, by show slots + 0 + 0 ≤ 7302250; omega⟩) hS (fun H locs hw hS => ?_)
  refine lv_icmp_eq (tgt := 717) hx hb dL_law_557 (by decide) (fun c557 => ?_) (fun c557 => absurd rfl c557)
  refine W.widen (k := cells + 6) (n := slots + 81) (by omega) (by omega) ?_
  exact kk _ _ _ _ _ _ _ hI rfl hw hS
set_option maxHeartbeats 4000000 in
set_option maxRecDepth 100000 in
theorem law_waiting {p : Program} {l : Launch} {e : Env} {s : State} {m : MethodId} {below : List Frame} {meth : Method} {c : Code} {b L : Nat} {xs : Nat → Int32} (hL : L ≤ 2048) (C0 : lw_At p s m meth c b L xs) {G : va_G} {Y : YT} {ng nr nb : Nat} {z : St} {ad : Nat → Nat → Nat} {i : Nat} {H : Heap} {locs : List Loc} {cells slots : Nat} {ls : Array Slot} (hI : Inv z ng nr nb) (hi : i + 4 ≤ L) (hK : va_K G vwCl (tysY Y) s) (hw : wo G s.heap.size (Ew Y ng nr nb z z ad) ad H) (hS : va_S (fun q => s.heap.size ≤ q) s.heap H locs) (hl : lh ls 4 (fun i9 => (([(0, .ref b), (1, .ref (ad 0 0)), (2, .ref (ad 0 4)), (3, .int (nI i))] : List (Nat × Value)).find? (fun q => q.1 == i9)).map (fun q => q.2))) (hc : cells + 6 ≤ 600000) (hs : slots + 81 ≤ 7302250) (kk : ∀ (ng nr nb : Nat) (z : St) (a : Nat → Nat → Nat) (H : Heap) (locs : List Loc), Inv z ng nr nb → a 0 = ad 0 → wo G s.heap.size (Ew Y ng nr nb z z a) a H → va_S (fun q => s.heap.size ≤ q) s.heap H locs → W p l e room_1 s m #[Value.ref b] below meth c H locs (cells + 6) (slots + 81) (lw_Z below #[Value.ref b] s) (F0 m 717 ls [])) : W p l e room_1 s m #[Value.ref b] below meth c H locs (cells) (slots) (lw_Z below #[Value.ref b] s) (F0 m 562 ls []) := by
  obtain ⟨hx, hb, hr, hml, hown, hts0, hX, hbl, hlocks, hgv⟩ := C0
  have hts : ∀ w ∈ wsL_law, w.before #[Value.ref b] s = true := fun w h => hts0 w (wsL_law_in w h)
  have hbA : ¬ (fun q : Nat => s.heap.size ≤ q) b := Nat.not_le.mpr hbl
  refine f_aload_n hx hb dL_law_562 hl 1 rfl rfl ?_
  refine f_aload_n hx hb dL_law_563 hl 0 rfl rfl ?_
  refine f_iload_n hx hb dL_law_564 hl 3 rfl rfl ?_
  refine lv_iconst (v := 1) hx hb dL_law_565 (by decide) ?_
  refine lv_iadd hx hb dL_law_566 ?_
  refine f_top (nI_add i 1) ?_
  refine va_sld hx hb hX hbl hbA hS (vp_in_nI (by omega) (by omega)) dL_law_567 ?_
  refine f_aload_n hx hb dL_law_568 hl 0 rfl rfl ?_
  refine f_iload_n hx hb dL_law_569 hl 3 rfl rfl ?_
  refine lv_iconst (v := 2) hx hb dL_law_570 (by decide) ?_
  refine lv_iadd hx hb dL_law_571 ?_
  refine f_top (nI_add i 2) ?_
  refine va_sld hx hb hX hbl hbA hS (vp_in_nI (by omega) (by omega)) dL_law_572 ?_
  refine q_ci (q_runV (C := RX5) (T := TX5) (N := 10) ⟨hx, hb, hml, hown, hts⟩ (c_X5_waiting l (u := z) hI _ _) (cwV 2 hts gL_law_X5_waiting rfl rfl rfl (by decide +kernel) ⟨Nat.le_of_ble_eq_true rfl, Nat.le_of_ble_eq_true rfl⟩) hK hw Ew_fq rfl rfl hl.1 rfl (by simp [Value.category, va_rf]) dL_law_573 ⟨by show cells + 0 ≤ 600000; omega, by show slots + 0 ≤ 7302250; omega⟩) hS (fun H locs hw hS => ?_)
  refine f_aload_n hx hb dL_law_576 hl 2 rfl rfl ?_
  refine f_aload_n hx hb dL_law_577 hl 0 rfl rfl ?_
  refine f_iload_n hx hb dL_law_578 hl 3 rfl rfl ?_
  refine lv_iconst (v := 1) hx hb dL_law_579 (by decide) ?_
  refine lv_iadd hx hb dL_law_580 ?_
  refine f_top (nI_add i 1) ?_
  refine va_sld hx hb hX hbl hbA hS (vp_in_nI (by omega) (by omega)) dL_law_581 ?_
  refine f_aload_n hx hb dL_law_582 hl 0 rfl rfl ?_
  refine f_iload_n hx hb dL_law_583 hl 3 rfl rfl ?_
  refine lv_iconst (v := 2) hx hb dL_law_584 (by decide) ?_
  refine lv_iadd hx hb dL_law_585 ?_
  refine f_top (nI_add i 2) ?_
  refine va_sld hx hb hX hbl hbA hS (vp_in_nI (by omega) (by omega)) dL_law_586 ?_
  refine q_ci (q_runV (C := RX6) (T := TX6) (N := 22) ⟨hx, hb, hml, hown, hts⟩ (c_X6_waiting l (u := z) hI _ _) (cwV 2 hts gL_law_X6_waiting rfl rfl rfl (by decide +kernel) ⟨Nat.le_of_ble_eq_true rfl, Nat.le_of_ble_eq_true rfl⟩) hK hw Ew_mo rfl rfl hl.1 rfl (by simp [Value.category, va_rf]) dL_law_587 ⟨by show cells + 0 + 0 ≤ 600000; omega, by show slots + 0 + 0 ≤ 7302250; omega⟩) hS (fun H locs hw hS => ?_)
  refine lv_icmp_eq (tgt := 717) hx hb dL_law_590 (by decide) (fun c590 => ?_) (fun c590 => absurd rfl c590)
  refine W.widen (k := cells + 6) (n := slots + 81) (by omega) (by omega) ?_
  exact kk _ _ _ _ _ _ _ hI rfl hw hS
set_option maxHeartbeats 4000000 in
set_option maxRecDepth 100000 in
theorem law_aboard {p : Program} {l : Launch} {e : Env} {s : State} {m : MethodId} {below : List Frame} {meth : Method} {c : Code} {b L : Nat} {xs : Nat → Int32} (hL : L ≤ 2048) (C0 : lw_At p s m meth c b L xs) {G : va_G} {Y : YT} {ng nr nb : Nat} {z : St} {ad : Nat → Nat → Nat} {i : Nat} {H : Heap} {locs : List Loc} {cells slots : Nat} {ls : Array Slot} (hI : Inv z ng nr nb) (hi : i + 4 ≤ L) (hK : va_K G vwCl (tysY Y) s) (hw : wo G s.heap.size (Ew Y ng nr nb z z ad) ad H) (hS : va_S (fun q => s.heap.size ≤ q) s.heap H locs) (hl : lh ls 4 (fun i9 => (([(0, .ref b), (1, .ref (ad 0 0)), (2, .ref (ad 0 4)), (3, .int (nI i))] : List (Nat × Value)).find? (fun q => q.1 == i9)).map (fun q => q.2))) (hc : cells + 6 ≤ 600000) (hs : slots + 81 ≤ 7302250) (kk : ∀ (ng nr nb : Nat) (z : St) (a : Nat → Nat → Nat) (H : Heap) (locs : List Loc), Inv z ng nr nb → a 0 = ad 0 → wo G s.heap.size (Ew Y ng nr nb z z a) a H → va_S (fun q => s.heap.size ≤ q) s.heap H locs → W p l e room_1 s m #[Value.ref b] below meth c H locs (cells + 6) (slots + 81) (lw_Z below #[Value.ref b] s) (F0 m 717 ls [])) : W p l e room_1 s m #[Value.ref b] below meth c H locs (cells) (slots) (lw_Z below #[Value.ref b] s) (F0 m 595 ls []) := by
  obtain ⟨hx, hb, hr, hml, hown, hts0, hX, hbl, hlocks, hgv⟩ := C0
  have hts : ∀ w ∈ wsL_law, w.before #[Value.ref b] s = true := fun w h => hts0 w (wsL_law_in w h)
  have hbA : ¬ (fun q : Nat => s.heap.size ≤ q) b := Nat.not_le.mpr hbl
  refine f_aload_n hx hb dL_law_595 hl 1 rfl rfl ?_
  refine f_aload_n hx hb dL_law_596 hl 0 rfl rfl ?_
  refine f_iload_n hx hb dL_law_597 hl 3 rfl rfl ?_
  refine lv_iconst (v := 1) hx hb dL_law_598 (by decide) ?_
  refine lv_iadd hx hb dL_law_599 ?_
  refine f_top (nI_add i 1) ?_
  refine va_sld hx hb hX hbl hbA hS (vp_in_nI (by omega) (by omega)) dL_law_600 ?_
  refine f_aload_n hx hb dL_law_601 hl 0 rfl rfl ?_
  refine f_iload_n hx hb dL_law_602 hl 3 rfl rfl ?_
  refine lv_iconst (v := 2) hx hb dL_law_603 (by decide) ?_
  refine lv_iadd hx hb dL_law_604 ?_
  refine f_top (nI_add i 2) ?_
  refine va_sld hx hb hX hbl hbA hS (vp_in_nI (by omega) (by omega)) dL_law_605 ?_
  refine q_ci (q_runV (C := RX5) (T := TX5) (N := 10) ⟨hx, hb, hml, hown, hts⟩ (c_X5_aboard l (u := z) hI _ _) (cwV 2 hts gL_law_X5_aboard rfl rfl rfl (by decide +kernel) ⟨Nat.le_of_ble_eq_true rfl, Nat.le_of_ble_eq_true rfl⟩) hK hw Ew_fq rfl rfl hl.1 rfl (by simp [Value.category, va_rf]) dL_law_606 ⟨by show cells + 0 ≤ 600000; omega, by show slots + 0 ≤ 7302250; omega⟩) hS (fun H locs hw hS => ?_)
  refine f_aload_n hx hb dL_law_609 hl 2 rfl rfl ?_
  refine f_aload_n hx hb dL_law_610 hl 0 rfl rfl ?_
  refine f_iload_n hx hb dL_law_611 hl 3 rfl rfl ?_
  refine lv_iconst (v := 1) hx hb dL_law_612 (by decide) ?_
  refine lv_iadd hx hb dL_law_613 ?_
  refine f_top (nI_add i 1) ?_
  refine va_sld hx hb hX hbl hbA hS (vp_in_nI (by omega) (by omega)) dL_law_614 ?_
  refine f_aload_n hx hb dL_law_615 hl 0 rfl rfl ?_
  refine f_iload_n hx hb dL_law_616 hl 3 rfl rfl ?_
  refine lv_iconst (v := 2) hx hb dL_law_617 (by decide) ?_
  refine lv_iadd hx hb dL_law_618 ?_
  refine f_top (nI_add i 2) ?_
  refine va_sld hx hb hX hbl hbA hS (vp_in_nI (by omega) (by omega)) dL_law_619 ?_
  refine q_ci (q_runV (C := RX6) (T := TX6) (N := 22) ⟨hx, hb, hml, hown, hts⟩ (c_X6_aboard l (u := z) hI _ _) (cwV 2 hts gL_law_X6_aboard rfl rfl rfl (by decide +kernel) ⟨Nat.le_of_ble_eq_true rfl, Nat.le_of_ble_eq_true rfl⟩) hK hw Ew_mo rfl rfl hl.1 rfl (by simp [Value.category, va_rf]) dL_law_620 ⟨by show cells + 0 + 0 ≤ 600000; omega, by show slots + 0 + 0 ≤ 7302250; omega⟩) hS (fun H locs hw hS => ?_)
  refine lv_icmp_eq (tgt := 717) hx hb dL_law_623 (by decide) (fun c623 => ?_) (fun c623 => absurd rfl c623)
  refine W.widen (k := cells + 6) (n := slots + 81) (by omega) (by omega) ?_
  exact kk _ _ _ _ _ _ _ hI rfl hw hS
set_option maxHeartbeats 4000000 in
set_option maxRecDepth 100000 in
theorem law_ofGate {p : Program} {l : Launch} {e : Env} {s : State} {m : MethodId} {below : List Frame} {meth : Method} {c : Code} {b L : Nat} {xs : Nat → Int32} (hL : L ≤ 2048) (C0 : lw_At p s m meth c b L xs) {G : va_G} {Y : YT} {ng nr nb : Nat} {z : St} {ad : Nat → Nat → Nat} {i : Nat} {H : Heap} {locs : List Loc} {cells slots : Nat} {ls : Array Slot} (hI : Inv z ng nr nb) (hi : i + 4 ≤ L) (hK : va_K G vwCl (tysY Y) s) (hw : wo G s.heap.size (Ew Y ng nr nb z z ad) ad H) (hS : va_S (fun q => s.heap.size ≤ q) s.heap H locs) (hl : lh ls 4 (fun i9 => (([(0, .ref b), (1, .ref (ad 0 0)), (2, .ref (ad 0 4)), (3, .int (nI i))] : List (Nat × Value)).find? (fun q => q.1 == i9)).map (fun q => q.2))) (hc : cells + 6 ≤ 600000) (hs : slots + 81 ≤ 7302250) (kk : ∀ (ng nr nb : Nat) (z : St) (a : Nat → Nat → Nat) (H : Heap) (locs : List Loc), Inv z ng nr nb → a 0 = ad 0 → wo G s.heap.size (Ew Y ng nr nb z z a) a H → va_S (fun q => s.heap.size ≤ q) s.heap H locs → W p l e room_1 s m #[Value.ref b] below meth c H locs (cells + 6) (slots + 81) (lw_Z below #[Value.ref b] s) (F0 m 717 ls [])) : W p l e room_1 s m #[Value.ref b] below meth c H locs (cells) (slots) (lw_Z below #[Value.ref b] s) (F0 m 628 ls []) := by
  obtain ⟨hx, hb, hr, hml, hown, hts0, hX, hbl, hlocks, hgv⟩ := C0
  have hts : ∀ w ∈ wsL_law, w.before #[Value.ref b] s = true := fun w h => hts0 w (wsL_law_in w h)
  have hbA : ¬ (fun q : Nat => s.heap.size ≤ q) b := Nat.not_le.mpr hbl
  refine f_aload_n hx hb dL_law_628 hl 1 rfl rfl ?_
  refine f_aload_n hx hb dL_law_629 hl 0 rfl rfl ?_
  refine f_iload_n hx hb dL_law_630 hl 3 rfl rfl ?_
  refine lv_iconst (v := 1) hx hb dL_law_631 (by decide) ?_
  refine lv_iadd hx hb dL_law_632 ?_
  refine f_top (nI_add i 1) ?_
  refine va_sld hx hb hX hbl hbA hS (vp_in_nI (by omega) (by omega)) dL_law_633 ?_
  refine f_aload_n hx hb dL_law_634 hl 0 rfl rfl ?_
  refine f_iload_n hx hb dL_law_635 hl 3 rfl rfl ?_
  refine lv_iconst (v := 2) hx hb dL_law_636 (by decide) ?_
  refine lv_iadd hx hb dL_law_637 ?_
  refine f_top (nI_add i 2) ?_
  refine va_sld hx hb hX hbl hbA hS (vp_in_nI (by omega) (by omega)) dL_law_638 ?_
  refine q_ci (q_runV (C := RX5) (T := TX5) (N := 10) ⟨hx, hb, hml, hown, hts⟩ (c_X5_ofGate l (u := z) hI _ _) (cwV 2 hts gL_law_X5_ofGate rfl rfl rfl (by decide +kernel) ⟨Nat.le_of_ble_eq_true rfl, Nat.le_of_ble_eq_true rfl⟩) hK hw Ew_fq rfl rfl hl.1 rfl (by simp [Value.category, va_rf]) dL_law_639 ⟨by show cells + 0 ≤ 600000; omega, by show slots + 0 ≤ 7302250; omega⟩) hS (fun H locs hw hS => ?_)
  refine f_aload_n hx hb dL_law_642 hl 2 rfl rfl ?_
  refine f_aload_n hx hb dL_law_643 hl 0 rfl rfl ?_
  refine f_iload_n hx hb dL_law_644 hl 3 rfl rfl ?_
  refine lv_iconst (v := 1) hx hb dL_law_645 (by decide) ?_
  refine lv_iadd hx hb dL_law_646 ?_
  refine f_top (nI_add i 1) ?_
  refine va_sld hx hb hX hbl hbA hS (vp_in_nI (by omega) (by omega)) dL_law_647 ?_
  refine f_aload_n hx hb dL_law_648 hl 0 rfl rfl ?_
  refine f_iload_n hx hb dL_law_649 hl 3 rfl rfl ?_
  refine lv_iconst (v := 2) hx hb dL_law_650 (by decide) ?_
  refine lv_iadd hx hb dL_law_651 ?_
  refine f_top (nI_add i 2) ?_
  refine va_sld hx hb hX hbl hbA hS (vp_in_nI (by omega) (by omega)) dL_law_652 ?_
  refine q_ci (q_runV (C := RX6) (T := TX6) (N := 22) ⟨hx, hb, hml, hown, hts⟩ (c_X6_ofGate l (u := z) hI _ _) (cwV 2 hts gL_law_X6_ofGate rfl rfl rfl (by decide +kernel) ⟨Nat.le_of_ble_eq_true rfl, Nat.le_of_ble_eq_true rfl⟩) hK hw Ew_mo rfl rfl hl.1 rfl (by simp [Value.category, va_rf]) dL_law_653 ⟨by show cells + 0 + 0 ≤ 600000; omega, by show slots + 0 + 0 ≤ 7302250; omega⟩) hS (fun H locs hw hS => ?_)
  refine lv_icmp_eq (tgt := 717) hx hb dL_law_656 (by decide) (fun c656 => ?_) (fun c656 => absurd rfl c656)
  refine W.widen (k := cells + 6) (n := slots + 81) (by omega) (by omega) ?_
  exact kk _ _ _ _ _ _ _ hI rfl hw hS
set_option maxHeartbeats 4000000 in
set_option maxRecDepth 100000 in
theorem law_ofRamp {p : Program} {l : Launch} {e : Env} {s : State} {m : MethodId} {below : List Frame} {meth : Method} {c : Code} {b L : Nat} {xs : Nat → Int32} (hL : L ≤ 2048) (C0 : lw_At p s m meth c b L xs) {G : va_G} {Y : YT} {ng nr nb : Nat} {z : St} {ad : Nat → Nat → Nat} {i : Nat} {H : Heap} {locs : List Loc} {cells slots : Nat} {ls : Array Slot} (hI : Inv z ng nr nb) (hi : i + 4 ≤ L) (hK : va_K G vwCl (tysY Y) s) (hw : wo G s.heap.size (Ew Y ng nr nb z z ad) ad H) (hS : va_S (fun q => s.heap.size ≤ q) s.heap H locs) (hl : lh ls 4 (fun i9 => (([(0, .ref b), (1, .ref (ad 0 0)), (2, .ref (ad 0 4)), (3, .int (nI i))] : List (Nat × Value)).find? (fun q => q.1 == i9)).map (fun q => q.2))) (hc : cells + 6 ≤ 600000) (hs : slots + 81 ≤ 7302250) (kk : ∀ (ng nr nb : Nat) (z : St) (a : Nat → Nat → Nat) (H : Heap) (locs : List Loc), Inv z ng nr nb → a 0 = ad 0 → wo G s.heap.size (Ew Y ng nr nb z z a) a H → va_S (fun q => s.heap.size ≤ q) s.heap H locs → W p l e room_1 s m #[Value.ref b] below meth c H locs (cells + 6) (slots + 81) (lw_Z below #[Value.ref b] s) (F0 m 717 ls [])) : W p l e room_1 s m #[Value.ref b] below meth c H locs (cells) (slots) (lw_Z below #[Value.ref b] s) (F0 m 661 ls []) := by
  obtain ⟨hx, hb, hr, hml, hown, hts0, hX, hbl, hlocks, hgv⟩ := C0
  have hts : ∀ w ∈ wsL_law, w.before #[Value.ref b] s = true := fun w h => hts0 w (wsL_law_in w h)
  have hbA : ¬ (fun q : Nat => s.heap.size ≤ q) b := Nat.not_le.mpr hbl
  refine f_aload_n hx hb dL_law_661 hl 1 rfl rfl ?_
  refine f_aload_n hx hb dL_law_662 hl 0 rfl rfl ?_
  refine f_iload_n hx hb dL_law_663 hl 3 rfl rfl ?_
  refine lv_iconst (v := 1) hx hb dL_law_664 (by decide) ?_
  refine lv_iadd hx hb dL_law_665 ?_
  refine f_top (nI_add i 1) ?_
  refine va_sld hx hb hX hbl hbA hS (vp_in_nI (by omega) (by omega)) dL_law_666 ?_
  refine f_aload_n hx hb dL_law_667 hl 0 rfl rfl ?_
  refine f_iload_n hx hb dL_law_668 hl 3 rfl rfl ?_
  refine lv_iconst (v := 2) hx hb dL_law_669 (by decide) ?_
  refine lv_iadd hx hb dL_law_670 ?_
  refine f_top (nI_add i 2) ?_
  refine va_sld hx hb hX hbl hbA hS (vp_in_nI (by omega) (by omega)) dL_law_671 ?_
  refine q_ci (q_runV (C := RX5) (T := TX5) (N := 10) ⟨hx, hb, hml, hown, hts⟩ (c_X5_ofRamp l (u := z) hI _ _) (cwV 2 hts gL_law_X5_ofRamp rfl rfl rfl (by decide +kernel) ⟨Nat.le_of_ble_eq_true rfl, Nat.le_of_ble_eq_true rfl⟩) hK hw Ew_fq rfl rfl hl.1 rfl (by simp [Value.category, va_rf]) dL_law_672 ⟨by show cells + 0 ≤ 600000; omega, by show slots + 0 ≤ 7302250; omega⟩) hS (fun H locs hw hS => ?_)
  refine f_aload_n hx hb dL_law_675 hl 2 rfl rfl ?_
  refine f_aload_n hx hb dL_law_676 hl 0 rfl rfl ?_
  refine f_iload_n hx hb dL_law_677 hl 3 rfl rfl ?_
  refine lv_iconst (v := 1) hx hb dL_law_678 (by decide) ?_
  refine lv_iadd hx hb dL_law_679 ?_
  refine f_top (nI_add i 1) ?_
  refine va_sld hx hb hX hbl hbA hS (vp_in_nI (by omega) (by omega)) dL_law_680 ?_
  refine f_aload_n hx hb dL_law_681 hl 0 rfl rfl ?_
  refine f_iload_n hx hb dL_law_682 hl 3 rfl rfl ?_
  refine lv_iconst (v := 2) hx hb dL_law_683 (by decide) ?_
  refine lv_iadd hx hb dL_law_684 ?_
  refine f_top (nI_add i 2) ?_
  refine va_sld hx hb hX hbl hbA hS (vp_in_nI (by omega) (by omega)) dL_law_685 ?_
  refine q_ci (q_runV (C := RX6) (T := TX6) (N := 22) ⟨hx, hb, hml, hown, hts⟩ (c_X6_ofRamp l (u := z) hI _ _) (cwV 2 hts gL_law_X6_ofRamp rfl rfl rfl (by decide +kernel) ⟨Nat.le_of_ble_eq_true rfl, Nat.le_of_ble_eq_true rfl⟩) hK hw Ew_mo rfl rfl hl.1 rfl (by simp [Value.category, va_rf]) dL_law_686 ⟨by show cells + 0 + 0 ≤ 600000; omega, by show slots + 0 + 0 ≤ 7302250; omega⟩) hS (fun H locs hw hS => ?_)
  refine lv_icmp_eq (tgt := 717) hx hb dL_law_689 (by decide) (fun c689 => ?_) (fun c689 => absurd rfl c689)
  refine W.widen (k := cells + 6) (n := slots + 81) (by omega) (by omega) ?_
  exact kk _ _ _ _ _ _ _ hI rfl hw hS
set_option maxHeartbeats 4000000 in
set_option maxRecDepth 100000 in
theorem law_count {p : Program} {l : Launch} {e : Env} {s : State} {m : MethodId} {below : List Frame} {meth : Method} {c : Code} {b L : Nat} {xs : Nat → Int32} (hL : L ≤ 2048) (C0 : lw_At p s m meth c b L xs) {G : va_G} {Y : YT} {ng nr nb : Nat} {z : St} {ad : Nat → Nat → Nat} {i : Nat} {H : Heap} {locs : List Loc} {cells slots : Nat} {ls : Array Slot} (hI : Inv z ng nr nb) (hi : i + 4 ≤ L) (hK : va_K G vwCl (tysY Y) s) (hw : wo G s.heap.size (Ew Y ng nr nb z z ad) ad H) (hS : va_S (fun q => s.heap.size ≤ q) s.heap H locs) (hl : lh ls 4 (fun i9 => (([(0, .ref b), (1, .ref (ad 0 0)), (2, .ref (ad 0 4)), (3, .int (nI i))] : List (Nat × Value)).find? (fun q => q.1 == i9)).map (fun q => q.2))) (hc : cells + 6 ≤ 600000) (hs : slots + 81 ≤ 7302250) (kk : ∀ (ng nr nb : Nat) (z : St) (a : Nat → Nat → Nat) (H : Heap) (locs : List Loc), Inv z ng nr nb → a 0 = ad 0 → wo G s.heap.size (Ew Y ng nr nb z z a) a H → va_S (fun q => s.heap.size ≤ q) s.heap H locs → W p l e room_1 s m #[Value.ref b] below meth c H locs (cells + 6) (slots + 81) (lw_Z below #[Value.ref b] s) (F0 m 717 ls [])) : W p l e room_1 s m #[Value.ref b] below meth c H locs (cells) (slots) (lw_Z below #[Value.ref b] s) (F0 m 694 ls []) := by
  obtain ⟨hx, hb, hr, hml, hown, hts0, hX, hbl, hlocks, hgv⟩ := C0
  have hts : ∀ w ∈ wsL_law, w.before #[Value.ref b] s = true := fun w h => hts0 w (wsL_law_in w h)
  have hbA : ¬ (fun q : Nat => s.heap.size ≤ q) b := Nat.not_le.mpr hbl
  refine f_aload_n hx hb dL_law_694 hl 1 rfl rfl ?_
  refine f_aload_n hx hb dL_law_695 hl 0 rfl rfl ?_
  refine f_iload_n hx hb dL_law_696 hl 3 rfl rfl ?_
  refine lv_iconst (v := 1) hx hb dL_law_697 (by decide) ?_
  refine lv_iadd hx hb dL_law_698 ?_
  refine f_top (nI_add i 1) ?_
  refine va_sld hx hb hX hbl hbA hS (vp_in_nI (by omega) (by omega)) dL_law_699 ?_
  refine q_ci (q_runV (C := RX5) (T := TX5) (N := 10) ⟨hx, hb, hml, hown, hts⟩ (c_X5_count l (u := z) hI _) (cwV 1 hts gL_law_X5_count rfl rfl rfl (by decide +kernel) ⟨Nat.le_of_ble_eq_true rfl, Nat.le_of_ble_eq_true rfl⟩) hK hw Ew_fq rfl rfl hl.1 rfl (by simp [Value.category, va_rf]) dL_law_700 ⟨by show cells + 0 ≤ 600000; omega, by show slots + 0 ≤ 7302250; omega⟩) hS (fun H locs hw hS => ?_)
  refine f_aload_n hx hb dL_law_703 hl 2 rfl rfl ?_
  refine f_aload_n hx hb dL_law_704 hl 0 rfl rfl ?_
  refine f_iload_n hx hb dL_law_705 hl 3 rfl rfl ?_
  refine lv_iconst (v := 1) hx hb dL_law_706 (by decide) ?_
  refine lv_iadd hx hb dL_law_707 ?_
  refine f_top (nI_add i 1) ?_
  refine va_sld hx hb hX hbl hbA hS (vp_in_nI (by omega) (by omega)) dL_law_708 ?_
  refine q_ci (q_runV (C := RX6) (T := TX6) (N := 22) ⟨hx, hb, hml, hown, hts⟩ (c_X6_count l (u := z) hI _) (cwV 1 hts gL_law_X6_count rfl rfl rfl (by decide +kernel) ⟨Nat.le_of_ble_eq_true rfl, Nat.le_of_ble_eq_true rfl⟩) hK hw Ew_mo rfl rfl hl.1 rfl (by simp [Value.category, va_rf]) dL_law_709 ⟨by show cells + 0 + 0 ≤ 600000; omega, by show slots + 0 + 0 ≤ 7302250; omega⟩) hS (fun H locs hw hS => ?_)
  refine lv_icmp_eq (tgt := 717) hx hb dL_law_712 (by decide) (fun c712 => ?_) (fun c712 => absurd rfl c712)
  refine W.widen (k := cells + 6) (n := slots + 81) (by omega) (by omega) ?_
  exact kk _ _ _ _ _ _ _ hI rfl hw hS
