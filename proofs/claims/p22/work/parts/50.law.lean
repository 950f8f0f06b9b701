set_option maxHeartbeats 4000000 in
set_option maxRecDepth 100000 in
/-- the law at letter -/
theorem law_0 {p : Program} {e : Env} {s : State} {m : MethodId} {below : List Frame} {meth : Method} {cd : Code} (l : Launch) {b L : Nat} {xs : Nat → Int32} {D : va_G} {cI cB : ClassId} {ad ad2 : Nat → Nat} {aS aV : Nat} {Q : State → Prop} (E : CallFix p m cd cL_law 4 s #[Value.ref b] wsL_law RL) (hXs : va_X b L xs s s.heap) (hbl : b < s.heap.size) (hK : wK D cI cB s) (hIX : wI 25 ad) (hIM : wI 20 ad2) (hAX : ∀ k : Nat, k < 25 → s.heap.size ≤ ad k) (hAM : ∀ k : Nat, k < 20 → s.heap.size ≤ ad2 k) (hXM : ∀ j k : Nat, j < 25 → k < 20 → ad j ≠ ad2 k) (hZ : zS aS aV (fun q : Nat => s.heap.size ≤ q) s s.heap) {H : Heap} {locs : List Loc} {f : Nat → Int32} {a ta : Nat → Nat → Int32} {g t : Nat → Int32} {gl : Nat → Int64} {bb tb : Nat → Nat → Int32} (hPX : va_P D vwCl (wX cI ad f a ta) H) (hPM : va_P D vwCl (wM cI cB ad2 g t gl bb tb) H) (hS : va_S (fun q : Nat => s.heap.size ≤ q) s.heap H locs) {q n z c : Nat} (hq : 4 * q + 4 ≤ L) (hL : L ≤ 256) (hRC : RC q n z c f a g bb) (hend : ∀ (H : Heap) (locs : List Loc) (f : Nat → Int32) (a ta : Nat → Nat → Int32) (g t : Nat → Int32) (gl : Nat → Int64) (bb tb : Nat → Nat → Int32), va_P D vwCl (wX cI ad f a ta) H → va_P D vwCl (wM cI cB ad2 g t gl bb tb) H → va_S (fun q : Nat => s.heap.size ≤ q) s.heap H locs → RR (q + 1) f a g bb → ∀ ls : Array Slot, lv_has ls 4 [(3, .int (nI (4 * q))), (0, .ref b), (1, .ref (ad 0)), (2, .ref (ad2 0))] → W p l e room_1 s m #[Value.ref b] below meth cd H locs 45 348 Q (F0 m 652 ls [])) (ls : Array Slot) (hl : lv_has ls 4 [(3, .int (nI (4 * q))), (0, .ref b), (1, .ref (ad 0)), (2, .ref (ad2 0))]) : W p l e room_1 s m #[Value.ref b] below meth cd H locs 45 348 Q (F0 m 136 ls []) := by
  have hbA : ¬ (fun q : Nat => s.heap.size ≤ q) b := Nat.not_le.mpr hbl
  have hAXs : ∀ q, wA 25 ad q → s.heap.size ≤ q := fun q h => by obtain ⟨k, hk, e1⟩ := h; rw [e1]; exact hAX k hk
  have hAMs : ∀ q, wA 20 ad2 q → s.heap.size ≤ q := fun q h => by obtain ⟨k, hk, e1⟩ := h; rw [e1]; exact hAM k hk
  obtain ⟨hxi, hmi, hX, hM, hp, -, -, -⟩ := id hRC
  obtain ⟨n2, c1, c2, hX2, hc2, hc26⟩ := id hxi
  refine lv_aload_n E.1 E.2.1 dL_law_136 rfl (lv_at hl 2 rfl) ?_
  refine lv_aload_n E.1 E.2.1 dL_law_137 rfl (lv_at hl 1 rfl) ?_
  refine lv_iload_n E.1 E.2.1 dL_law_138 rfl (lv_at hl 0 rfl) ?_
  refine lv_iconst (v := 1) E.1 E.2.1 dL_law_139 (by decide) ?_
  refine lv_iadd E.1 E.2.1 dL_law_140 ?_
  refine lv_topi (fun y1 ey1 => ?_)
  obtain rfl : y1 = nI (4 * q + 1) := ey1.trans (nI_1 (4 * q))
  refine va_sld (i := nI (4 * q + 1)) E.1 E.2.1 hXs hbl hbA hS (vp_in_nI (by omega) (by omega)) dL_law_141 ?_
  refine lv_topi (fun y2 ey2 => ?_)
  obtain rfl : y2 = xs (4 * q + 1) := ey2.trans (by rw [nI_clamp (show 4 * q + 1 < 2 ^ 31 by omega)])
  refine g_VWi (As := [.int (xs (4 * q + 1))]) (rest := []) E hK hPX hS hAXs (c_X2_letter l D cI cB ad f a ta n z c hX hIX (xs (4 * q + 1))) (cwV 1 E.2.2.2.2 gL_law_X2_letter rfl rfl rfl (by decide +kernel) ⟨Nat.le_of_ble_eq_true rfl, Nat.le_of_ble_eq_true rfl⟩) (rx hK hPX) rfl hl.1 rfl (Nat.le_of_ble_eq_true rfl) dL_law_142 ⟨Nat.le_of_ble_eq_true rfl, Nat.le_of_ble_eq_true rfl⟩ (fun r3 u3 H1 locs hp3 hP1 hq3 hS => ?_)
  obtain rfl : r3 = (FX2_letter f a ta n z c (xs (4 * q + 1))).1 := congrArg Prod.fst hp3
  obtain rfl : u3 = (FX2_letter f a ta n z c (xs (4 * q + 1))).2 := congrArg Prod.snd hp3
  have hPM : va_P D vwCl (wM cI cB ad2 g t gl bb tb) H1 := hPM.kept (fun k q hq9 => hq3 q.1 ((hPM k q hq9).lt) (fun h => by obtain ⟨k1, hk1, e1⟩ := h; obtain ⟨k2, e2⟩ := w_key (wM_fst cI cB ad2 g t gl bb tb) hq9; exact hXM k1 k hk1 k2 (e1.symm.trans e2)))
  have hPX : va_P D vwCl (wX cI ad (FX2_letter f a ta n z c (xs (4 * q + 1))).2.1 (FX2_letter f a ta n z c (xs (4 * q + 1))).2.2.1 (FX2_letter f a ta n z c (xs (4 * q + 1))).2.2.2) H1 := hP1
  clear hP1
  generalize H1 = H at hPX hPM hS ⊢
  refine lv_pop E.1 E.2.1 dL_law_145 rfl ?_
  refine lv_aload_n E.1 E.2.1 dL_law_146 rfl (lv_at hl 3 rfl) ?_
  refine lv_aload_n E.1 E.2.1 dL_law_147 rfl (lv_at hl 1 rfl) ?_
  refine lv_iload_n E.1 E.2.1 dL_law_148 rfl (lv_at hl 0 rfl) ?_
  refine lv_iconst (v := 1) E.1 E.2.1 dL_law_149 (by decide) ?_
  refine lv_iadd E.1 E.2.1 dL_law_150 ?_
  refine lv_topi (fun y4 ey4 => ?_)
  obtain rfl : y4 = nI (4 * q + 1) := ey4.trans (nI_1 (4 * q))
  refine va_sld (i := nI (4 * q + 1)) E.1 E.2.1 hXs hbl hbA hS (vp_in_nI (by omega) (by omega)) dL_law_151 ?_
  refine lv_topi (fun y5 ey5 => ?_)
  obtain rfl : y5 = xs (4 * q + 1) := ey5.trans (by rw [nI_clamp (show 4 * q + 1 < 2 ^ 31 by omega)])
  refine g_VWi (As := [.int (xs (4 * q + 1))]) (rest := []) E hK hPM hS hAMs (c_X3_letter l D cI cB ad2 g t gl bb tb n z c hM hIM (xs (4 * q + 1))) (cwV 1 E.2.2.2.2 gL_law_X3_letter rfl rfl rfl (by decide +kernel) ⟨Nat.le_of_ble_eq_true rfl, Nat.le_of_ble_eq_true rfl⟩) (rm0x hK hPM) rfl hl.1 rfl (Nat.le_of_ble_eq_true rfl) dL_law_152 ⟨Nat.le_of_ble_eq_true rfl, Nat.le_of_ble_eq_true rfl⟩ (fun r6 u6 H1 locs hp6 hP1 hq6 hS => ?_)
  obtain rfl : r6 = (FX3_letter g t gl bb tb n z c (xs (4 * q + 1))).1 := congrArg Prod.fst hp6
  obtain rfl : u6 = (FX3_letter g t gl bb tb n z c (xs (4 * q + 1))).2 := congrArg Prod.snd hp6
  have hPX : va_P D vwCl (wX cI ad (FX2_letter f a ta n z c (xs (4 * q + 1))).2.1 (FX2_letter f a ta n z c (xs (4 * q + 1))).2.2.1 (FX2_letter f a ta n z c (xs (4 * q + 1))).2.2.2) H1 := hPX.kept (fun k q hq9 => hq6 q.1 ((hPX k q hq9).lt) (fun h => by obtain ⟨k1, hk1, e1⟩ := h; obtain ⟨k2, e2⟩ := w_key (wX_fst ..) hq9; exact hXM k k1 k2 hk1 (e2.symm.trans e1)))
  have hPM : va_P D vwCl (wM cI cB ad2 (FX3_letter g t gl bb tb n z c (xs (4 * q + 1))).2.1 (FX3_letter g t gl bb tb n z c (xs (4 * q + 1))).2.2.1 (FX3_letter g t gl bb tb n z c (xs (4 * q + 1))).2.2.2.1 (FX3_letter g t gl bb tb n z c (xs (4 * q + 1))).2.2.2.2.1 (FX3_letter g t gl bb tb n z c (xs (4 * q + 1))).2.2.2.2.2) H1 := hP1
  clear hP1
  generalize H1 = H at hPX hPM hS ⊢
  refine lv_pop E.1 E.2.1 dL_law_155 rfl ?_
  refine lv_goto (tgt := 652) E.1 E.2.1 dL_law_156 (by decide) ?_
  exact hend _ _ _ _ _ _ _ _ _ _ hPX hPM hS ((rr_letter (ta := ta) (t := t) (gl := gl) (tb := tb) hRC).2) ls hl
set_option maxHeartbeats 4000000 in
set_option maxRecDepth 100000 in
/-- the law at blank -/
theorem law_1 {p : Program} {e : Env} {s : State} {m : MethodId} {below : List Frame} {meth : Method} {cd : Code} (l : Launch) {b L : Nat} {xs : Nat → Int32} {D : va_G} {cI cB : ClassId} {ad ad2 : Nat → Nat} {aS aV : Nat} {Q : State → Prop} (E : CallFix p m cd cL_law 4 s #[Value.ref b] wsL_law RL) (hXs : va_X b L xs s s.heap) (hbl : b < s.heap.size) (hK : wK D cI cB s) (hIX : wI 25 ad) (hIM : wI 20 ad2) (hAX : ∀ k : Nat, k < 25 → s.heap.size ≤ ad k) (hAM : ∀ k : Nat, k < 20 → s.heap.size ≤ ad2 k) (hXM : ∀ j k : Nat, j < 25 → k < 20 → ad j ≠ ad2 k) (hZ : zS aS aV (fun q : Nat => s.heap.size ≤ q) s s.heap) {H : Heap} {locs : List Loc} {f : Nat → Int32} {a ta : Nat → Nat → Int32} {g t : Nat → Int32} {gl : Nat → Int64} {bb tb : Nat → Nat → Int32} (hPX : va_P D vwCl (wX cI ad f a ta) H) (hPM : va_P D vwCl (wM cI cB ad2 g t gl bb tb) H) (hS : va_S (fun q : Nat => s.heap.size ≤ q) s.heap H locs) {q n z c : Nat} (hq : 4 * q + 4 ≤ L) (hL : L ≤ 256) (hRC : RC q n z c f a g bb) (hend : ∀ (H : Heap) (locs : List Loc) (f : Nat → Int32) (a ta : Nat → Nat → Int32) (g t : Nat → Int32) (gl : Nat → Int64) (bb tb : Nat → Nat → Int32), va_P D vwCl (wX cI ad f a ta) H → va_P D vwCl (wM cI cB ad2 g t gl bb tb) H → va_S (fun q : Nat => s.heap.size ≤ q) s.heap H locs → RR (q + 1) f a g bb → ∀ ls : Array Slot, lv_has ls 4 [(3, .int (nI (4 * q))), (0, .ref b), (1, .ref (ad 0)), (2, .ref (ad2 0))] → W p l e room_1 s m #[Value.ref b] below meth cd H locs 45 348 Q (F0 m 652 ls [])) (ls : Array Slot) (hl : lv_has ls 4 [(3, .int (nI (4 * q))), (0, .ref b), (1, .ref (ad 0)), (2, .ref (ad2 0))]) : W p l e room_1 s m #[Value.ref b] below meth cd H locs 45 348 Q (F0 m 159 ls []) := by
  have hbA : ¬ (fun q : Nat => s.heap.size ≤ q) b := Nat.not_le.mpr hbl
  have hAXs : ∀ q, wA 25 ad q → s.heap.size ≤ q := fun q h => by obtain ⟨k, hk, e1⟩ := h; rw [e1]; exact hAX k hk
  have hAMs : ∀ q, wA 20 ad2 q → s.heap.size ≤ q := fun q h => by obtain ⟨k, hk, e1⟩ := h; rw [e1]; exact hAM k hk
  obtain ⟨hxi, hmi, hX, hM, hp, -, -, -⟩ := id hRC
  obtain ⟨n2, c1, c2, hX2, hc2, hc26⟩ := id hxi
  refine lv_aload_n E.1 E.2.1 dL_law_159 rfl (lv_at hl 2 rfl) ?_
  refine g_VWi (As := []) (rest := []) E hK hPX hS hAXs (c_X2_blank l D cI cB ad f a ta n z c hX hIX) (cwV 0 E.2.2.2.2 gL_law_X2_blank rfl rfl rfl (by decide +kernel) ⟨Nat.le_of_ble_eq_true rfl, Nat.le_of_ble_eq_true rfl⟩) (rx hK hPX) rfl hl.1 rfl (Nat.le_of_ble_eq_true rfl) dL_law_160 ⟨Nat.le_of_ble_eq_true rfl, Nat.le_of_ble_eq_true rfl⟩ (fun r1 u1 H1 locs hp1 hP1 hq1 hS => ?_)
  obtain rfl : r1 = (FX2_blank f a ta n z c).1 := congrArg Prod.fst hp1
  obtain rfl : u1 = (FX2_blank f a ta n z c).2 := congrArg Prod.snd hp1
  have hPM : va_P D vwCl (wM cI cB ad2 g t gl bb tb) H1 := hPM.kept (fun k q hq9 => hq1 q.1 ((hPM k q hq9).lt) (fun h => by obtain ⟨k1, hk1, e1⟩ := h; obtain ⟨k2, e2⟩ := w_key (wM_fst cI cB ad2 g t gl bb tb) hq9; exact hXM k1 k hk1 k2 (e1.symm.trans e2)))
  have hPX : va_P D vwCl (wX cI ad (FX2_blank f a ta n z c).2.1 (FX2_blank f a ta n z c).2.2.1 (FX2_blank f a ta n z c).2.2.2) H1 := hP1
  clear hP1
  generalize H1 = H at hPX hPM hS ⊢
  refine lv_pop E.1 E.2.1 dL_law_163 rfl ?_
  refine lv_aload_n E.1 E.2.1 dL_law_164 rfl (lv_at hl 3 rfl) ?_
  refine g_VWi (As := []) (rest := []) E hK hPM hS hAMs (c_X3_blank l D cI cB ad2 g t gl bb tb n z c hM hIM) (cwV 0 E.2.2.2.2 gL_law_X3_blank rfl rfl rfl (by decide +kernel) ⟨Nat.le_of_ble_eq_true rfl, Nat.le_of_ble_eq_true rfl⟩) (rm0x hK hPM) rfl hl.1 rfl (Nat.le_of_ble_eq_true rfl) dL_law_165 ⟨Nat.le_of_ble_eq_true rfl, Nat.le_of_ble_eq_true rfl⟩ (fun r2 u2 H1 locs hp2 hP1 hq2 hS => ?_)
  obtain rfl : r2 = (FX3_blank g t gl bb tb n z c).1 := congrArg Prod.fst hp2
  obtain rfl : u2 = (FX3_blank g t gl bb tb n z c).2 := congrArg Prod.snd hp2
  have hPX : va_P D vwCl (wX cI ad (FX2_blank f a ta n z c).2.1 (FX2_blank f a ta n z c).2.2.1 (FX2_blank f a ta n z c).2.2.2) H1 := hPX.kept (fun k q hq9 => hq2 q.1 ((hPX k q hq9).lt) (fun h => by obtain ⟨k1, hk1, e1⟩ := h; obtain ⟨k2, e2⟩ := w_key (wX_fst ..) hq9; exact hXM k k1 k2 hk1 (e2.symm.trans e1)))
  have hPM : va_P D vwCl (wM cI cB ad2 (FX3_blank g t gl bb tb n z c).2.1 (FX3_blank g t gl bb tb n z c).2.2.1 (FX3_blank g t gl bb tb n z c).2.2.2.1 (FX3_blank g t gl bb tb n z c).2.2.2.2.1 (FX3_blank g t gl bb tb n z c).2.2.2.2.2) H1 := hP1
  clear hP1
  generalize H1 = H at hPX hPM hS ⊢
  refine lv_pop E.1 E.2.1 dL_law_168 rfl ?_
  refine lv_goto (tgt := 652) E.1 E.2.1 dL_law_169 (by decide) ?_
  exact hend _ _ _ _ _ _ _ _ _ _ hPX hPM hS ((rr_blank (ta := ta) (t := t) (gl := gl) (tb := tb) hRC).2) ls hl
set_option maxHeartbeats 4000000 in
set_option maxRecDepth 100000 in
/-- the law at fault -/
theorem law_2 {p : Program} {e : Env} {s : State} {m : MethodId} {below : List Frame} {meth : Method} {cd : Code} (l : Launch) {b L : Nat} {xs : Nat → Int32} {D : va_G} {cI cB : ClassId} {ad ad2 : Nat → Nat} {aS aV : Nat} {Q : State → Prop} (E : CallFix p m cd cL_law 4 s #[Value.ref b] wsL_law RL) (hXs : va_X b L xs s s.heap) (hbl : b < s.heap.size) (hK : wK D cI cB s) (hIX : wI 25 ad) (hIM : wI 20 ad2) (hAX : ∀ k : Nat, k < 25 → s.heap.size ≤ ad k) (hAM : ∀ k : Nat, k < 20 → s.heap.size ≤ ad2 k) (hXM : ∀ j k : Nat, j < 25 → k < 20 → ad j ≠ ad2 k) (hZ : zS aS aV (fun q : Nat => s.heap.size ≤ q) s s.heap) {H : Heap} {locs : List Loc} {f : Nat → Int32} {a ta : Nat → Nat → Int32} {g t : Nat → Int32} {gl : Nat → Int64} {bb tb : Nat → Nat → Int32} (hPX : va_P D vwCl (wX cI ad f a ta) H) (hPM : va_P D vwCl (wM cI cB ad2 g t gl bb tb) H) (hS : va_S (fun q : Nat => s.heap.size ≤ q) s.heap H locs) {q n z c : Nat} (hq : 4 * q + 4 ≤ L) (hL : L ≤ 256) (hRC : RC q n z c f a g bb) (hend : ∀ (H : Heap) (locs : List Loc) (f : Nat → Int32) (a ta : Nat → Nat → Int32) (g t : Nat → Int32) (gl : Nat → Int64) (bb tb : Nat → Nat → Int32), va_P D vwCl (wX cI ad f a ta) H → va_P D vwCl (wM cI cB ad2 g t gl bb tb) H → va_S (fun q : Nat => s.heap.size ≤ q) s.heap H locs → RR (q + 1) f a g bb → ∀ ls : Array Slot, lv_has ls 4 [(3, .int (nI (4 * q))), (0, .ref b), (1, .ref (ad 0)), (2, .ref (ad2 0))] → W p l e room_1 s m #[Value.ref b] below meth cd H locs 45 348 Q (F0 m 652 ls [])) (ls : Array Slot) (hl : lv_has ls 4 [(3, .int (nI (4 * q))), (0, .ref b), (1, .ref (ad 0)), (2, .ref (ad2 0))]) : W p l e room_1 s m #[Value.ref b] below meth cd H locs 45 348 Q (F0 m 172 ls []) := by
  have hbA : ¬ (fun q : Nat => s.heap.size ≤ q) b := Nat.not_le.mpr hbl
  have hAXs : ∀ q, wA 25 ad q → s.heap.size ≤ q := fun q h => by obtain ⟨k, hk, e1⟩ := h; rw [e1]; exact hAX k hk
  have hAMs : ∀ q, wA 20 ad2 q → s.heap.size ≤ q := fun q h => by obtain ⟨k, hk, e1⟩ := h; rw [e1]; exact hAM k hk
  obtain ⟨hxi, hmi, hX, hM, hp, -, -, -⟩ := id hRC
  obtain ⟨n2, c1, c2, hX2, hc2, hc26⟩ := id hxi
  refine lv_aload_n E.1 E.2.1 dL_law_172 rfl (lv_at hl 2 rfl) ?_
  refine gs_VR (As := []) (rest := []) E hK hPX hZ hS (c_X2_fault l D cI cB ad f a ta n z c hX aS aV (fun q : Nat => s.heap.size ≤ q)) (cwV 0 E.2.2.2.2 gL_law_X2_fault rfl rfl rfl (by decide +kernel) ⟨Nat.le_of_ble_eq_true rfl, Nat.le_of_ble_eq_true rfl⟩) (rx hK hPX) rfl hl.1 rfl (Nat.le_of_ble_eq_true rfl) dL_law_173 ⟨Nat.le_of_ble_eq_true rfl, Nat.le_of_ble_eq_true rfl⟩ ?_
  refine lv_pop E.1 E.2.1 dL_law_176 rfl ?_
  refine lv_aload_n E.1 E.2.1 dL_law_177 rfl (lv_at hl 3 rfl) ?_
  refine g_VWi (As := []) (rest := []) E hK hPM hS hAMs (c_X3_fault l D cI cB ad2 g t gl bb tb n z c hM hIM) (cwV 0 E.2.2.2.2 gL_law_X3_fault rfl rfl rfl (by decide +kernel) ⟨Nat.le_of_ble_eq_true rfl, Nat.le_of_ble_eq_true rfl⟩) (rm0x hK hPM) rfl hl.1 rfl (Nat.le_of_ble_eq_true rfl) dL_law_178 ⟨Nat.le_of_ble_eq_true rfl, Nat.le_of_ble_eq_true rfl⟩ (fun r1 u1 H1 locs hp1 hP1 hq1 hS => ?_)
  obtain rfl : r1 = (FX3_fault g t gl bb tb n z c).1 := congrArg Prod.fst hp1
  obtain rfl : u1 = (FX3_fault g t gl bb tb n z c).2 := congrArg Prod.snd hp1
  have hPX : va_P D vwCl (wX cI ad f a ta) H1 := hPX.kept (fun k q hq9 => hq1 q.1 ((hPX k q hq9).lt) (fun h => by obtain ⟨k1, hk1, e1⟩ := h; obtain ⟨k2, e2⟩ := w_key (wX_fst ..) hq9; exact hXM k k1 k2 hk1 (e2.symm.trans e1)))
  have hPM : va_P D vwCl (wM cI cB ad2 (FX3_fault g t gl bb tb n z c).2.1 (FX3_fault g t gl bb tb n z c).2.2.1 (FX3_fault g t gl bb tb n z c).2.2.2.1 (FX3_fault g t gl bb tb n z c).2.2.2.2.1 (FX3_fault g t gl bb tb n z c).2.2.2.2.2) H1 := hP1
  clear hP1
  generalize H1 = H at hPX hPM hS ⊢
  refine lv_pop E.1 E.2.1 dL_law_181 rfl ?_
  refine lv_goto (tgt := 652) E.1 E.2.1 dL_law_182 (by decide) ?_
  exact hend _ _ _ _ _ _ _ _ _ _ hPX hPM hS ((rr_fault (ta := ta) (t := t) (gl := gl) (tb := tb) hRC).2) ls hl
set_option maxHeartbeats 4000000 in
set_option maxRecDepth 100000 in
/-- the law at city -/
theorem law_3 {p : Program} {e : Env} {s : State} {m : MethodId} {below : List Frame} {meth : Method} {cd : Code} (l : Launch) {b L : Nat} {xs : Nat → Int32} {D : va_G} {cI cB : ClassId} {ad ad2 : Nat → Nat} {aS aV : Nat} {Q : State → Prop} (E : CallFix p m cd cL_law 4 s #[Value.ref b] wsL_law RL) (hXs : va_X b L xs s s.heap) (hbl : b < s.heap.size) (hK : wK D cI cB s) (hIX : wI 25 ad) (hIM : wI 20 ad2) (hAX : ∀ k : Nat, k < 25 → s.heap.size ≤ ad k) (hAM : ∀ k : Nat, k < 20 → s.heap.size ≤ ad2 k) (hXM : ∀ j k : Nat, j < 25 → k < 20 → ad j ≠ ad2 k) (hZ : zS aS aV (fun q : Nat => s.heap.size ≤ q) s s.heap) {H : Heap} {locs : List Loc} {f : Nat → Int32} {a ta : Nat → Nat → Int32} {g t : Nat → Int32} {gl : Nat → Int64} {bb tb : Nat → Nat → Int32} (hPX : va_P D vwCl (wX cI ad f a ta) H) (hPM : va_P D vwCl (wM cI cB ad2 g t gl bb tb) H) (hS : va_S (fun q : Nat => s.heap.size ≤ q) s.heap H locs) {q n z c : Nat} (hq : 4 * q + 4 ≤ L) (hL : L ≤ 256) (hRC : RC q n z c f a g bb) (hend : ∀ (H : Heap) (locs : List Loc) (f : Nat → Int32) (a ta : Nat → Nat → Int32) (g t : Nat → Int32) (gl : Nat → Int64) (bb tb : Nat → Nat → Int32), va_P D vwCl (wX cI ad f a ta) H → va_P D vwCl (wM cI cB ad2 g t gl bb tb) H → va_S (fun q : Nat => s.heap.size ≤ q) s.heap H locs → RR (q + 1) f a g bb → ∀ ls : Array Slot, lv_has ls 4 [(3, .int (nI (4 * q))), (0, .ref b), (1, .ref (ad 0)), (2, .ref (ad2 0))] → W p l e room_1 s m #[Value.ref b] below meth cd H locs 45 348 Q (F0 m 652 ls [])) (ls : Array Slot) (hl : lv_has ls 4 [(3, .int (nI (4 * q))), (0, .ref b), (1, .ref (ad 0)), (2, .ref (ad2 0))]) : W p l e room_1 s m #[Value.ref b] below meth cd H locs 45 348 Q (F0 m 185 ls []) := by
  have hbA : ¬ (fun q : Nat => s.heap.size ≤ q) b := Nat.not_le.mpr hbl
  have hAXs : ∀ q, wA 25 ad q → s.heap.size ≤ q := fun q h => by obtain ⟨k, hk, e1⟩ := h; rw [e1]; exact hAX k hk
  have hAMs : ∀ q, wA 20 ad2 q → s.heap.size ≤ q := fun q h => by obtain ⟨k, hk, e1⟩ := h; rw [e1]; exact hAM k hk
  obtain ⟨hxi, hmi, hX, hM, hp, -, -, -⟩ := id hRC
  obtain ⟨n2, c1, c2, hX2, hc2, hc26⟩ := id hxi
  refine lv_aload_n E.1 E.2.1 dL_law_185 rfl (lv_at hl 2 rfl) ?_
  refine gs_VWi (As := []) (rest := []) E hK hPX hZ hS hAXs (c_X2_city l D cI cB ad f a ta n z c hX hIX aS aV) (cwV 0 E.2.2.2.2 gL_law_X2_city rfl rfl rfl (by decide +kernel) ⟨Nat.le_of_ble_eq_true rfl, Nat.le_of_ble_eq_true rfl⟩) (rx hK hPX) rfl hl.1 rfl (Nat.le_of_ble_eq_true rfl) dL_law_186 ⟨Nat.le_of_ble_eq_true rfl, Nat.le_of_ble_eq_true rfl⟩ (fun r1 u1 H1 locs hp1 hP1 hq1 hS => ?_)
  obtain rfl : r1 = (FX2_city f a ta n z c).1 := congrArg Prod.fst hp1
  obtain rfl : u1 = (FX2_city f a ta n z c).2 := congrArg Prod.snd hp1
  have hPM : va_P D vwCl (wM cI cB ad2 g t gl bb tb) H1 := hPM.kept (fun k q hq9 => hq1 q.1 ((hPM k q hq9).lt) (fun h => by obtain ⟨k1, hk1, e1⟩ := h; obtain ⟨k2, e2⟩ := w_key (wM_fst cI cB ad2 g t gl bb tb) hq9; exact hXM k1 k hk1 k2 (e1.symm.trans e2)))
  have hPX : va_P D vwCl (wX cI ad (FX2_city f a ta n z c).2.1 (FX2_city f a ta n z c).2.2.1 (FX2_city f a ta n z c).2.2.2) H1 := hP1
  clear hP1
  generalize H1 = H at hPX hPM hS ⊢
  refine lv_pop E.1 E.2.1 dL_law_189 rfl ?_
  refine lv_aload_n E.1 E.2.1 dL_law_190 rfl (lv_at hl 3 rfl) ?_
  refine g_VWi (As := []) (rest := []) E hK hPM hS hAMs (c_X3_city l D cI cB ad2 g t gl bb tb n z c hM hIM) (cwV 0 E.2.2.2.2 gL_law_X3_city rfl rfl rfl (by decide +kernel) ⟨Nat.le_of_ble_eq_true rfl, Nat.le_of_ble_eq_true rfl⟩) (rm0x hK hPM) rfl hl.1 rfl (Nat.le_of_ble_eq_true rfl) dL_law_191 ⟨Nat.le_of_ble_eq_true rfl, Nat.le_of_ble_eq_true rfl⟩ (fun r2 u2 H1 locs hp2 hP1 hq2 hS => ?_)
  obtain rfl : r2 = (FX3_city g t gl bb tb n z c).1 := congrArg Prod.fst hp2
  obtain rfl : u2 = (FX3_city g t gl bb tb n z c).2 := congrArg Prod.snd hp2
  have hPX : va_P D vwCl (wX cI ad (FX2_city f a ta n z c).2.1 (FX2_city f a ta n z c).2.2.1 (FX2_city f a ta n z c).2.2.2) H1 := hPX.kept (fun k q hq9 => hq2 q.1 ((hPX k q hq9).lt) (fun h => by obtain ⟨k1, hk1, e1⟩ := h; obtain ⟨k2, e2⟩ := w_key (wX_fst ..) hq9; exact hXM k k1 k2 hk1 (e2.symm.trans e1)))
  have hPM : va_P D vwCl (wM cI cB ad2 (FX3_city g t gl bb tb n z c).2.1 (FX3_city g t gl bb tb n z c).2.2.1 (FX3_city g t gl bb tb n z c).2.2.2.1 (FX3_city g t gl bb tb n z c).2.2.2.2.1 (FX3_city g t gl bb tb n z c).2.2.2.2.2) H1 := hP1
  clear hP1
  generalize H1 = H at hPX hPM hS ⊢
  refine lv_pop E.1 E.2.1 dL_law_194 rfl ?_
  refine lv_goto (tgt := 652) E.1 E.2.1 dL_law_195 (by decide) ?_
  exact hend _ _ _ _ _ _ _ _ _ _ hPX hPM hS ((rr_city (ta := ta) (t := t) (gl := gl) (tb := tb) (by omega) hRC).2) ls hl
set_option maxHeartbeats 4000000 in
set_option maxRecDepth 100000 in
/-- the law at about -/
theorem law_4 {p : Program} {e : Env} {s : State} {m : MethodId} {below : List Frame} {meth : Method} {cd : Code} (l : Launch) {b L : Nat} {xs : Nat → Int32} {D : va_G} {cI cB : ClassId} {ad ad2 : Nat → Nat} {aS aV : Nat} {Q : State → Prop} (E : CallFix p m cd cL_law 4 s #[Value.ref b] wsL_law RL) (hXs : va_X b L xs s s.heap) (hbl : b < s.heap.size) (hK : wK D cI cB s) (hIX : wI 25 ad) (hIM : wI 20 ad2) (hAX : ∀ k : Nat, k < 25 → s.heap.size ≤ ad k) (hAM : ∀ k : Nat, k < 20 → s.heap.size ≤ ad2 k) (hXM : ∀ j k : Nat, j < 25 → k < 20 → ad j ≠ ad2 k) (hZ : zS aS aV (fun q : Nat => s.heap.size ≤ q) s s.heap) {H : Heap} {locs : List Loc} {f : Nat → Int32} {a ta : Nat → Nat → Int32} {g t : Nat → Int32} {gl : Nat → Int64} {bb tb : Nat → Nat → Int32} (hPX : va_P D vwCl (wX cI ad f a ta) H) (hPM : va_P D vwCl (wM cI cB ad2 g t gl bb tb) H) (hS : va_S (fun q : Nat => s.heap.size ≤ q) s.heap H locs) {q n z c : Nat} (hq : 4 * q + 4 ≤ L) (hL : L ≤ 256) (hRC : RC q n z c f a g bb) (hend : ∀ (H : Heap) (locs : List Loc) (f : Nat → Int32) (a ta : Nat → Nat → Int32) (g t : Nat → Int32) (gl : Nat → Int64) (bb tb : Nat → Nat → Int32), va_P D vwCl (wX cI ad f a ta) H → va_P D vwCl (wM cI cB ad2 g t gl bb tb) H → va_S (fun q : Nat => s.heap.size ≤ q) s.heap H locs → RR (q + 1) f a g bb → ∀ ls : Array Slot, lv_has ls 4 [(3, .int (nI (4 * q))), (0, .ref b), (1, .ref (ad 0)), (2, .ref (ad2 0))] → W p l e room_1 s m #[Value.ref b] below meth cd H locs 45 348 Q (F0 m 652 ls [])) (ls : Array Slot) (hl : lv_has ls 4 [(3, .int (nI (4 * q))), (0, .ref b), (1, .ref (ad 0)), (2, .ref (ad2 0))]) : W p l e room_1 s m #[Value.ref b] below meth cd H locs 45 348 Q (F0 m 198 ls []) := by
  have hbA : ¬ (fun q : Nat => s.heap.size ≤ q) b := Nat.not_le.mpr hbl
  have hAXs : ∀ q, wA 25 ad q → s.heap.size ≤ q := fun q h => by obtain ⟨k, hk, e1⟩ := h; rw [e1]; exact hAX k hk
  have hAMs : ∀ q, wA 20 ad2 q → s.heap.size ≤ q := fun q h => by obtain ⟨k, hk, e1⟩ := h; rw [e1]; exact hAM k hk
  obtain ⟨hxi, hmi, hX, hM, hp, -, -, -⟩ := id hRC
  obtain ⟨n2, c1, c2, hX2, hc2, hc26⟩ := id hxi
  refine lv_aload_n E.1 E.2.1 dL_law_198 rfl (lv_at hl 2 rfl) ?_
  refine lv_aload_n E.1 E.2.1 dL_law_199 rfl (lv_at hl 1 rfl) ?_
  refine lv_iload_n E.1 E.2.1 dL_law_200 rfl (lv_at hl 0 rfl) ?_
  refine lv_iconst (v := 1) E.1 E.2.1 dL_law_201 (by decide) ?_
  refine lv_iadd E.1 E.2.1 dL_law_202 ?_
  refine lv_topi (fun y1 ey1 => ?_)
  obtain rfl : y1 = nI (4 * q + 1) := ey1.trans (nI_1 (4 * q))
  refine va_sld (i := nI (4 * q + 1)) E.1 E.2.1 hXs hbl hbA hS (vp_in_nI (by omega) (by omega)) dL_law_203 ?_
  refine lv_topi (fun y2 ey2 => ?_)
  obtain rfl : y2 = xs (4 * q + 1) := ey2.trans (by rw [nI_clamp (show 4 * q + 1 < 2 ^ 31 by omega)])
  refine lv_aload_n E.1 E.2.1 dL_law_204 rfl (lv_at hl 1 rfl) ?_
  refine lv_iload_n E.1 E.2.1 dL_law_205 rfl (lv_at hl 0 rfl) ?_
  refine lv_iconst (v := 2) E.1 E.2.1 dL_law_206 (by decide) ?_
  refine lv_iadd E.1 E.2.1 dL_law_207 ?_
  refine lv_topi (fun y3 ey3 => ?_)
  obtain rfl : y3 = nI (4 * q + 2) := ey3.trans (nI_add (4 * q) 2)
  refine va_sld (i := nI (4 * q + 2)) E.1 E.2.1 hXs hbl hbA hS (vp_in_nI (by omega) (by omega)) dL_law_208 ?_
  refine lv_topi (fun y4 ey4 => ?_)
  obtain rfl : y4 = xs (4 * q + 2) := ey4.trans (by rw [nI_clamp (show 4 * q + 2 < 2 ^ 31 by omega)])
  refine g_VR (As := [.int (xs (4 * q + 1)), .int (xs (4 * q + 2))]) (rest := []) E hK hPX (c_X2_about l D cI cB ad f a ta n z c hX (xs (4 * q + 1)) (xs (4 * q + 2))) (cwV 2 E.2.2.2.2 gL_law_X2_about rfl rfl rfl (by decide +kernel) ⟨Nat.le_of_ble_eq_true rfl, Nat.le_of_ble_eq_true rfl⟩) (rx hK hPX) rfl hl.1 rfl (Nat.le_of_ble_eq_true rfl) dL_law_209 ⟨Nat.le_of_ble_eq_true rfl, Nat.le_of_ble_eq_true rfl⟩ ?_
  refine lv_pop E.1 E.2.1 dL_law_212 rfl ?_
  refine lv_aload_n E.1 E.2.1 dL_law_213 rfl (lv_at hl 3 rfl) ?_
  refine lv_aload_n E.1 E.2.1 dL_law_214 rfl (lv_at hl 1 rfl) ?_
  refine lv_iload_n E.1 E.2.1 dL_law_215 rfl (lv_at hl 0 rfl) ?_
  refine lv_iconst (v := 1) E.1 E.2.1 dL_law_216 (by decide) ?_
  refine lv_iadd E.1 E.2.1 dL_law_217 ?_
  refine lv_topi (fun y5 ey5 => ?_)
  obtain rfl : y5 = nI (4 * q + 1) := ey5.trans (nI_1 (4 * q))
  refine va_sld (i := nI (4 * q + 1)) E.1 E.2.1 hXs hbl hbA hS (vp_in_nI (by omega) (by omega)) dL_law_218 ?_
  refine lv_topi (fun y6 ey6 => ?_)
  obtain rfl : y6 = xs (4 * q + 1) := ey6.trans (by rw [nI_clamp (show 4 * q + 1 < 2 ^ 31 by omega)])
  refine lv_aload_n E.1 E.2.1 dL_law_219 rfl (lv_at hl 1 rfl) ?_
  refine lv_iload_n E.1 E.2.1 dL_law_220 rfl (lv_at hl 0 rfl) ?_
  refine lv_iconst (v := 2) E.1 E.2.1 dL_law_221 (by decide) ?_
  refine lv_iadd E.1 E.2.1 dL_law_222 ?_
  refine lv_topi (fun y7 ey7 => ?_)
  obtain rfl : y7 = nI (4 * q + 2) := ey7.trans (nI_add (4 * q) 2)
  refine va_sld (i := nI (4 * q + 2)) E.1 E.2.1 hXs hbl hbA hS (vp_in_nI (by omega) (by omega)) dL_law_223 ?_
  refine lv_topi (fun y8 ey8 => ?_)
  obtain rfl : y8 = xs (4 * q + 2) := ey8.trans (by rw [nI_clamp (show 4 * q + 2 < 2 ^ 31 by omega)])
  refine g_VR (As := [.int (xs (4 * q + 1)), .int (xs (4 * q + 2))]) (rest := []) E hK hPM (c_X3_about l D cI cB ad2 g t gl bb tb n z c hM (xs (4 * q + 1)) (xs (4 * q + 2))) (cwV 2 E.2.2.2.2 gL_law_X3_about rfl rfl rfl (by decide +kernel) ⟨Nat.le_of_ble_eq_true rfl, Nat.le_of_ble_eq_true rfl⟩) (rm0x hK hPM) rfl hl.1 rfl (Nat.le_of_ble_eq_true rfl) dL_law_224 ⟨Nat.le_of_ble_eq_true rfl, Nat.le_of_ble_eq_true rfl⟩ ?_
  refine lv_pop E.1 E.2.1 dL_law_227 rfl ?_
  refine lv_goto (tgt := 652) E.1 E.2.1 dL_law_228 (by decide) ?_
  exact hend _ _ _ _ _ _ _ _ _ _ hPX hPM hS (RR_mono ⟨n, z, c, hRC⟩) ls hl
set_option maxHeartbeats 4000000 in
set_option maxRecDepth 100000 in
/-- the law at as -/
theorem law_5 {p : Program} {e : Env} {s : State} {m : MethodId} {below : List Frame} {meth : Method} {cd : Code} (l : Launch) {b L : Nat} {xs : Nat → Int32} {D : va_G} {cI cB : ClassId} {ad ad2 : Nat → Nat} {aS aV : Nat} {Q : State → Prop} (E : CallFix p m cd cL_law 4 s #[Value.ref b] wsL_law RL) (hXs : va_X b L xs s s.heap) (hbl : b < s.heap.size) (hK : wK D cI cB s) (hIX : wI 25 ad) (hIM : wI 20 ad2) (hAX : ∀ k : Nat, k < 25 → s.heap.size ≤ ad k) (hAM : ∀ k : Nat, k < 20 → s.heap.size ≤ ad2 k) (hXM : ∀ j k : Nat, j < 25 → k < 20 → ad j ≠ ad2 k) (hZ : zS aS aV (fun q : Nat => s.heap.size ≤ q) s s.heap) {H : Heap} {locs : List Loc} {f : Nat → Int32} {a ta : Nat → Nat → Int32} {g t : Nat → Int32} {gl : Nat → Int64} {bb tb : Nat → Nat → Int32} (hPX : va_P D vwCl (wX cI ad f a ta) H) (hPM : va_P D vwCl (wM cI cB ad2 g t gl bb tb) H) (hS : va_S (fun q : Nat => s.heap.size ≤ q) s.heap H locs) {q n z c : Nat} (hq : 4 * q + 4 ≤ L) (hL : L ≤ 256) (hRC : RC q n z c f a g bb) (hend : ∀ (H : Heap) (locs : List Loc) (f : Nat → Int32) (a ta : Nat → Nat → Int32) (g t : Nat → Int32) (gl : Nat → Int64) (bb tb : Nat → Nat → Int32), va_P D vwCl (wX cI ad f a ta) H → va_P D vwCl (wM cI cB ad2 g t gl bb tb) H → va_S (fun q : Nat => s.heap.size ≤ q) s.heap H locs → RR (q + 1) f a g bb → ∀ ls : Array Slot, lv_has ls 4 [(3, .int (nI (4 * q))), (0, .ref b), (1, .ref (ad 0)), (2, .ref (ad2 0))] → W p l e room_1 s m #[Value.ref b] below meth cd H locs 45 348 Q (F0 m 652 ls [])) (ls : Array Slot) (hl : lv_has ls 4 [(3, .int (nI (4 * q))), (0, .ref b), (1, .ref (ad 0)), (2, .ref (ad2 0))]) : W p l e room_1 s m #[Value.ref b] below meth cd H locs 45 348 Q (F0 m 231 ls []) := by
  have hbA : ¬ (fun q : Nat => s.heap.size ≤ q) b := Nat.not_le.mpr hbl
  have hAXs : ∀ q, wA 25 ad q → s.heap.size ≤ q := fun q h => by obtain ⟨k, hk, e1⟩ := h; rw [e1]; exact hAX k hk
  have hAMs : ∀ q, wA 20 ad2 q → s.heap.size ≤ q := fun q h => by obtain ⟨k, hk, e1⟩ := h; rw [e1]; exact hAM k hk
  obtain ⟨hxi, hmi, hX, hM, hp, -, -, -⟩ := id hRC
  obtain ⟨n2, c1, c2, hX2, hc2, hc26⟩ := id hxi
  refine lv_aload_n E.1 E.2.1 dL_law_231 rfl (lv_at hl 2 rfl) ?_
  refine lv_aload_n E.1 E.2.1 dL_law_232 rfl (lv_at hl 1 rfl) ?_
  refine lv_iload_n E.1 E.2.1 dL_law_233 rfl (lv_at hl 0 rfl) ?_
  refine lv_iconst (v := 1) E.1 E.2.1 dL_law_234 (by decide) ?_
  refine lv_iadd E.1 E.2.1 dL_law_235 ?_
  refine lv_topi (fun y1 ey1 => ?_)
  obtain rfl : y1 = nI (4 * q + 1) := ey1.trans (nI_1 (4 * q))
  refine va_sld (i := nI (4 * q + 1)) E.1 E.2.1 hXs hbl hbA hS (vp_in_nI (by omega) (by omega)) dL_law_236 ?_
  refine lv_topi (fun y2 ey2 => ?_)
  obtain rfl : y2 = xs (4 * q + 1) := ey2.trans (by rw [nI_clamp (show 4 * q + 1 < 2 ^ 31 by omega)])
  refine lv_aload_n E.1 E.2.1 dL_law_237 rfl (lv_at hl 1 rfl) ?_
  refine lv_iload_n E.1 E.2.1 dL_law_238 rfl (lv_at hl 0 rfl) ?_
  refine lv_iconst (v := 2) E.1 E.2.1 dL_law_239 (by decide) ?_
  refine lv_iadd E.1 E.2.1 dL_law_240 ?_
  refine lv_topi (fun y3 ey3 => ?_)
  obtain rfl : y3 = nI (4 * q + 2) := ey3.trans (nI_add (4 * q) 2)
  refine va_sld (i := nI (4 * q + 2)) E.1 E.2.1 hXs hbl hbA hS (vp_in_nI (by omega) (by omega)) dL_law_241 ?_
  refine lv_topi (fun y4 ey4 => ?_)
  obtain rfl : y4 = xs (4 * q + 2) := ey4.trans (by rw [nI_clamp (show 4 * q + 2 < 2 ^ 31 by omega)])
  refine g_VR (As := [.int (xs (4 * q + 1)), .int (xs (4 * q + 2))]) (rest := []) E hK hPX (c_X2_as l D cI cB ad f a ta n z c hX (xs (4 * q + 1)) (xs (4 * q + 2))) (cwV 2 E.2.2.2.2 gL_law_X2_as rfl rfl rfl (by decide +kernel) ⟨Nat.le_of_ble_eq_true rfl, Nat.le_of_ble_eq_true rfl⟩) (rx hK hPX) rfl hl.1 rfl (Nat.le_of_ble_eq_true rfl) dL_law_242 ⟨Nat.le_of_ble_eq_true rfl, Nat.le_of_ble_eq_true rfl⟩ ?_
  refine lv_pop E.1 E.2.1 dL_law_245 rfl ?_
  refine lv_aload_n E.1 E.2.1 dL_law_246 rfl (lv_at hl 3 rfl) ?_
  refine lv_aload_n E.1 E.2.1 dL_law_247 rfl (lv_at hl 1 rfl) ?_
  refine lv_iload_n E.1 E.2.1 dL_law_248 rfl (lv_at hl 0 rfl) ?_
  refine lv_iconst (v := 1) E.1 E.2.1 dL_law_249 (by decide) ?_
  refine lv_iadd E.1 E.2.1 dL_law_250 ?_
  refine lv_topi (fun y5 ey5 => ?_)
  obtain rfl : y5 = nI (4 * q + 1) := ey5.trans (nI_1 (4 * q))
  refine va_sld (i := nI (4 * q + 1)) E.1 E.2.1 hXs hbl hbA hS (vp_in_nI (by omega) (by omega)) dL_law_251 ?_
  refine lv_topi (fun y6 ey6 => ?_)
  obtain rfl : y6 = xs (4 * q + 1) := ey6.trans (by rw [nI_clamp (show 4 * q + 1 < 2 ^ 31 by omega)])
  refine lv_aload_n E.1 E.2.1 dL_law_252 rfl (lv_at hl 1 rfl) ?_
  refine lv_iload_n E.1 E.2.1 dL_law_253 rfl (lv_at hl 0 rfl) ?_
  refine lv_iconst (v := 2) E.1 E.2.1 dL_law_254 (by decide) ?_
  refine lv_iadd E.1 E.2.1 dL_law_255 ?_
  refine lv_topi (fun y7 ey7 => ?_)
  obtain rfl : y7 = nI (4 * q + 2) := ey7.trans (nI_add (4 * q) 2)
  refine va_sld (i := nI (4 * q + 2)) E.1 E.2.1 hXs hbl hbA hS (vp_in_nI (by omega) (by omega)) dL_law_256 ?_
  refine lv_topi (fun y8 ey8 => ?_)
  obtain rfl : y8 = xs (4 * q + 2) := ey8.trans (by rw [nI_clamp (show 4 * q + 2 < 2 ^ 31 by omega)])
  refine g_VR (As := [.int (xs (4 * q + 1)), .int (xs (4 * q + 2))]) (rest := []) E hK hPM (c_X3_as l D cI cB ad2 g t gl bb tb n z c hM (xs (4 * q + 1)) (xs (4 * q + 2))) (cwV 2 E.2.2.2.2 gL_law_X3_as rfl rfl rfl (by decide +kernel) ⟨Nat.le_of_ble_eq_true rfl, Nat.le_of_ble_eq_true rfl⟩) (rm0x hK hPM) rfl hl.1 rfl (Nat.le_of_ble_eq_true rfl) dL_law_257 ⟨Nat.le_of_ble_eq_true rfl, Nat.le_of_ble_eq_true rfl⟩ ?_
  refine lv_pop E.1 E.2.1 dL_law_260 rfl ?_
  refine lv_goto (tgt := 652) E.1 E.2.1 dL_law_261 (by decide) ?_
  exact hend _ _ _ _ _ _ _ _ _ _ hPX hPM hS (RR_mono ⟨n, z, c, hRC⟩) ls hl
set_option maxHeartbeats 4000000 in
set_option maxRecDepth 100000 in
/-- the law at bring -/
theorem law_6 {p : Program} {e : Env} {s : State} {m : MethodId} {below : List Frame} {meth : Method} {cd : Code} (l : Launch) {b L : Nat} {xs : Nat → Int32} {D : va_G} {cI cB : ClassId} {ad ad2 : Nat → Nat} {aS aV : Nat} {Q : State → Prop} (E : CallFix p m cd cL_law 4 s #[Value.ref b] wsL_law RL) (hXs : va_X b L xs s s.heap) (hbl : b < s.heap.size) (hK : wK D cI cB s) (hIX : wI 25 ad) (hIM : wI 20 ad2) (hAX : ∀ k : Nat, k < 25 → s.heap.size ≤ ad k) (hAM : ∀ k : Nat, k < 20 → s.heap.size ≤ ad2 k) (hXM : ∀ j k : Nat, j < 25 → k < 20 → ad j ≠ ad2 k) (hZ : zS aS aV (fun q : Nat => s.heap.size ≤ q) s s.heap) {H : Heap} {locs : List Loc} {f : Nat → Int32} {a ta : Nat → Nat → Int32} {g t : Nat → Int32} {gl : Nat → Int64} {bb tb : Nat → Nat → Int32} (hPX : va_P D vwCl (wX cI ad f a ta) H) (hPM : va_P D vwCl (wM cI cB ad2 g t gl bb tb) H) (hS : va_S (fun q : Nat => s.heap.size ≤ q) s.heap H locs) {q n z c : Nat} (hq : 4 * q + 4 ≤ L) (hL : L ≤ 256) (hRC : RC q n z c f a g bb) (hend : ∀ (H : Heap) (locs : List Loc) (f : Nat → Int32) (a ta : Nat → Nat → Int32) (g t : Nat → Int32) (gl : Nat → Int64) (bb tb : Nat → Nat → Int32), va_P D vwCl (wX cI ad f a ta) H → va_P D vwCl (wM cI cB ad2 g t gl bb tb) H → va_S (fun q : Nat => s.heap.size ≤ q) s.heap H locs → RR (q + 1) f a g bb → ∀ ls : Array Slot, lv_has ls 4 [(3, .int (nI (4 * q))), (0, .ref b), (1, .ref (ad 0)), (2, .ref (ad2 0))] → W p l e room_1 s m #[Value.ref b] below meth cd H locs 45 348 Q (F0 m 652 ls [])) (ls : Array Slot) (hl : lv_has ls 4 [(3, .int (nI (4 * q))), (0, .ref b), (1, .ref (ad 0)), (2, .ref (ad2 0))]) : W p l e room_1 s m #[Value.ref b] below meth cd H locs 45 348 Q (F0 m 264 ls []) := by
  have hbA : ¬ (fun q : Nat => s.heap.size ≤ q) b := Nat.not_le.mpr hbl
  have hAXs : ∀ q, wA 25 ad q → s.heap.size ≤ q := fun q h => by obtain ⟨k, hk, e1⟩ := h; rw [e1]; exact hAX k hk
  have hAMs : ∀ q, wA 20 ad2 q → s.heap.size ≤ q := fun q h => by obtain ⟨k, hk, e1⟩ := h; rw [e1]; exact hAM k hk
  obtain ⟨hxi, hmi, hX, hM, hp, -, -, -⟩ := id hRC
  obtain ⟨n2, c1, c2, hX2, hc2, hc26⟩ := id hxi
  refine lv_aload_n E.1 E.2.1 dL_law_264 rfl (lv_at hl 2 rfl) ?_
  refine lv_aload_n E.1 E.2.1 dL_law_265 rfl (lv_at hl 1 rfl) ?_
  refine lv_iload_n E.1 E.2.1 dL_law_266 rfl (lv_at hl 0 rfl) ?_
  refine lv_iconst (v := 1) E.1 E.2.1 dL_law_267 (by decide) ?_
  refine lv_iadd E.1 E.2.1 dL_law_268 ?_
  refine lv_topi (fun y1 ey1 => ?_)
  obtain rfl : y1 = nI (4 * q + 1) := ey1.trans (nI_1 (4 * q))
  refine va_sld (i := nI (4 * q + 1)) E.1 E.2.1 hXs hbl hbA hS (vp_in_nI (by omega) (by omega)) dL_law_269 ?_
  refine lv_topi (fun y2 ey2 => ?_)
  obtain rfl : y2 = xs (4 * q + 1) := ey2.trans (by rw [nI_clamp (show 4 * q + 1 < 2 ^ 31 by omega)])
  refine lv_aload_n E.1 E.2.1 dL_law_270 rfl (lv_at hl 1 rfl) ?_
  refine lv_iload_n E.1 E.2.1 dL_law_271 rfl (lv_at hl 0 rfl) ?_
  refine lv_iconst (v := 2) E.1 E.2.1 dL_law_272 (by decide) ?_
  refine lv_iadd E.1 E.2.1 dL_law_273 ?_
  refine lv_topi (fun y3 ey3 => ?_)
  obtain rfl : y3 = nI (4 * q + 2) := ey3.trans (nI_add (4 * q) 2)
  refine va_sld (i := nI (4 * q + 2)) E.1 E.2.1 hXs hbl hbA hS (vp_in_nI (by omega) (by omega)) dL_law_274 ?_
  refine lv_topi (fun y4 ey4 => ?_)
  obtain rfl : y4 = xs (4 * q + 2) := ey4.trans (by rw [nI_clamp (show 4 * q + 2 < 2 ^ 31 by omega)])
  refine g_VWi (As := [.int (xs (4 * q + 1)), .int (xs (4 * q + 2))]) (rest := []) E hK hPX hS hAXs (c_X2_bring l D cI cB ad f a ta n z c hX hIX (xs (4 * q + 1)) (xs (4 * q + 2))) (cwV 2 E.2.2.2.2 gL_law_X2_bring rfl rfl rfl (by decide +kernel) ⟨Nat.le_of_ble_eq_true rfl, Nat.le_of_ble_eq_true rfl⟩) (rx hK hPX) rfl hl.1 rfl (Nat.le_of_ble_eq_true rfl) dL_law_275 ⟨Nat.le_of_ble_eq_true rfl, Nat.le_of_ble_eq_true rfl⟩ (fun r5 u5 H1 locs hp5 hP1 hq5 hS => ?_)
  obtain rfl : r5 = (FX2_bring f a ta n z c (xs (4 * q + 1)) (xs (4 * q + 2))).1 := congrArg Prod.fst hp5
  obtain rfl : u5 = (FX2_bring f a ta n z c (xs (4 * q + 1)) (xs (4 * q + 2))).2 := congrArg Prod.snd hp5
  have hPM : va_P D vwCl (wM cI cB ad2 g t gl bb tb) H1 := hPM.kept (fun k q hq9 => hq5 q.1 ((hPM k q hq9).lt) (fun h => by obtain ⟨k1, hk1, e1⟩ := h; obtain ⟨k2, e2⟩ := w_key (wM_fst cI cB ad2 g t gl bb tb) hq9; exact hXM k1 k hk1 k2 (e1.symm.trans e2)))
  have hPX : va_P D vwCl (wX cI ad (FX2_bring f a ta n z c (xs (4 * q + 1)) (xs (4 * q + 2))).2.1 (FX2_bring f a ta n z c (xs (4 * q + 1)) (xs (4 * q + 2))).2.2.1 (FX2_bring f a ta n z c (xs (4 * q + 1)) (xs (4 * q + 2))).2.2.2) H1 := hP1
  clear hP1
  generalize H1 = H at hPX hPM hS ⊢
  refine lv_pop E.1 E.2.1 dL_law_278 rfl ?_
  refine lv_aload_n E.1 E.2.1 dL_law_279 rfl (lv_at hl 3 rfl) ?_
  refine lv_aload_n E.1 E.2.1 dL_law_280 rfl (lv_at hl 1 rfl) ?_
  refine lv_iload_n E.1 E.2.1 dL_law_281 rfl (lv_at hl 0 rfl) ?_
  refine lv_iconst (v := 1) E.1 E.2.1 dL_law_282 (by decide) ?_
  refine lv_iadd E.1 E.2.1 dL_law_283 ?_
  refine lv_topi (fun y6 ey6 => ?_)
  obtain rfl : y6 = nI (4 * q + 1) := ey6.trans (nI_1 (4 * q))
  refine va_sld (i := nI (4 * q + 1)) E.1 E.2.1 hXs hbl hbA hS (vp_in_nI (by omega) (by omega)) dL_law_284 ?_
  refine lv_topi (fun y7 ey7 => ?_)
  obtain rfl : y7 = xs (4 * q + 1) := ey7.trans (by rw [nI_clamp (show 4 * q + 1 < 2 ^ 31 by omega)])
  refine lv_aload_n E.1 E.2.1 dL_law_285 rfl (lv_at hl 1 rfl) ?_
  refine lv_iload_n E.1 E.2.1 dL_law_286 rfl (lv_at hl 0 rfl) ?_
  refine lv_iconst (v := 2) E.1 E.2.1 dL_law_287 (by decide) ?_
  refine lv_iadd E.1 E.2.1 dL_law_288 ?_
  refine lv_topi (fun y8 ey8 => ?_)
  obtain rfl : y8 = nI (4 * q + 2) := ey8.trans (nI_add (4 * q) 2)
  refine va_sld (i := nI (4 * q + 2)) E.1 E.2.1 hXs hbl hbA hS (vp_in_nI (by omega) (by omega)) dL_law_289 ?_
  refine lv_topi (fun y9 ey9 => ?_)
  obtain rfl : y9 = xs (4 * q + 2) := ey9.trans (by rw [nI_clamp (show 4 * q + 2 < 2 ^ 31 by omega)])
  refine g_VWi (As := [.int (xs (4 * q + 1)), .int (xs (4 * q + 2))]) (rest := []) E hK hPM hS hAMs (c_X3_bring l D cI cB ad2 g t gl bb tb n z c hM hIM (xs (4 * q + 1)) (xs (4 * q + 2))) (cwV 2 E.2.2.2.2 gL_law_X3_bring rfl rfl rfl (by decide +kernel) ⟨Nat.le_of_ble_eq_true rfl, Nat.le_of_ble_eq_true rfl⟩) (rm0x hK hPM) rfl hl.1 rfl (Nat.le_of_ble_eq_true rfl) dL_law_290 ⟨Nat.le_of_ble_eq_true rfl, Nat.le_of_ble_eq_true rfl⟩ (fun r10 u10 H1 locs hp10 hP1 hq10 hS => ?_)
  obtain rfl : r10 = (FX3_bring g t gl bb tb n z c (xs (4 * q + 1)) (xs (4 * q + 2))).1 := congrArg Prod.fst hp10
  obtain rfl : u10 = (FX3_bring g t gl bb tb n z c (xs (4 * q + 1)) (xs (4 * q + 2))).2 := congrArg Prod.snd hp10
  have hPX : va_P D vwCl (wX cI ad (FX2_bring f a ta n z c (xs (4 * q + 1)) (xs (4 * q + 2))).2.1 (FX2_bring f a ta n z c (xs (4 * q + 1)) (xs (4 * q + 2))).2.2.1 (FX2_bring f a ta n z c (xs (4 * q + 1)) (xs (4 * q + 2))).2.2.2) H1 := hPX.kept (fun k q hq9 => hq10 q.1 ((hPX k q hq9).lt) (fun h => by obtain ⟨k1, hk1, e1⟩ := h; obtain ⟨k2, e2⟩ := w_key (wX_fst ..) hq9; exact hXM k k1 k2 hk1 (e2.symm.trans e1)))
  have hPM : va_P D vwCl (wM cI cB ad2 (FX3_bring g t gl bb tb n z c (xs (4 * q + 1)) (xs (4 * q + 2))).2.1 (FX3_bring g t gl bb tb n z c (xs (4 * q + 1)) (xs (4 * q + 2))).2.2.1 (FX3_bring g t gl bb tb n z c (xs (4 * q + 1)) (xs (4 * q + 2))).2.2.2.1 (FX3_bring g t gl bb tb n z c (xs (4 * q + 1)) (xs (4 * q + 2))).2.2.2.2.1 (FX3_bring g t gl bb tb n z c (xs (4 * q + 1)) (xs (4 * q + 2))).2.2.2.2.2) H1 := hP1
  clear hP1
  generalize H1 = H at hPX hPM hS ⊢
  refine lv_pop E.1 E.2.1 dL_law_293 rfl ?_
  refine lv_goto (tgt := 652) E.1 E.2.1 dL_law_294 (by decide) ?_
  exact hend _ _ _ _ _ _ _ _ _ _ hPX hPM hS ((rr_bring (ta := ta) (t := t) (gl := gl) (tb := tb) hRC).2) ls hl
set_option maxHeartbeats 4000000 in
set_option maxRecDepth 100000 in
/-- the law at tread -/
theorem law_7 {p : Program} {e : Env} {s : State} {m : MethodId} {below : List Frame} {meth : Method} {cd : Code} (l : Launch) {b L : Nat} {xs : Nat → Int32} {D : va_G} {cI cB : ClassId} {ad ad2 : Nat → Nat} {aS aV : Nat} {Q : State → Prop} (E : CallFix p m cd cL_law 4 s #[Value.ref b] wsL_law RL) (hXs : va_X b L xs s s.heap) (hbl : b < s.heap.size) (hK : wK D cI cB s) (hIX : wI 25 ad) (hIM : wI 20 ad2) (hAX : ∀ k : Nat, k < 25 → s.heap.size ≤ ad k) (hAM : ∀ k : Nat, k < 20 → s.heap.size ≤ ad2 k) (hXM : ∀ j k : Nat, j < 25 → k < 20 → ad j ≠ ad2 k) (hZ : zS aS aV (fun q : Nat => s.heap.size ≤ q) s s.heap) {H : Heap} {locs : List Loc} {f : Nat → Int32} {a ta : Nat → Nat → Int32} {g t : Nat → Int32} {gl : Nat → Int64} {bb tb : Nat → Nat → Int32} (hPX : va_P D vwCl (wX cI ad f a ta) H) (hPM : va_P D vwCl (wM cI cB ad2 g t gl bb tb) H) (hS : va_S (fun q : Nat => s.heap.size ≤ q) s.heap H locs) {q n z c : Nat} (hq : 4 * q + 4 ≤ L) (hL : L ≤ 256) (hRC : RC q n z c f a g bb) (hend : ∀ (H : Heap) (locs : List Loc) (f : Nat → Int32) (a ta : Nat → Nat → Int32) (g t : Nat → Int32) (gl : Nat → Int64) (bb tb : Nat → Nat → Int32), va_P D vwCl (wX cI ad f a ta) H → va_P D vwCl (wM cI cB ad2 g t gl bb tb) H → va_S (fun q : Nat => s.heap.size ≤ q) s.heap H locs → RR (q + 1) f a g bb → ∀ ls : Array Slot, lv_has ls 4 [(3, .int (nI (4 * q))), (0, .ref b), (1, .ref (ad 0)), (2, .ref (ad2 0))] → W p l e room_1 s m #[Value.ref b] below meth cd H locs 45 348 Q (F0 m 652 ls [])) (ls : Array Slot) (hl : lv_has ls 4 [(3, .int (nI (4 * q))), (0, .ref b), (1, .ref (ad 0)), (2, .ref (ad2 0))]) : W p l e room_1 s m #[Value.ref b] below meth cd H locs 45 348 Q (F0 m 297 ls []) := by
  have hbA : ¬ (fun q : Nat => s.heap.size ≤ q) b := Nat.not_le.mpr hbl
  have hAXs : ∀ q, wA 25 ad q → s.heap.size ≤ q := fun q h => by obtain ⟨k, hk, e1⟩ := h; rw [e1]; exact hAX k hk
  have hAMs : ∀ q, wA 20 ad2 q → s.heap.size ≤ q := fun q h => by obtain ⟨k, hk, e1⟩ := h; rw [e1]; exact hAM k hk
  obtain ⟨hxi, hmi, hX, hM, hp, -, -, -⟩ := id hRC
  obtain ⟨n2, c1, c2, hX2, hc2, hc26⟩ := id hxi
  refine lv_aload_n E.1 E.2.1 dL_law_297 rfl (lv_at hl 2 rfl) ?_
  refine lv_aload_n E.1 E.2.1 dL_law_298 rfl (lv_at hl 1 rfl) ?_
  refine lv_iload_n E.1 E.2.1 dL_law_299 rfl (lv_at hl 0 rfl) ?_
  refine lv_iconst (v := 1) E.1 E.2.1 dL_law_300 (by decide) ?_
  refine lv_iadd E.1 E.2.1 dL_law_301 ?_
  refine lv_topi (fun y1 ey1 => ?_)
  obtain rfl : y1 = nI (4 * q + 1) := ey1.trans (nI_1 (4 * q))
  refine va_sld (i := nI (4 * q + 1)) E.1 E.2.1 hXs hbl hbA hS (vp_in_nI (by omega) (by omega)) dL_law_302 ?_
  refine lv_topi (fun y2 ey2 => ?_)
  obtain rfl : y2 = xs (4 * q + 1) := ey2.trans (by rw [nI_clamp (show 4 * q + 1 < 2 ^ 31 by omega)])
  refine lv_aload_n E.1 E.2.1 dL_law_303 rfl (lv_at hl 1 rfl) ?_
  refine lv_iload_n E.1 E.2.1 dL_law_304 rfl (lv_at hl 0 rfl) ?_
  refine lv_iconst (v := 2) E.1 E.2.1 dL_law_305 (by decide) ?_
  refine lv_iadd E.1 E.2.1 dL_law_306 ?_
  refine lv_topi (fun y3 ey3 => ?_)
  obtain rfl : y3 = nI (4 * q + 2) := ey3.trans (nI_add (4 * q) 2)
  refine va_sld (i := nI (4 * q + 2)) E.1 E.2.1 hXs hbl hbA hS (vp_in_nI (by omega) (by omega)) dL_law_307 ?_
  refine lv_topi (fun y4 ey4 => ?_)
  obtain rfl : y4 = xs (4 * q + 2) := ey4.trans (by rw [nI_clamp (show 4 * q + 2 < 2 ^ 31 by omega)])
  refine g_VWi (As := [.int (xs (4 * q + 1)), .int (xs (4 * q + 2))]) (rest := []) E hK hPX hS hAXs (c_X2_tread l D cI cB ad f a ta n z c hX hIX (xs (4 * q + 1)) (xs (4 * q + 2))) (cwV 2 E.2.2.2.2 gL_law_X2_tread rfl rfl rfl (by decide +kernel) ⟨Nat.le_of_ble_eq_true rfl, Nat.le_of_ble_eq_true rfl⟩) (rx hK hPX) rfl hl.1 rfl (Nat.le_of_ble_eq_true rfl) dL_law_308 ⟨Nat.le_of_ble_eq_true rfl, Nat.le_of_ble_eq_true rfl⟩ (fun r5 u5 H1 locs hp5 hP1 hq5 hS => ?_)
  obtain rfl : r5 = (FX2_tread f a ta n z c (xs (4 * q + 1)) (xs (4 * q + 2))).1 := congrArg Prod.fst hp5
  obtain rfl : u5 = (FX2_tread f a ta n z c (xs (4 * q + 1)) (xs (4 * q + 2))).2 := congrArg Prod.snd hp5
  have hPM : va_P D vwCl (wM cI cB ad2 g t gl bb tb) H1 := hPM.kept (fun k q hq9 => hq5 q.1 ((hPM k q hq9).lt) (fun h => by obtain ⟨k1, hk1, e1⟩ := h; obtain ⟨k2, e2⟩ := w_key (wM_fst cI cB ad2 g t gl bb tb) hq9; exact hXM k1 k hk1 k2 (e1.symm.trans e2)))
  have hPX : va_P D vwCl (wX cI ad (FX2_tread f a ta n z c (xs (4 * q + 1)) (xs (4 * q + 2))).2.1 (FX2_tread f a ta n z c (xs (4 * q + 1)) (xs (4 * q + 2))).2.2.1 (FX2_tread f a ta n z c (xs (4 * q + 1)) (xs (4 * q + 2))).2.2.2) H1 := hP1
  clear hP1
  generalize H1 = H at hPX hPM hS ⊢
  refine lv_pop E.1 E.2.1 dL_law_311 rfl ?_
  refine lv_aload_n E.1 E.2.1 dL_law_312 rfl (lv_at hl 3 rfl) ?_
  refine lv_aload_n E.1 E.2.1 dL_law_313 rfl (lv_at hl 1 rfl) ?_
  refine lv_iload_n E.1 E.2.1 dL_law_314 rfl (lv_at hl 0 rfl) ?_
  refine lv_iconst (v := 1) E.1 E.2.1 dL_law_315 (by decide) ?_
  refine lv_iadd E.1 E.2.1 dL_law_316 ?_
  refine lv_topi (fun y6 ey6 => ?_)
  obtain rfl : y6 = nI (4 * q + 1) := ey6.trans (nI_1 (4 * q))
  refine va_sld (i := nI (4 * q + 1)) E.1 E.2.1 hXs hbl hbA hS (vp_in_nI (by omega) (by omega)) dL_law_317 ?_
  refine lv_topi (fun y7 ey7 => ?_)
  obtain rfl : y7 = xs (4 * q + 1) := ey7.trans (by rw [nI_clamp (show 4 * q + 1 < 2 ^ 31 by omega)])
  refine lv_aload_n E.1 E.2.1 dL_law_318 rfl (lv_at hl 1 rfl) ?_
  refine lv_iload_n E.1 E.2.1 dL_law_319 rfl (lv_at hl 0 rfl) ?_
  refine lv_iconst (v := 2) E.1 E.2.1 dL_law_320 (by decide) ?_
  refine lv_iadd E.1 E.2.1 dL_law_321 ?_
  refine lv_topi (fun y8 ey8 => ?_)
  obtain rfl : y8 = nI (4 * q + 2) := ey8.trans (nI_add (4 * q) 2)
  refine va_sld (i := nI (4 * q + 2)) E.1 E.2.1 hXs hbl hbA hS (vp_in_nI (by omega) (by omega)) dL_law_322 ?_
  refine lv_topi (fun y9 ey9 => ?_)
  obtain rfl : y9 = xs (4 * q + 2) := ey9.trans (by rw [nI_clamp (show 4 * q + 2 < 2 ^ 31 by omega)])
  refine g_VWi (As := [.int (xs (4 * q + 1)), .int (xs (4 * q + 2))]) (rest := []) E hK hPM hS hAMs (c_X3_tread l D cI cB ad2 g t gl bb tb n z c hM hIM (xs (4 * q + 1)) (xs (4 * q + 2))) (cwV 2 E.2.2.2.2 gL_law_X3_tread rfl rfl rfl (by decide +kernel) ⟨Nat.le_of_ble_eq_true rfl, Nat.le_of_ble_eq_true rfl⟩) (rm0x hK hPM) rfl hl.1 rfl (Nat.le_of_ble_eq_true rfl) dL_law_323 ⟨Nat.le_of_ble_eq_true rfl, Nat.le_of_ble_eq_true rfl⟩ (fun r10 u10 H1 locs hp10 hP1 hq10 hS => ?_)
  obtain rfl : r10 = (FX3_tread g t gl bb tb n z c (xs (4 * q + 1)) (xs (4 * q + 2))).1 := congrArg Prod.fst hp10
  obtain rfl : u10 = (FX3_tread g t gl bb tb n z c (xs (4 * q + 1)) (xs (4 * q + 2))).2 := congrArg Prod.snd hp10
  have hPX : va_P D vwCl (wX cI ad (FX2_tread f a ta n z c (xs (4 * q + 1)) (xs (4 * q + 2))).2.1 (FX2_tread f a ta n z c (xs (4 * q + 1)) (xs (4 * q + 2))).2.2.1 (FX2_tread f a ta n z c (xs (4 * q + 1)) (xs (4 * q + 2))).2.2.2) H1 := hPX.kept (fun k q hq9 => hq10 q.1 ((hPX k q hq9).lt) (fun h => by obtain ⟨k1, hk1, e1⟩ := h; obtain ⟨k2, e2⟩ := w_key (wX_fst ..) hq9; exact hXM k k1 k2 hk1 (e2.symm.trans e1)))
  have hPM : va_P D vwCl (wM cI cB ad2 (FX3_tread g t gl bb tb n z c (xs (4 * q + 1)) (xs (4 * q + 2))).2.1 (FX3_tread g t gl bb tb n z c (xs (4 * q + 1)) (xs (4 * q + 2))).2.2.1 (FX3_tread g t gl bb tb n z c (xs (4 * q + 1)) (xs (4 * q + 2))).2.2.2.1 (FX3_tread g t gl bb tb n z c (xs (4 * q + 1)) (xs (4 * q + 2))).2.2.2.2.1 (FX3_tread g t gl bb tb n z c (xs (4 * q + 1)) (xs (4 * q + 2))).2.2.2.2.2) H1 := hP1
  clear hP1
  generalize H1 = H at hPX hPM hS ⊢
  refine lv_pop E.1 E.2.1 dL_law_326 rfl ?_
  refine lv_goto (tgt := 652) E.1 E.2.1 dL_law_327 (by decide) ?_
  exact hend _ _ _ _ _ _ _ _ _ _ hPX hPM hS ((rr_tread (ta := ta) (t := t) (gl := gl) (tb := tb) hRC).2) ls hl
set_option maxHeartbeats 4000000 in
set_option maxRecDepth 100000 in
/-- the law at sun -/
theorem law_8 {p : Program} {e : Env} {s : State} {m : MethodId} {below : List Frame} {meth : Method} {cd : Code} (l : Launch) {b L : Nat} {xs : Nat → Int32} {D : va_G} {cI cB : ClassId} {ad ad2 : Nat → Nat} {aS aV : Nat} {Q : State → Prop} (E : CallFix p m cd cL_law 4 s #[Value.ref b] wsL_law RL) (hXs : va_X b L xs s s.heap) (hbl : b < s.heap.size) (hK : wK D cI cB s) (hIX : wI 25 ad) (hIM : wI 20 ad2) (hAX : ∀ k : Nat, k < 25 → s.heap.size ≤ ad k) (hAM : ∀ k : Nat, k < 20 → s.heap.size ≤ ad2 k) (hXM : ∀ j k : Nat, j < 25 → k < 20 → ad j ≠ ad2 k) (hZ : zS aS aV (fun q : Nat => s.heap.size ≤ q) s s.heap) {H : Heap} {locs : List Loc} {f : Nat → Int32} {a ta : Nat → Nat → Int32} {g t : Nat → Int32} {gl : Nat → Int64} {bb tb : Nat → Nat → Int32} (hPX : va_P D vwCl (wX cI ad f a ta) H) (hPM : va_P D vwCl (wM cI cB ad2 g t gl bb tb) H) (hS : va_S (fun q : Nat => s.heap.size ≤ q) s.heap H locs) {q n z c : Nat} (hq : 4 * q + 4 ≤ L) (hL : L ≤ 256) (hRC : RC q n z c f a g bb) (hend : ∀ (H : Heap) (locs : List Loc) (f : Nat → Int32) (a ta : Nat → Nat → Int32) (g t : Nat → Int32) (gl : Nat → Int64) (bb tb : Nat → Nat → Int32), va_P D vwCl (wX cI ad f a ta) H → va_P D vwCl (wM cI cB ad2 g t gl bb tb) H → va_S (fun q : Nat => s.heap.size ≤ q) s.heap H locs → RR (q + 1) f a g bb → ∀ ls : Array Slot, lv_has ls 4 [(3, .int (nI (4 * q))), (0, .ref b), (1, .ref (ad 0)), (2, .ref (ad2 0))] → W p l e room_1 s m #[Value.ref b] below meth cd H locs 45 348 Q (F0 m 652 ls [])) (ls : Array Slot) (hl : lv_has ls 4 [(3, .int (nI (4 * q))), (0, .ref b), (1, .ref (ad 0)), (2, .ref (ad2 0))]) : W p l e room_1 s m #[Value.ref b] below meth cd H locs 45 348 Q (F0 m 330 ls []) := by
  have hbA : ¬ (fun q : Nat => s.heap.size ≤ q) b := Nat.not_le.mpr hbl
  have hAXs : ∀ q, wA 25 ad q → s.heap.size ≤ q := fun q h => by obtain ⟨k, hk, e1⟩ := h; rw [e1]; exact hAX k hk
  have hAMs : ∀ q, wA 20 ad2 q → s.heap.size ≤ q := fun q h => by obtain ⟨k, hk, e1⟩ := h; rw [e1]; exact hAM k hk
  obtain ⟨hxi, hmi, hX, hM, hp, -, -, -⟩ := id hRC
  obtain ⟨n2, c1, c2, hX2, hc2, hc26⟩ := id hxi
  refine lv_aload_n E.1 E.2.1 dL_law_330 rfl (lv_at hl 2 rfl) ?_
  refine lv_aload_n E.1 E.2.1 dL_law_331 rfl (lv_at hl 1 rfl) ?_
  refine lv_iload_n E.1 E.2.1 dL_law_332 rfl (lv_at hl 0 rfl) ?_
  refine lv_iconst (v := 1) E.1 E.2.1 dL_law_333 (by decide) ?_
  refine lv_iadd E.1 E.2.1 dL_law_334 ?_
  refine lv_topi (fun y1 ey1 => ?_)
  obtain rfl : y1 = nI (4 * q + 1) := ey1.trans (nI_1 (4 * q))
  refine va_sld (i := nI (4 * q + 1)) E.1 E.2.1 hXs hbl hbA hS (vp_in_nI (by omega) (by omega)) dL_law_335 ?_
  refine lv_topi (fun y2 ey2 => ?_)
  obtain rfl : y2 = xs (4 * q + 1) := ey2.trans (by rw [nI_clamp (show 4 * q + 1 < 2 ^ 31 by omega)])
  refine g_VWi (As := [.int (xs (4 * q + 1))]) (rest := []) E hK hPX hS hAXs (c_X2_sun l D cI cB ad f a ta n z c hX hIX (xs (4 * q + 1))) (cwV 1 E.2.2.2.2 gL_law_X2_sun rfl rfl rfl (by decide +kernel) ⟨Nat.le_of_ble_eq_true rfl, Nat.le_of_ble_eq_true rfl⟩) (rx hK hPX) rfl hl.1 rfl (Nat.le_of_ble_eq_true rfl) dL_law_336 ⟨Nat.le_of_ble_eq_true rfl, Nat.le_of_ble_eq_true rfl⟩ (fun r3 u3 H1 locs hp3 hP1 hq3 hS => ?_)
  obtain rfl : r3 = (FX2_sun f a ta n z c (xs (4 * q + 1))).1 := congrArg Prod.fst hp3
  obtain rfl : u3 = (FX2_sun f a ta n z c (xs (4 * q + 1))).2 := congrArg Prod.snd hp3
  have hPM : va_P D vwCl (wM cI cB ad2 g t gl bb tb) H1 := hPM.kept (fun k q hq9 => hq3 q.1 ((hPM k q hq9).lt) (fun h => by obtain ⟨k1, hk1, e1⟩ := h; obtain ⟨k2, e2⟩ := w_key (wM_fst cI cB ad2 g t gl bb tb) hq9; exact hXM k1 k hk1 k2 (e1.symm.trans e2)))
  have hPX : va_P D vwCl (wX cI ad (FX2_sun f a ta n z c (xs (4 * q + 1))).2.1 (FX2_sun f a ta n z c (xs (4 * q + 1))).2.2.1 (FX2_sun f a ta n z c (xs (4 * q + 1))).2.2.2) H1 := hP1
  clear hP1
  generalize H1 = H at hPX hPM hS ⊢
  refine lv_pop E.1 E.2.1 dL_law_339 rfl ?_
  refine lv_aload_n E.1 E.2.1 dL_law_340 rfl (lv_at hl 3 rfl) ?_
  refine lv_aload_n E.1 E.2.1 dL_law_341 rfl (lv_at hl 1 rfl) ?_
  refine lv_iload_n E.1 E.2.1 dL_law_342 rfl (lv_at hl 0 rfl) ?_
  refine lv_iconst (v := 1) E.1 E.2.1 dL_law_343 (by decide) ?_
  refine lv_iadd E.1 E.2.1 dL_law_344 ?_
  refine lv_topi (fun y4 ey4 => ?_)
  obtain rfl : y4 = nI (4 * q + 1) := ey4.trans (nI_1 (4 * q))
  refine va_sld (i := nI (4 * q + 1)) E.1 E.2.1 hXs hbl hbA hS (vp_in_nI (by omega) (by omega)) dL_law_345 ?_
  refine lv_topi (fun y5 ey5 => ?_)
  obtain rfl : y5 = xs (4 * q + 1) := ey5.trans (by rw [nI_clamp (show 4 * q + 1 < 2 ^ 31 by omega)])
  refine g_VWi (As := [.int (xs (4 * q + 1))]) (rest := []) E hK hPM hS hAMs (c_X3_sun l D cI cB ad2 g t gl bb tb n z c hM hIM (xs (4 * q + 1))) (cwV 1 E.2.2.2.2 gL_law_X3_sun rfl rfl rfl (by decide +kernel) ⟨Nat.le_of_ble_eq_true rfl, Nat.le_of_ble_eq_true rfl⟩) (rm0x hK hPM) rfl hl.1 rfl (Nat.le_of_ble_eq_true rfl) dL_law_346 ⟨Nat.le_of_ble_eq_true rfl, Nat.le_of_ble_eq_true rfl⟩ (fun r6 u6 H1 locs hp6 hP1 hq6 hS => ?_)
  obtain rfl : r6 = (FX3_sun g t gl bb tb n z c (xs (4 * q + 1))).1 := congrArg Prod.fst hp6
  obtain rfl : u6 = (FX3_sun g t gl bb tb n z c (xs (4 * q + 1))).2 := congrArg Prod.snd hp6
  have hPX : va_P D vwCl (wX cI ad (FX2_sun f a ta n z c (xs (4 * q + 1))).2.1 (FX2_sun f a ta n z c (xs (4 * q + 1))).2.2.1 (FX2_sun f a ta n z c (xs (4 * q + 1))).2.2.2) H1 := hPX.kept (fun k q hq9 => hq6 q.1 ((hPX k q hq9).lt) (fun h => by obtain ⟨k1, hk1, e1⟩ := h; obtain ⟨k2, e2⟩ := w_key (wX_fst ..) hq9; exact hXM k k1 k2 hk1 (e2.symm.trans e1)))
  have hPM : va_P D vwCl (wM cI cB ad2 (FX3_sun g t gl bb tb n z c (xs (4 * q + 1))).2.1 (FX3_sun g t gl bb tb n z c (xs (4 * q + 1))).2.2.1 (FX3_sun g t gl bb tb n z c (xs (4 * q + 1))).2.2.2.1 (FX3_sun g t gl bb tb n z c (xs (4 * q + 1))).2.2.2.2.1 (FX3_sun g t gl bb tb n z c (xs (4 * q + 1))).2.2.2.2.2) H1 := hP1
  clear hP1
  generalize H1 = H at hPX hPM hS ⊢
  refine lv_pop E.1 E.2.1 dL_law_349 rfl ?_
  refine lv_goto (tgt := 652) E.1 E.2.1 dL_law_350 (by decide) ?_
  exact hend _ _ _ _ _ _ _ _ _ _ hPX hPM hS ((rr_sun (ta := ta) (t := t) (gl := gl) (tb := tb) hRC).2) ls hl
set_option maxHeartbeats 4000000 in
set_option maxRecDepth 100000 in
/-- the law at day -/
theorem law_9 {p : Program} {e : Env} {s : State} {m : MethodId} {below : List Frame} {meth : Method} {cd : Code} (l : Launch) {b L : Nat} {xs : Nat → Int32} {D : va_G} {cI cB : ClassId} {ad ad2 : Nat → Nat} {aS aV : Nat} {Q : State → Prop} (E : CallFix p m cd cL_law 4 s #[Value.ref b] wsL_law RL) (hXs : va_X b L xs s s.heap) (hbl : b < s.heap.size) (hK : wK D cI cB s) (hIX : wI 25 ad) (hIM : wI 20 ad2) (hAX : ∀ k : Nat, k < 25 → s.heap.size ≤ ad k) (hAM : ∀ k : Nat, k < 20 → s.heap.size ≤ ad2 k) (hXM : ∀ j k : Nat, j < 25 → k < 20 → ad j ≠ ad2 k) (hZ : zS aS aV (fun q : Nat => s.heap.size ≤ q) s s.heap) {H : Heap} {locs : List Loc} {f : Nat → Int32} {a ta : Nat → Nat → Int32} {g t : Nat → Int32} {gl : Nat → Int64} {bb tb : Nat → Nat → Int32} (hPX : va_P D vwCl (wX cI ad f a ta) H) (hPM : va_P D vwCl (wM cI cB ad2 g t gl bb tb) H) (hS : va_S (fun q : Nat => s.heap.size ≤ q) s.heap H locs) {q n z c : Nat} (hq : 4 * q + 4 ≤ L) (hL : L ≤ 256) (hRC : RC q n z c f a g bb) (hend : ∀ (H : Heap) (locs : List Loc) (f : Nat → Int32) (a ta : Nat → Nat → Int32) (g t : Nat → Int32) (gl : Nat → Int64) (bb tb : Nat → Nat → Int32), va_P D vwCl (wX cI ad f a ta) H → va_P D vwCl (wM cI cB ad2 g t gl bb tb) H → va_S (fun q : Nat => s.heap.size ≤ q) s.heap H locs → RR (q + 1) f a g bb → ∀ ls : Array Slot, lv_has ls 4 [(3, .int (nI (4 * q))), (0, .ref b), (1, .ref (ad 0)), (2, .ref (ad2 0))] → W p l e room_1 s m #[Value.ref b] below meth cd H locs 45 348 Q (F0 m 652 ls [])) (ls : Array Slot) (hl : lv_has ls 4 [(3, .int (nI (4 * q))), (0, .ref b), (1, .ref (ad 0)), (2, .ref (ad2 0))]) : W p l e room_1 s m #[Value.ref b] below meth cd H locs 45 348 Q (F0 m 353 ls []) := by
  have hbA : ¬ (fun q : Nat => s.heap.size ≤ q) b := Nat.not_le.mpr hbl
  have hAXs : ∀ q, wA 25 ad q → s.heap.size ≤ q := fun q h => by obtain ⟨k, hk, e1⟩ := h; rw [e1]; exact hAX k hk
  have hAMs : ∀ q, wA 20 ad2 q → s.heap.size ≤ q := fun q h => by obtain ⟨k, hk, e1⟩ := h; rw [e1]; exact hAM k hk
  obtain ⟨hxi, hmi, hX, hM, hp, -, -, -⟩ := id hRC
  obtain ⟨n2, c1, c2, hX2, hc2, hc26⟩ := id hxi
  refine lv_aload_n E.1 E.2.1 dL_law_353 rfl (lv_at hl 2 rfl) ?_
  refine g_VWi (As := []) (rest := []) E hK hPX hS hAXs (c_X2_day l D cI cB ad f a ta n z c hX hIX) (cwV 0 E.2.2.2.2 gL_law_X2_day rfl rfl rfl (by decide +kernel) ⟨Nat.le_of_ble_eq_true rfl, Nat.le_of_ble_eq_true rfl⟩) (rx hK hPX) rfl hl.1 rfl (Nat.le_of_ble_eq_true rfl) dL_law_354 ⟨Nat.le_of_ble_eq_true rfl, Nat.le_of_ble_eq_true rfl⟩ (fun r1 u1 H1 locs hp1 hP1 hq1 hS => ?_)
  obtain rfl : r1 = (FX2_day f a ta n z c).1 := congrArg Prod.fst hp1
  obtain rfl : u1 = (FX2_day f a ta n z c).2 := congrArg Prod.snd hp1
  have hPM : va_P D vwCl (wM cI cB ad2 g t gl bb tb) H1 := hPM.kept (fun k q hq9 => hq1 q.1 ((hPM k q hq9).lt) (fun h => by obtain ⟨k1, hk1, e1⟩ := h; obtain ⟨k2, e2⟩ := w_key (wM_fst cI cB ad2 g t gl bb tb) hq9; exact hXM k1 k hk1 k2 (e1.symm.trans e2)))
  have hPX : va_P D vwCl (wX cI ad (FX2_day f a ta n z c).2.1 (FX2_day f a ta n z c).2.2.1 (FX2_day f a ta n z c).2.2.2) H1 := hP1
  clear hP1
  generalize H1 = H at hPX hPM hS ⊢
  refine lv_pop E.1 E.2.1 dL_law_357 rfl ?_
  refine lv_aload_n E.1 E.2.1 dL_law_358 rfl (lv_at hl 3 rfl) ?_
  refine g_VWi (As := []) (rest := []) E hK hPM hS hAMs (c_X3_day l D cI cB ad2 g t gl bb tb n z c hM hIM) (cwV 0 E.2.2.2.2 gL_law_X3_day rfl rfl rfl (by decide +kernel) ⟨Nat.le_of_ble_eq_true rfl, Nat.le_of_ble_eq_true rfl⟩) (rm0x hK hPM) rfl hl.1 rfl (Nat.le_of_ble_eq_true rfl) dL_law_359 ⟨Nat.le_of_ble_eq_true rfl, Nat.le_of_ble_eq_true rfl⟩ (fun r2 u2 H1 locs hp2 hP1 hq2 hS => ?_)
  obtain rfl : r2 = (FX3_day g t gl bb tb n z c).1 := congrArg Prod.fst hp2
  obtain rfl : u2 = (FX3_day g t gl bb tb n z c).2 := congrArg Prod.snd hp2
  have hPX : va_P D vwCl (wX cI ad (FX2_day f a ta n z c).2.1 (FX2_day f a ta n z c).2.2.1 (FX2_day f a ta n z c).2.2.2) H1 := hPX.kept (fun k q hq9 => hq2 q.1 ((hPX k q hq9).lt) (fun h => by obtain ⟨k1, hk1, e1⟩ := h; obtain ⟨k2, e2⟩ := w_key (wX_fst ..) hq9; exact hXM k k1 k2 hk1 (e2.symm.trans e1)))
  have hPM : va_P D vwCl (wM cI cB ad2 (FX3_day g t gl bb tb n z c).2.1 (FX3_day g t gl bb tb n z c).2.2.1 (FX3_day g t gl bb tb n z c).2.2.2.1 (FX3_day g t gl bb tb n z c).2.2.2.2.1 (FX3_day g t gl bb tb n z c).2.2.2.2.2) H1 := hP1
  clear hP1
  generalize H1 = H at hPX hPM hS ⊢
  refine lv_pop E.1 E.2.1 dL_law_362 rfl ?_
  refine lv_goto (tgt := 652) E.1 E.2.1 dL_law_363 (by decide) ?_
  exact hend _ _ _ _ _ _ _ _ _ _ hPX hPM hS ((rr_day (ta := ta) (t := t) (gl := gl) (tb := tb) hRC).2) ls hl
set_option maxHeartbeats 4000000 in
set_option maxRecDepth 100000 in
/-- the law at need -/
theorem law_10 {p : Program} {e : Env} {s : State} {m : MethodId} {below : List Frame} {meth : Method} {cd : Code} (l : Launch) {b L : Nat} {xs : Nat → Int32} {D : va_G} {cI cB : ClassId} {ad ad2 : Nat → Nat} {aS aV : Nat} {Q : State → Prop} (E : CallFix p m cd cL_law 4 s #[Value.ref b] wsL_law RL) (hXs : va_X b L xs s s.heap) (hbl : b < s.heap.size) (hK : wK D cI cB s) (hIX : wI 25 ad) (hIM : wI 20 ad2) (hAX : ∀ k : Nat, k < 25 → s.heap.size ≤ ad k) (hAM : ∀ k : Nat, k < 20 → s.heap.size ≤ ad2 k) (hXM : ∀ j k : Nat, j < 25 → k < 20 → ad j ≠ ad2 k) (hZ : zS aS aV (fun q : Nat => s.heap.size ≤ q) s s.heap) {H : Heap} {locs : List Loc} {f : Nat → Int32} {a ta : Nat → Nat → Int32} {g t : Nat → Int32} {gl : Nat → Int64} {bb tb : Nat → Nat → Int32} (hPX : va_P D vwCl (wX cI ad f a ta) H) (hPM : va_P D vwCl (wM cI cB ad2 g t gl bb tb) H) (hS : va_S (fun q : Nat => s.heap.size ≤ q) s.heap H locs) {q n z c : Nat} (hq : 4 * q + 4 ≤ L) (hL : L ≤ 256) (hRC : RC q n z c f a g bb) (hend : ∀ (H : Heap) (locs : List Loc) (f : Nat → Int32) (a ta : Nat → Nat → Int32) (g t : Nat → Int32) (gl : Nat → Int64) (bb tb : Nat → Nat → Int32), va_P D vwCl (wX cI ad f a ta) H → va_P D vwCl (wM cI cB ad2 g t gl bb tb) H → va_S (fun q : Nat => s.heap.size ≤ q) s.heap H locs → RR (q + 1) f a g bb → ∀ ls : Array Slot, lv_has ls 4 [(3, .int (nI (4 * q))), (0, .ref b), (1, .ref (ad 0)), (2, .ref (ad2 0))] → W p l e room_1 s m #[Value.ref b] below meth cd H locs 45 348 Q (F0 m 652 ls [])) (ls : Array Slot) (hl : lv_has ls 4 [(3, .int (nI (4 * q))), (0, .ref b), (1, .ref (ad 0)), (2, .ref (ad2 0))]) : W p l e room_1 s m #[Value.ref b] below meth cd H locs 45 348 Q (F0 m 366 ls []) := by
  have hbA : ¬ (fun q : Nat => s.heap.size ≤ q) b := Nat.not_le.mpr hbl
  have hAXs : ∀ q, wA 25 ad q → s.heap.size ≤ q := fun q h => by obtain ⟨k, hk, e1⟩ := h; rw [e1]; exact hAX k hk
  have hAMs : ∀ q, wA 20 ad2 q → s.heap.size ≤ q := fun q h => by obtain ⟨k, hk, e1⟩ := h; rw [e1]; exact hAM k hk
  obtain ⟨hxi, hmi, hX, hM, hp, -, -, -⟩ := id hRC
  obtain ⟨n2, c1, c2, hX2, hc2, hc26⟩ := id hxi
  refine lv_aload_n E.1 E.2.1 dL_law_366 rfl (lv_at hl 2 rfl) ?_
  refine lv_aload_n E.1 E.2.1 dL_law_367 rfl (lv_at hl 1 rfl) ?_
  refine lv_iload_n E.1 E.2.1 dL_law_368 rfl (lv_at hl 0 rfl) ?_
  refine lv_iconst (v := 1) E.1 E.2.1 dL_law_369 (by decide) ?_
  refine lv_iadd E.1 E.2.1 dL_law_370 ?_
  refine lv_topi (fun y1 ey1 => ?_)
  obtain rfl : y1 = nI (4 * q + 1) := ey1.trans (nI_1 (4 * q))
  refine va_sld (i := nI (4 * q + 1)) E.1 E.2.1 hXs hbl hbA hS (vp_in_nI (by omega) (by omega)) dL_law_371 ?_
  refine lv_topi (fun y2 ey2 => ?_)
  obtain rfl : y2 = xs (4 * q + 1) := ey2.trans (by rw [nI_clamp (show 4 * q + 1 < 2 ^ 31 by omega)])
  refine lv_aload_n E.1 E.2.1 dL_law_372 rfl (lv_at hl 1 rfl) ?_
  refine lv_iload_n E.1 E.2.1 dL_law_373 rfl (lv_at hl 0 rfl) ?_
  refine lv_iconst (v := 2) E.1 E.2.1 dL_law_374 (by decide) ?_
  refine lv_iadd E.1 E.2.1 dL_law_375 ?_
  refine lv_topi (fun y3 ey3 => ?_)
  obtain rfl : y3 = nI (4 * q + 2) := ey3.trans (nI_add (4 * q) 2)
  refine va_sld (i := nI (4 * q + 2)) E.1 E.2.1 hXs hbl hbA hS (vp_in_nI (by omega) (by omega)) dL_law_376 ?_
  refine lv_topi (fun y4 ey4 => ?_)
  obtain rfl : y4 = xs (4 * q + 2) := ey4.trans (by rw [nI_clamp (show 4 * q + 2 < 2 ^ 31 by omega)])
  refine g_VR (As := [.int (xs (4 * q + 1)), .int (xs (4 * q + 2))]) (rest := []) E hK hPX (c_X2_need l D cI cB ad f a ta n z c hX (xs (4 * q + 1)) (xs (4 * q + 2))) (cwV 2 E.2.2.2.2 gL_law_X2_need rfl rfl rfl (by decide +kernel) ⟨Nat.le_of_ble_eq_true rfl, Nat.le_of_ble_eq_true rfl⟩) (rx hK hPX) rfl hl.1 rfl (Nat.le_of_ble_eq_true rfl) dL_law_377 ⟨Nat.le_of_ble_eq_true rfl, Nat.le_of_ble_eq_true rfl⟩ ?_
  refine lv_pop E.1 E.2.1 dL_law_380 rfl ?_
  refine lv_aload_n E.1 E.2.1 dL_law_381 rfl (lv_at hl 3 rfl) ?_
  refine lv_aload_n E.1 E.2.1 dL_law_382 rfl (lv_at hl 1 rfl) ?_
  refine lv_iload_n E.1 E.2.1 dL_law_383 rfl (lv_at hl 0 rfl) ?_
  refine lv_iconst (v := 1) E.1 E.2.1 dL_law_384 (by decide) ?_
  refine lv_iadd E.1 E.2.1 dL_law_385 ?_
  refine lv_topi (fun y5 ey5 => ?_)
  obtain rfl : y5 = nI (4 * q + 1) := ey5.trans (nI_1 (4 * q))
  refine va_sld (i := nI (4 * q + 1)) E.1 E.2.1 hXs hbl hbA hS (vp_in_nI (by omega) (by omega)) dL_law_386 ?_
  refine lv_topi (fun y6 ey6 => ?_)
  obtain rfl : y6 = xs (4 * q + 1) := ey6.trans (by rw [nI_clamp (show 4 * q + 1 < 2 ^ 31 by omega)])
  refine lv_aload_n E.1 E.2.1 dL_law_387 rfl (lv_at hl 1 rfl) ?_
  refine lv_iload_n E.1 E.2.1 dL_law_388 rfl (lv_at hl 0 rfl) ?_
  refine lv_iconst (v := 2) E.1 E.2.1 dL_law_389 (by decide) ?_
  refine lv_iadd E.1 E.2.1 dL_law_390 ?_
  refine lv_topi (fun y7 ey7 => ?_)
  obtain rfl : y7 = nI (4 * q + 2) := ey7.trans (nI_add (4 * q) 2)
  refine va_sld (i := nI (4 * q + 2)) E.1 E.2.1 hXs hbl hbA hS (vp_in_nI (by omega) (by omega)) dL_law_391 ?_
  refine lv_topi (fun y8 ey8 => ?_)
  obtain rfl : y8 = xs (4 * q + 2) := ey8.trans (by rw [nI_clamp (show 4 * q + 2 < 2 ^ 31 by omega)])
  refine g_VR (As := [.int (xs (4 * q + 1)), .int (xs (4 * q + 2))]) (rest := []) E hK hPM (c_X3_need l D cI cB ad2 g t gl bb tb n z c hM (xs (4 * q + 1)) (xs (4 * q + 2))) (cwV 2 E.2.2.2.2 gL_law_X3_need rfl rfl rfl (by decide +kernel) ⟨Nat.le_of_ble_eq_true rfl, Nat.le_of_ble_eq_true rfl⟩) (rm0x hK hPM) rfl hl.1 rfl (Nat.le_of_ble_eq_true rfl) dL_law_392 ⟨Nat.le_of_ble_eq_true rfl, Nat.le_of_ble_eq_true rfl⟩ ?_
  refine lv_pop E.1 E.2.1 dL_law_395 rfl ?_
  refine lv_goto (tgt := 652) E.1 E.2.1 dL_law_396 (by decide) ?_
  exact hend _ _ _ _ _ _ _ _ _ _ hPX hPM hS (RR_mono ⟨n, z, c, hRC⟩) ls hl
set_option maxHeartbeats 4000000 in
set_option maxRecDepth 100000 in
/-- the law at plan -/
theorem law_11 {p : Program} {e : Env} {s : State} {m : MethodId} {below : List Frame} {meth : Method} {cd : Code} (l : Launch) {b L : Nat} {xs : Nat → Int32} {D : va_G} {cI cB : ClassId} {ad ad2 : Nat → Nat} {aS aV : Nat} {Q : State → Prop} (E : CallFix p m cd cL_law 4 s #[Value.ref b] wsL_law RL) (hXs : va_X b L xs s s.heap) (hbl : b < s.heap.size) (hK : wK D cI cB s) (hIX : wI 25 ad) (hIM : wI 20 ad2) (hAX : ∀ k : Nat, k < 25 → s.heap.size ≤ ad k) (hAM : ∀ k : Nat, k < 20 → s.heap.size ≤ ad2 k) (hXM : ∀ j k : Nat, j < 25 → k < 20 → ad j ≠ ad2 k) (hZ : zS aS aV (fun q : Nat => s.heap.size ≤ q) s s.heap) {H : Heap} {locs : List Loc} {f : Nat → Int32} {a ta : Nat → Nat → Int32} {g t : Nat → Int32} {gl : Nat → Int64} {bb tb : Nat → Nat → Int32} (hPX : va_P D vwCl (wX cI ad f a ta) H) (hPM : va_P D vwCl (wM cI cB ad2 g t gl bb tb) H) (hS : va_S (fun q : Nat => s.heap.size ≤ q) s.heap H locs) {q n z c : Nat} (hq : 4 * q + 4 ≤ L) (hL : L ≤ 256) (hRC : RC q n z c f a g bb) (hend : ∀ (H : Heap) (locs : List Loc) (f : Nat → Int32) (a ta : Nat → Nat → Int32) (g t : Nat → Int32) (gl : Nat → Int64) (bb tb : Nat → Nat → Int32), va_P D vwCl (wX cI ad f a ta) H → va_P D vwCl (wM cI cB ad2 g t gl bb tb) H → va_S (fun q : Nat => s.heap.size ≤ q) s.heap H locs → RR (q + 1) f a g bb → ∀ ls : Array Slot, lv_has ls 4 [(3, .int (nI (4 * q))), (0, .ref b), (1, .ref (ad 0)), (2, .ref (ad2 0))] → W p l e room_1 s m #[Value.ref b] below meth cd H locs 45 348 Q (F0 m 652 ls [])) (ls : Array Slot) (hl : lv_has ls 4 [(3, .int (nI (4 * q))), (0, .ref b), (1, .ref (ad 0)), (2, .ref (ad2 0))]) : W p l e room_1 s m #[Value.ref b] below meth cd H locs 45 348 Q (F0 m 399 ls []) := by
  have hbA : ¬ (fun q : Nat => s.heap.size ≤ q) b := Nat.not_le.mpr hbl
  have hAXs : ∀ q, wA 25 ad q → s.heap.size ≤ q := fun q h => by obtain ⟨k, hk, e1⟩ := h; rw [e1]; exact hAX k hk
  have hAMs : ∀ q, wA 20 ad2 q → s.heap.size ≤ q := fun q h => by obtain ⟨k, hk, e1⟩ := h; rw [e1]; exact hAM k hk
  obtain ⟨hxi, hmi, hX, hM, hp, -, -, -⟩ := id hRC
  obtain ⟨n2, c1, c2, hX2, hc2, hc26⟩ := id hxi
  refine lv_aload_n E.1 E.2.1 dL_law_399 rfl (lv_at hl 2 rfl) ?_
  refine lv_aload_n E.1 E.2.1 dL_law_400 rfl (lv_at hl 1 rfl) ?_
  refine lv_iload_n E.1 E.2.1 dL_law_401 rfl (lv_at hl 0 rfl) ?_
  refine lv_iconst (v := 1) E.1 E.2.1 dL_law_402 (by decide) ?_
  refine lv_iadd E.1 E.2.1 dL_law_403 ?_
  refine lv_topi (fun y1 ey1 => ?_)
  obtain rfl : y1 = nI (4 * q + 1) := ey1.trans (nI_1 (4 * q))
  refine va_sld (i := nI (4 * q + 1)) E.1 E.2.1 hXs hbl hbA hS (vp_in_nI (by omega) (by omega)) dL_law_404 ?_
  refine lv_topi (fun y2 ey2 => ?_)
  obtain rfl : y2 = xs (4 * q + 1) := ey2.trans (by rw [nI_clamp (show 4 * q + 1 < 2 ^ 31 by omega)])
  refine lv_aload_n E.1 E.2.1 dL_law_405 rfl (lv_at hl 1 rfl) ?_
  refine lv_iload_n E.1 E.2.1 dL_law_406 rfl (lv_at hl 0 rfl) ?_
  refine lv_iconst (v := 2) E.1 E.2.1 dL_law_407 (by decide) ?_
  refine lv_iadd E.1 E.2.1 dL_law_408 ?_
  refine lv_topi (fun y3 ey3 => ?_)
  obtain rfl : y3 = nI (4 * q + 2) := ey3.trans (nI_add (4 * q) 2)
  refine va_sld (i := nI (4 * q + 2)) E.1 E.2.1 hXs hbl hbA hS (vp_in_nI (by omega) (by omega)) dL_law_409 ?_
  refine lv_topi (fun y4 ey4 => ?_)
  obtain rfl : y4 = xs (4 * q + 2) := ey4.trans (by rw [nI_clamp (show 4 * q + 2 < 2 ^ 31 by omega)])
  refine lv_aload_n E.1 E.2.1 dL_law_410 rfl (lv_at hl 1 rfl) ?_
  refine lv_iload_n E.1 E.2.1 dL_law_411 rfl (lv_at hl 0 rfl) ?_
  refine lv_iconst (v := 3) E.1 E.2.1 dL_law_412 (by decide) ?_
  refine lv_iadd E.1 E.2.1 dL_law_413 ?_
  refine lv_topi (fun y5 ey5 => ?_)
  obtain rfl : y5 = nI (4 * q + 3) := ey5.trans (nI_add (4 * q) 3)
  refine va_sld (i := nI (4 * q + 3)) E.1 E.2.1 hXs hbl hbA hS (vp_in_nI (by omega) (by omega)) dL_law_414 ?_
  refine lv_topi (fun y6 ey6 => ?_)
  obtain rfl : y6 = xs (4 * q + 3) := ey6.trans (by rw [nI_clamp (show 4 * q + 3 < 2 ^ 31 by omega)])
  refine g_VWi (As := [.int (xs (4 * q + 1)), .int (xs (4 * q + 2)), .int (xs (4 * q + 3))]) (rest := []) E hK hPX hS hAXs (c_X2_plan l D cI cB ad f a ta n z c hX hIX (xs (4 * q + 1)) (xs (4 * q + 2)) (xs (4 * q + 3))) (cwV 3 E.2.2.2.2 gL_law_X2_plan rfl rfl rfl (by decide +kernel) ⟨Nat.le_of_ble_eq_true rfl, Nat.le_of_ble_eq_true rfl⟩) (rx hK hPX) rfl hl.1 rfl (Nat.le_of_ble_eq_true rfl) dL_law_415 ⟨Nat.le_of_ble_eq_true rfl, Nat.le_of_ble_eq_true rfl⟩ (fun r7 u7 H1 locs hp7 hP1 hq7 hS => ?_)
  obtain rfl : r7 = (FX2_plan f a ta n z c (xs (4 * q + 1)) (xs (4 * q + 2)) (xs (4 * q + 3))).1 := congrArg Prod.fst hp7
  obtain rfl : u7 = (FX2_plan f a ta n z c (xs (4 * q + 1)) (xs (4 * q + 2)) (xs (4 * q + 3))).2 := congrArg Prod.snd hp7
  have hPM : va_P D vwCl (wM cI cB ad2 g t gl bb tb) H1 := hPM.kept (fun k q hq9 => hq7 q.1 ((hPM k q hq9).lt) (fun h => by obtain ⟨k1, hk1, e1⟩ := h; obtain ⟨k2, e2⟩ := w_key (wM_fst cI cB ad2 g t gl bb tb) hq9; exact hXM k1 k hk1 k2 (e1.symm.trans e2)))
  have hPX : va_P D vwCl (wX cI ad (FX2_plan f a ta n z c (xs (4 * q + 1)) (xs (4 * q + 2)) (xs (4 * q + 3))).2.1 (FX2_plan f a ta n z c (xs (4 * q + 1)) (xs (4 * q + 2)) (xs (4 * q + 3))).2.2.1 (FX2_plan f a ta n z c (xs (4 * q + 1)) (xs (4 * q + 2)) (xs (4 * q + 3))).2.2.2) H1 := hP1
  clear hP1
  generalize H1 = H at hPX hPM hS ⊢
  refine lv_pop E.1 E.2.1 dL_law_418 rfl ?_
  refine lv_aload_n E.1 E.2.1 dL_law_419 rfl (lv_at hl 3 rfl) ?_
  refine lv_aload_n E.1 E.2.1 dL_law_420 rfl (lv_at hl 1 rfl) ?_
  refine lv_iload_n E.1 E.2.1 dL_law_421 rfl (lv_at hl 0 rfl) ?_
  refine lv_iconst (v := 1) E.1 E.2.1 dL_law_422 (by decide) ?_
  refine lv_iadd E.1 E.2.1 dL_law_423 ?_
  refine lv_topi (fun y8 ey8 => ?_)
  obtain rfl : y8 = nI (4 * q + 1) := ey8.trans (nI_1 (4 * q))
  refine va_sld (i := nI (4 * q + 1)) E.1 E.2.1 hXs hbl hbA hS (vp_in_nI (by omega) (by omega)) dL_law_424 ?_
  refine lv_topi (fun y9 ey9 => ?_)
  obtain rfl : y9 = xs (4 * q + 1) := ey9.trans (by rw [nI_clamp (show 4 * q + 1 < 2 ^ 31 by omega)])
  refine lv_aload_n E.1 E.2.1 dL_law_425 rfl (lv_at hl 1 rfl) ?_
  refine lv_iload_n E.1 E.2.1 dL_law_426 rfl (lv_at hl 0 rfl) ?_
  refine lv_iconst (v := 2) E.1 E.2.1 dL_law_427 (by decide) ?_
  refine lv_iadd E.1 E.2.1 dL_law_428 ?_
  refine lv_topi (fun y10 ey10 => ?_)
  obtain rfl : y10 = nI (4 * q + 2) := ey10.trans (nI_add (4 * q) 2)
  refine va_sld (i := nI (4 * q + 2)) E.1 E.2.1 hXs hbl hbA hS (vp_in_nI (by omega) (by omega)) dL_law_429 ?_
  refine lv_topi (fun y11 ey11 => ?_)
  obtain rfl : y11 = xs (4 * q + 2) := ey11.trans (by rw [nI_clamp (show 4 * q + 2 < 2 ^ 31 by omega)])
  refine lv_aload_n E.1 E.2.1 dL_law_430 rfl (lv_at hl 1 rfl) ?_
  refine lv_iload_n E.1 E.2.1 dL_law_431 rfl (lv_at hl 0 rfl) ?_
  refine lv_iconst (v := 3) E.1 E.2.1 dL_law_432 (by decide) ?_
  refine lv_iadd E.1 E.2.1 dL_law_433 ?_
  refine lv_topi (fun y12 ey12 => ?_)
  obtain rfl : y12 = nI (4 * q + 3) := ey12.trans (nI_add (4 * q) 3)
  refine va_sld (i := nI (4 * q + 3)) E.1 E.2.1 hXs hbl hbA hS (vp_in_nI (by omega) (by omega)) dL_law_434 ?_
  refine lv_topi (fun y13 ey13 => ?_)
  obtain rfl : y13 = xs (4 * q + 3) := ey13.trans (by rw [nI_clamp (show 4 * q + 3 < 2 ^ 31 by omega)])
  refine g_VWi (As := [.int (xs (4 * q + 1)), .int (xs (4 * q + 2)), .int (xs (4 * q + 3))]) (rest := []) E hK hPM hS hAMs (c_X3_plan l D cI cB ad2 g t gl bb tb n z c hM hIM (xs (4 * q + 1)) (xs (4 * q + 2)) (xs (4 * q + 3))) (cwV 3 E.2.2.2.2 gL_law_X3_plan rfl rfl rfl (by decide +kernel) ⟨Nat.le_of_ble_eq_true rfl, Nat.le_of_ble_eq_true rfl⟩) (rm0x hK hPM) rfl hl.1 rfl (Nat.le_of_ble_eq_true rfl) dL_law_435 ⟨Nat.le_of_ble_eq_true rfl, Nat.le_of_ble_eq_true rfl⟩ (fun r14 u14 H1 locs hp14 hP1 hq14 hS => ?_)
  obtain rfl : r14 = (FX3_plan g t gl bb tb n z c (xs (4 * q + 1)) (xs (4 * q + 2)) (xs (4 * q + 3))).1 := congrArg Prod.fst hp14
  obtain rfl : u14 = (FX3_plan g t gl bb tb n z c (xs (4 * q + 1)) (xs (4 * q + 2)) (xs (4 * q + 3))).2 := congrArg Prod.snd hp14
  have hPX : va_P D vwCl (wX cI ad (FX2_plan f a ta n z c (xs (4 * q + 1)) (xs (4 * q + 2)) (xs (4 * q + 3))).2.1 (FX2_plan f a ta n z c (xs (4 * q + 1)) (xs (4 * q + 2)) (xs (4 * q + 3))).2.2.1 (FX2_plan f a ta n z c (xs (4 * q + 1)) (xs (4 * q + 2)) (xs (4 * q + 3))).2.2.2) H1 := hPX.kept (fun k q hq9 => hq14 q.1 ((hPX k q hq9).lt) (fun h => by obtain ⟨k1, hk1, e1⟩ := h; obtain ⟨k2, e2⟩ := w_key (wX_fst ..) hq9; exact hXM k k1 k2 hk1 (e2.symm.trans e1)))
  have hPM : va_P D vwCl (wM cI cB ad2 (FX3_plan g t gl bb tb n z c (xs (4 * q + 1)) (xs (4 * q + 2)) (xs (4 * q + 3))).2.1 (FX3_plan g t gl bb tb n z c (xs (4 * q + 1)) (xs (4 * q + 2)) (xs (4 * q + 3))).2.2.1 (FX3_plan g t gl bb tb n z c (xs (4 * q + 1)) (xs (4 * q + 2)) (xs (4 * q + 3))).2.2.2.1 (FX3_plan g t gl bb tb n z c (xs (4 * q + 1)) (xs (4 * q + 2)) (xs (4 * q + 3))).2.2.2.2.1 (FX3_plan g t gl bb tb n z c (xs (4 * q + 1)) (xs (4 * q + 2)) (xs (4 * q + 3))).2.2.2.2.2) H1 := hP1
  clear hP1
  generalize H1 = H at hPX hPM hS ⊢
  refine lv_pop E.1 E.2.1 dL_law_438 rfl ?_
  refine lv_goto (tgt := 652) E.1 E.2.1 dL_law_439 (by decide) ?_
  exact hend _ _ _ _ _ _ _ _ _ _ hPX hPM hS (RR_st hRC st_planX st_planM) ls hl
set_option maxHeartbeats 4000000 in
set_option maxRecDepth 100000 in
/-- the law at error -/
theorem law_12 {p : Program} {e : Env} {s : State} {m : MethodId} {below : List Frame} {meth : Method} {cd : Code} (l : Launch) {b L : Nat} {xs : Nat → Int32} {D : va_G} {cI cB : ClassId} {ad ad2 : Nat → Nat} {aS aV : Nat} {Q : State → Prop} (E : CallFix p m cd cL_law 4 s #[Value.ref b] wsL_law RL) (hXs : va_X b L xs s s.heap) (hbl : b < s.heap.size) (hK : wK D cI cB s) (hIX : wI 25 ad) (hIM : wI 20 ad2) (hAX : ∀ k : Nat, k < 25 → s.heap.size ≤ ad k) (hAM : ∀ k : Nat, k < 20 → s.heap.size ≤ ad2 k) (hXM : ∀ j k : Nat, j < 25 → k < 20 → ad j ≠ ad2 k) (hZ : zS aS aV (fun q : Nat => s.heap.size ≤ q) s s.heap) {H : Heap} {locs : List Loc} {f : Nat → Int32} {a ta : Nat → Nat → Int32} {g t : Nat → Int32} {gl : Nat → Int64} {bb tb : Nat → Nat → Int32} (hPX : va_P D vwCl (wX cI ad f a ta) H) (hPM : va_P D vwCl (wM cI cB ad2 g t gl bb tb) H) (hS : va_S (fun q : Nat => s.heap.size ≤ q) s.heap H locs) {q n z c : Nat} (hq : 4 * q + 4 ≤ L) (hL : L ≤ 256) (hRC : RC q n z c f a g bb) (hend : ∀ (H : Heap) (locs : List Loc) (f : Nat → Int32) (a ta : Nat → Nat → Int32) (g t : Nat → Int32) (gl : Nat → Int64) (bb tb : Nat → Nat → Int32), va_P D vwCl (wX cI ad f a ta) H → va_P D vwCl (wM cI cB ad2 g t gl bb tb) H → va_S (fun q : Nat => s.heap.size ≤ q) s.heap H locs → RR (q + 1) f a g bb → ∀ ls : Array Slot, lv_has ls 4 [(3, .int (nI (4 * q))), (0, .ref b), (1, .ref (ad 0)), (2, .ref (ad2 0))] → W p l e room_1 s m #[Value.ref b] below meth cd H locs 45 348 Q (F0 m 652 ls [])) (ls : Array Slot) (hl : lv_has ls 4 [(3, .int (nI (4 * q))), (0, .ref b), (1, .ref (ad 0)), (2, .ref (ad2 0))]) : W p l e room_1 s m #[Value.ref b] below meth cd H locs 45 348 Q (F0 m 442 ls []) := by
  have hbA : ¬ (fun q : Nat => s.heap.size ≤ q) b := Nat.not_le.mpr hbl
  have hAXs : ∀ q, wA 25 ad q → s.heap.size ≤ q := fun q h => by obtain ⟨k, hk, e1⟩ := h; rw [e1]; exact hAX k hk
  have hAMs : ∀ q, wA 20 ad2 q → s.heap.size ≤ q := fun q h => by obtain ⟨k, hk, e1⟩ := h; rw [e1]; exact hAM k hk
  obtain ⟨hxi, hmi, hX, hM, hp, -, -, -⟩ := id hRC
  obtain ⟨n2, c1, c2, hX2, hc2, hc26⟩ := id hxi
  refine lv_aload_n E.1 E.2.1 dL_law_442 rfl (lv_at hl 2 rfl) ?_
  refine lv_aload_n E.1 E.2.1 dL_law_443 rfl (lv_at hl 1 rfl) ?_
  refine lv_iload_n E.1 E.2.1 dL_law_444 rfl (lv_at hl 0 rfl) ?_
  refine lv_iconst (v := 1) E.1 E.2.1 dL_law_445 (by decide) ?_
  refine lv_iadd E.1 E.2.1 dL_law_446 ?_
  refine lv_topi (fun y1 ey1 => ?_)
  obtain rfl : y1 = nI (4 * q + 1) := ey1.trans (nI_1 (4 * q))
  refine va_sld (i := nI (4 * q + 1)) E.1 E.2.1 hXs hbl hbA hS (vp_in_nI (by omega) (by omega)) dL_law_447 ?_
  refine lv_topi (fun y2 ey2 => ?_)
  obtain rfl : y2 = xs (4 * q + 1) := ey2.trans (by rw [nI_clamp (show 4 * q + 1 < 2 ^ 31 by omega)])
  refine g_VR (As := [.int (xs (4 * q + 1))]) (rest := []) E hK hPX (c_X2_error l D cI cB ad f a ta n z c hX (xs (4 * q + 1))) (cwV 1 E.2.2.2.2 gL_law_X2_error rfl rfl rfl (by decide +kernel) ⟨Nat.le_of_ble_eq_true rfl, Nat.le_of_ble_eq_true rfl⟩) (rx hK hPX) rfl hl.1 rfl (Nat.le_of_ble_eq_true rfl) dL_law_448 ⟨Nat.le_of_ble_eq_true rfl, Nat.le_of_ble_eq_true rfl⟩ ?_
  refine lv_pop E.1 E.2.1 dL_law_451 rfl ?_
  refine lv_aload_n E.1 E.2.1 dL_law_452 rfl (lv_at hl 3 rfl) ?_
  refine lv_aload_n E.1 E.2.1 dL_law_453 rfl (lv_at hl 1 rfl) ?_
  refine lv_iload_n E.1 E.2.1 dL_law_454 rfl (lv_at hl 0 rfl) ?_
  refine lv_iconst (v := 1) E.1 E.2.1 dL_law_455 (by decide) ?_
  refine lv_iadd E.1 E.2.1 dL_law_456 ?_
  refine lv_topi (fun y3 ey3 => ?_)
  obtain rfl : y3 = nI (4 * q + 1) := ey3.trans (nI_1 (4 * q))
  refine va_sld (i := nI (4 * q + 1)) E.1 E.2.1 hXs hbl hbA hS (vp_in_nI (by omega) (by omega)) dL_law_457 ?_
  refine lv_topi (fun y4 ey4 => ?_)
  obtain rfl : y4 = xs (4 * q + 1) := ey4.trans (by rw [nI_clamp (show 4 * q + 1 < 2 ^ 31 by omega)])
  refine g_VR (As := [.int (xs (4 * q + 1))]) (rest := []) E hK hPM (c_X3_error l D cI cB ad2 g t gl bb tb n z c hM (xs (4 * q + 1))) (cwV 1 E.2.2.2.2 gL_law_X3_error rfl rfl rfl (by decide +kernel) ⟨Nat.le_of_ble_eq_true rfl, Nat.le_of_ble_eq_true rfl⟩) (rm0x hK hPM) rfl hl.1 rfl (Nat.le_of_ble_eq_true rfl) dL_law_458 ⟨Nat.le_of_ble_eq_true rfl, Nat.le_of_ble_eq_true rfl⟩ ?_
  refine lv_pop E.1 E.2.1 dL_law_461 rfl ?_
  refine lv_goto (tgt := 652) E.1 E.2.1 dL_law_462 (by decide) ?_
  exact hend _ _ _ _ _ _ _ _ _ _ hPX hPM hS (RR_mono ⟨n, z, c, hRC⟩) ls hl
set_option maxHeartbeats 4000000 in
set_option maxRecDepth 100000 in
/-- the law at found -/
theorem law_13 {p : Program} {e : Env} {s : State} {m : MethodId} {below : List Frame} {meth : Method} {cd : Code} (l : Launch) {b L : Nat} {xs : Nat → Int32} {D : va_G} {cI cB : ClassId} {ad ad2 : Nat → Nat} {aS aV : Nat} {Q : State → Prop} (E : CallFix p m cd cL_law 4 s #[Value.ref b] wsL_law RL) (hXs : va_X b L xs s s.heap) (hbl : b < s.heap.size) (hK : wK D cI cB s) (hIX : wI 25 ad) (hIM : wI 20 ad2) (hAX : ∀ k : Nat, k < 25 → s.heap.size ≤ ad k) (hAM : ∀ k : Nat, k < 20 → s.heap.size ≤ ad2 k) (hXM : ∀ j k : Nat, j < 25 → k < 20 → ad j ≠ ad2 k) (hZ : zS aS aV (fun q : Nat => s.heap.size ≤ q) s s.heap) {H : Heap} {locs : List Loc} {f : Nat → Int32} {a ta : Nat → Nat → Int32} {g t : Nat → Int32} {gl : Nat → Int64} {bb tb : Nat → Nat → Int32} (hPX : va_P D vwCl (wX cI ad f a ta) H) (hPM : va_P D vwCl (wM cI cB ad2 g t gl bb tb) H) (hS : va_S (fun q : Nat => s.heap.size ≤ q) s.heap H locs) {q n z c : Nat} (hq : 4 * q + 4 ≤ L) (hL : L ≤ 256) (hRC : RC q n z c f a g bb) (hend : ∀ (H : Heap) (locs : List Loc) (f : Nat → Int32) (a ta : Nat → Nat → Int32) (g t : Nat → Int32) (gl : Nat → Int64) (bb tb : Nat → Nat → Int32), va_P D vwCl (wX cI ad f a ta) H → va_P D vwCl (wM cI cB ad2 g t gl bb tb) H → va_S (fun q : Nat => s.heap.size ≤ q) s.heap H locs → RR (q + 1) f a g bb → ∀ ls : Array Slot, lv_has ls 4 [(3, .int (nI (4 * q))), (0, .ref b), (1, .ref (ad 0)), (2, .ref (ad2 0))] → W p l e room_1 s m #[Value.ref b] below meth cd H locs 45 348 Q (F0 m 652 ls [])) (ls : Array Slot) (hl : lv_has ls 4 [(3, .int (nI (4 * q))), (0, .ref b), (1, .ref (ad 0)), (2, .ref (ad2 0))]) : W p l e room_1 s m #[Value.ref b] below meth cd H locs 45 348 Q (F0 m 465 ls []) := by
  have hbA : ¬ (fun q : Nat => s.heap.size ≤ q) b := Nat.not_le.mpr hbl
  have hAXs : ∀ q, wA 25 ad q → s.heap.size ≤ q := fun q h => by obtain ⟨k, hk, e1⟩ := h; rw [e1]; exact hAX k hk
  have hAMs : ∀ q, wA 20 ad2 q → s.heap.size ≤ q := fun q h => by obtain ⟨k, hk, e1⟩ := h; rw [e1]; exact hAM k hk
  obtain ⟨hxi, hmi, hX, hM, hp, -, -, -⟩ := id hRC
  obtain ⟨n2, c1, c2, hX2, hc2, hc26⟩ := id hxi
  refine lv_aload_n E.1 E.2.1 dL_law_465 rfl (lv_at hl 2 rfl) ?_
  refine lv_aload_n E.1 E.2.1 dL_law_466 rfl (lv_at hl 1 rfl) ?_
  refine lv_iload_n E.1 E.2.1 dL_law_467 rfl (lv_at hl 0 rfl) ?_
  refine lv_iconst (v := 1) E.1 E.2.1 dL_law_468 (by decide) ?_
  refine lv_iadd E.1 E.2.1 dL_law_469 ?_
  refine lv_topi (fun y1 ey1 => ?_)
  obtain rfl : y1 = nI (4 * q + 1) := ey1.trans (nI_1 (4 * q))
  refine va_sld (i := nI (4 * q + 1)) E.1 E.2.1 hXs hbl hbA hS (vp_in_nI (by omega) (by omega)) dL_law_470 ?_
  refine lv_topi (fun y2 ey2 => ?_)
  obtain rfl : y2 = xs (4 * q + 1) := ey2.trans (by rw [nI_clamp (show 4 * q + 1 < 2 ^ 31 by omega)])
  refine lv_aload_n E.1 E.2.1 dL_law_471 rfl (lv_at hl 1 rfl) ?_
  refine lv_iload_n E.1 E.2.1 dL_law_472 rfl (lv_at hl 0 rfl) ?_
  refine lv_iconst (v := 2) E.1 E.2.1 dL_law_473 (by decide) ?_
  refine lv_iadd E.1 E.2.1 dL_law_474 ?_
  refine lv_topi (fun y3 ey3 => ?_)
  obtain rfl : y3 = nI (4 * q + 2) := ey3.trans (nI_add (4 * q) 2)
  refine va_sld (i := nI (4 * q + 2)) E.1 E.2.1 hXs hbl hbA hS (vp_in_nI (by omega) (by omega)) dL_law_475 ?_
  refine lv_topi (fun y4 ey4 => ?_)
  obtain rfl : y4 = xs (4 * q + 2) := ey4.trans (by rw [nI_clamp (show 4 * q + 2 < 2 ^ 31 by omega)])
  refine lv_aload_n E.1 E.2.1 dL_law_476 rfl (lv_at hl 1 rfl) ?_
  refine lv_iload_n E.1 E.2.1 dL_law_477 rfl (lv_at hl 0 rfl) ?_
  refine lv_iconst (v := 3) E.1 E.2.1 dL_law_478 (by decide) ?_
  refine lv_iadd E.1 E.2.1 dL_law_479 ?_
  refine lv_topi (fun y5 ey5 => ?_)
  obtain rfl : y5 = nI (4 * q + 3) := ey5.trans (nI_add (4 * q) 3)
  refine va_sld (i := nI (4 * q + 3)) E.1 E.2.1 hXs hbl hbA hS (vp_in_nI (by omega) (by omega)) dL_law_480 ?_
  refine lv_topi (fun y6 ey6 => ?_)
  obtain rfl : y6 = xs (4 * q + 3) := ey6.trans (by rw [nI_clamp (show 4 * q + 3 < 2 ^ 31 by omega)])
  refine g_VWi (As := [.int (xs (4 * q + 1)), .int (xs (4 * q + 2)), .int (xs (4 * q + 3))]) (rest := []) E hK hPX hS hAXs (c_X2_found l D cI cB ad f a ta n z c hX hIX (xs (4 * q + 1)) (xs (4 * q + 2)) (xs (4 * q + 3))) (cwV 3 E.2.2.2.2 gL_law_X2_found rfl rfl rfl (by decide +kernel) ⟨Nat.le_of_ble_eq_true rfl, Nat.le_of_ble_eq_true rfl⟩) (rx hK hPX) rfl hl.1 rfl (Nat.le_of_ble_eq_true rfl) dL_law_481 ⟨Nat.le_of_ble_eq_true rfl, Nat.le_of_ble_eq_true rfl⟩ (fun r7 u7 H1 locs hp7 hP1 hq7 hS => ?_)
  obtain rfl : r7 = (FX2_found f a ta n z c (xs (4 * q + 1)) (xs (4 * q + 2)) (xs (4 * q + 3))).1 := congrArg Prod.fst hp7
  obtain rfl : u7 = (FX2_found f a ta n z c (xs (4 * q + 1)) (xs (4 * q + 2)) (xs (4 * q + 3))).2 := congrArg Prod.snd hp7
  have hPM : va_P D vwCl (wM cI cB ad2 g t gl bb tb) H1 := hPM.kept (fun k q hq9 => hq7 q.1 ((hPM k q hq9).lt) (fun h => by obtain ⟨k1, hk1, e1⟩ := h; obtain ⟨k2, e2⟩ := w_key (wM_fst cI cB ad2 g t gl bb tb) hq9; exact hXM k1 k hk1 k2 (e1.symm.trans e2)))
  have hPX : va_P D vwCl (wX cI ad (FX2_found f a ta n z c (xs (4 * q + 1)) (xs (4 * q + 2)) (xs (4 * q + 3))).2.1 (FX2_found f a ta n z c (xs (4 * q + 1)) (xs (4 * q + 2)) (xs (4 * q + 3))).2.2.1 (FX2_found f a ta n z c (xs (4 * q + 1)) (xs (4 * q + 2)) (xs (4 * q + 3))).2.2.2) H1 := hP1
  clear hP1
  generalize H1 = H at hPX hPM hS ⊢
  refine lv_pop E.1 E.2.1 dL_law_484 rfl ?_
  refine lv_aload_n E.1 E.2.1 dL_law_485 rfl (lv_at hl 3 rfl) ?_
  refine lv_aload_n E.1 E.2.1 dL_law_486 rfl (lv_at hl 1 rfl) ?_
  refine lv_iload_n E.1 E.2.1 dL_law_487 rfl (lv_at hl 0 rfl) ?_
  refine lv_iconst (v := 1) E.1 E.2.1 dL_law_488 (by decide) ?_
  refine lv_iadd E.1 E.2.1 dL_law_489 ?_
  refine lv_topi (fun y8 ey8 => ?_)
  obtain rfl : y8 = nI (4 * q + 1) := ey8.trans (nI_1 (4 * q))
  refine va_sld (i := nI (4 * q + 1)) E.1 E.2.1 hXs hbl hbA hS (vp_in_nI (by omega) (by omega)) dL_law_490 ?_
  refine lv_topi (fun y9 ey9 => ?_)
  obtain rfl : y9 = xs (4 * q + 1) := ey9.trans (by rw [nI_clamp (show 4 * q + 1 < 2 ^ 31 by omega)])
  refine lv_aload_n E.1 E.2.1 dL_law_491 rfl (lv_at hl 1 rfl) ?_
  refine lv_iload_n E.1 E.2.1 dL_law_492 rfl (lv_at hl 0 rfl) ?_
  refine lv_iconst (v := 2) E.1 E.2.1 dL_law_493 (by decide) ?_
  refine lv_iadd E.1 E.2.1 dL_law_494 ?_
  refine lv_topi (fun y10 ey10 => ?_)
  obtain rfl : y10 = nI (4 * q + 2) := ey10.trans (nI_add (4 * q) 2)
  refine va_sld (i := nI (4 * q + 2)) E.1 E.2.1 hXs hbl hbA hS (vp_in_nI (by omega) (by omega)) dL_law_495 ?_
  refine lv_topi (fun y11 ey11 => ?_)
  obtain rfl : y11 = xs (4 * q + 2) := ey11.trans (by rw [nI_clamp (show 4 * q + 2 < 2 ^ 31 by omega)])
  refine lv_aload_n E.1 E.2.1 dL_law_496 rfl (lv_at hl 1 rfl) ?_
  refine lv_iload_n E.1 E.2.1 dL_law_497 rfl (lv_at hl 0 rfl) ?_
  refine lv_iconst (v := 3) E.1 E.2.1 dL_law_498 (by decide) ?_
  refine lv_iadd E.1 E.2.1 dL_law_499 ?_
  refine lv_topi (fun y12 ey12 => ?_)
  obtain rfl : y12 = nI (4 * q + 3) := ey12.trans (nI_add (4 * q) 3)
  refine va_sld (i := nI (4 * q + 3)) E.1 E.2.1 hXs hbl hbA hS (vp_in_nI (by omega) (by omega)) dL_law_500 ?_
  refine lv_topi (fun y13 ey13 => ?_)
  obtain rfl : y13 = xs (4 * q + 3) := ey13.trans (by rw [nI_clamp (show 4 * q + 3 < 2 ^ 31 by omega)])
  refine g_VWi (As := [.int (xs (4 * q + 1)), .int (xs (4 * q + 2)), .int (xs (4 * q + 3))]) (rest := []) E hK hPM hS hAMs (c_X3_found l D cI cB ad2 g t gl bb tb n z c hM hIM (xs (4 * q + 1)) (xs (4 * q + 2)) (xs (4 * q + 3))) (cwV 3 E.2.2.2.2 gL_law_X3_found rfl rfl rfl (by decide +kernel) ⟨Nat.le_of_ble_eq_true rfl, Nat.le_of_ble_eq_true rfl⟩) (rm0x hK hPM) rfl hl.1 rfl (Nat.le_of_ble_eq_true rfl) dL_law_501 ⟨Nat.le_of_ble_eq_true rfl, Nat.le_of_ble_eq_true rfl⟩ (fun r14 u14 H1 locs hp14 hP1 hq14 hS => ?_)
  obtain rfl : r14 = (FX3_found g t gl bb tb n z c (xs (4 * q + 1)) (xs (4 * q + 2)) (xs (4 * q + 3))).1 := congrArg Prod.fst hp14
  obtain rfl : u14 = (FX3_found g t gl bb tb n z c (xs (4 * q + 1)) (xs (4 * q + 2)) (xs (4 * q + 3))).2 := congrArg Prod.snd hp14
  have hPX : va_P D vwCl (wX cI ad (FX2_found f a ta n z c (xs (4 * q + 1)) (xs (4 * q + 2)) (xs (4 * q + 3))).2.1 (FX2_found f a ta n z c (xs (4 * q + 1)) (xs (4 * q + 2)) (xs (4 * q + 3))).2.2.1 (FX2_found f a ta n z c (xs (4 * q + 1)) (xs (4 * q + 2)) (xs (4 * q + 3))).2.2.2) H1 := hPX.kept (fun k q hq9 => hq14 q.1 ((hPX k q hq9).lt) (fun h => by obtain ⟨k1, hk1, e1⟩ := h; obtain ⟨k2, e2⟩ := w_key (wX_fst ..) hq9; exact hXM k k1 k2 hk1 (e2.symm.trans e1)))
  have hPM : va_P D vwCl (wM cI cB ad2 (FX3_found g t gl bb tb n z c (xs (4 * q + 1)) (xs (4 * q + 2)) (xs (4 * q + 3))).2.1 (FX3_found g t gl bb tb n z c (xs (4 * q + 1)) (xs (4 * q + 2)) (xs (4 * q + 3))).2.2.1 (FX3_found g t gl bb tb n z c (xs (4 * q + 1)) (xs (4 * q + 2)) (xs (4 * q + 3))).2.2.2.1 (FX3_found g t gl bb tb n z c (xs (4 * q + 1)) (xs (4 * q + 2)) (xs (4 * q + 3))).2.2.2.2.1 (FX3_found g t gl bb tb n z c (xs (4 * q + 1)) (xs (4 * q + 2)) (xs (4 * q + 3))).2.2.2.2.2) H1 := hP1
  clear hP1
  generalize H1 = H at hPX hPM hS ⊢
  refine lv_pop E.1 E.2.1 dL_law_504 rfl ?_
  refine lv_goto (tgt := 652) E.1 E.2.1 dL_law_505 (by decide) ?_
  exact hend _ _ _ _ _ _ _ _ _ _ hPX hPM hS ((rr_found (ta := ta) (t := t) (gl := gl) (tb := tb) hRC).2) ls hl
set_option maxHeartbeats 4000000 in
set_option maxRecDepth 100000 in
/-- the law at forget -/
theorem law_14 {p : Program} {e : Env} {s : State} {m : MethodId} {below : List Frame} {meth : Method} {cd : Code} (l : Launch) {b L : Nat} {xs : Nat → Int32} {D : va_G} {cI cB : ClassId} {ad ad2 : Nat → Nat} {aS aV : Nat} {Q : State → Prop} (E : CallFix p m cd cL_law 4 s #[Value.ref b] wsL_law RL) (hXs : va_X b L xs s s.heap) (hbl : b < s.heap.size) (hK : wK D cI cB s) (hIX : wI 25 ad) (hIM : wI 20 ad2) (hAX : ∀ k : Nat, k < 25 → s.heap.size ≤ ad k) (hAM : ∀ k : Nat, k < 20 → s.heap.size ≤ ad2 k) (hXM : ∀ j k : Nat, j < 25 → k < 20 → ad j ≠ ad2 k) (hZ : zS aS aV (fun q : Nat => s.heap.size ≤ q) s s.heap) {H : Heap} {locs : List Loc} {f : Nat → Int32} {a ta : Nat → Nat → Int32} {g t : Nat → Int32} {gl : Nat → Int64} {bb tb : Nat → Nat → Int32} (hPX : va_P D vwCl (wX cI ad f a ta) H) (hPM : va_P D vwCl (wM cI cB ad2 g t gl bb tb) H) (hS : va_S (fun q : Nat => s.heap.size ≤ q) s.heap H locs) {q n z c : Nat} (hq : 4 * q + 4 ≤ L) (hL : L ≤ 256) (hRC : RC q n z c f a g bb) (hend : ∀ (H : Heap) (locs : List Loc) (f : Nat → Int32) (a ta : Nat → Nat → Int32) (g t : Nat → Int32) (gl : Nat → Int64) (bb tb : Nat → Nat → Int32), va_P D vwCl (wX cI ad f a ta) H → va_P D vwCl (wM cI cB ad2 g t gl bb tb) H → va_S (fun q : Nat => s.heap.size ≤ q) s.heap H locs → RR (q + 1) f a g bb → ∀ ls : Array Slot, lv_has ls 4 [(3, .int (nI (4 * q))), (0, .ref b), (1, .ref (ad 0)), (2, .ref (ad2 0))] → W p l e room_1 s m #[Value.ref b] below meth cd H locs 45 348 Q (F0 m 652 ls [])) (ls : Array Slot) (hl : lv_has ls 4 [(3, .int (nI (4 * q))), (0, .ref b), (1, .ref (ad 0)), (2, .ref (ad2 0))]) : W p l e room_1 s m #[Value.ref b] below meth cd H locs 45 348 Q (F0 m 508 ls []) := by
  have hbA : ¬ (fun q : Nat => s.heap.size ≤ q) b := Nat.not_le.mpr hbl
  have hAXs : ∀ q, wA 25 ad q → s.heap.size ≤ q := fun q h => by obtain ⟨k, hk, e1⟩ := h; rw [e1]; exact hAX k hk
  have hAMs : ∀ q, wA 20 ad2 q → s.heap.size ≤ q := fun q h => by obtain ⟨k, hk, e1⟩ := h; rw [e1]; exact hAM k hk
  obtain ⟨hxi, hmi, hX, hM, hp, -, -, -⟩ := id hRC
  obtain ⟨n2, c1, c2, hX2, hc2, hc26⟩ := id hxi
  refine lv_aload_n E.1 E.2.1 dL_law_508 rfl (lv_at hl 2 rfl) ?_
  refine g_VWi (As := []) (rest := []) E hK hPX hS hAXs (c_X2_forget l D cI cB ad f a ta n z c hX hIX) (cwV 0 E.2.2.2.2 gL_law_X2_forget rfl rfl rfl (by decide +kernel) ⟨Nat.le_of_ble_eq_true rfl, Nat.le_of_ble_eq_true rfl⟩) (rx hK hPX) rfl hl.1 rfl (Nat.le_of_ble_eq_true rfl) dL_law_509 ⟨Nat.le_of_ble_eq_true rfl, Nat.le_of_ble_eq_true rfl⟩ (fun r1 u1 H1 locs hp1 hP1 hq1 hS => ?_)
  obtain rfl : r1 = (FX2_forget f a ta n z c).1 := congrArg Prod.fst hp1
  obtain rfl : u1 = (FX2_forget f a ta n z c).2 := congrArg Prod.snd hp1
  have hPM : va_P D vwCl (wM cI cB ad2 g t gl bb tb) H1 := hPM.kept (fun k q hq9 => hq1 q.1 ((hPM k q hq9).lt) (fun h => by obtain ⟨k1, hk1, e1⟩ := h; obtain ⟨k2, e2⟩ := w_key (wM_fst cI cB ad2 g t gl bb tb) hq9; exact hXM k1 k hk1 k2 (e1.symm.trans e2)))
  have hPX : va_P D vwCl (wX cI ad (FX2_forget f a ta n z c).2.1 (FX2_forget f a ta n z c).2.2.1 (FX2_forget f a ta n z c).2.2.2) H1 := hP1
  clear hP1
  generalize H1 = H at hPX hPM hS ⊢
  refine lv_pop E.1 E.2.1 dL_law_512 rfl ?_
  refine lv_aload_n E.1 E.2.1 dL_law_513 rfl (lv_at hl 3 rfl) ?_
  refine g_VWi (As := []) (rest := []) E hK hPM hS hAMs (c_X3_forget l D cI cB ad2 g t gl bb tb n z c hM hIM) (cwV 0 E.2.2.2.2 gL_law_X3_forget rfl rfl rfl (by decide +kernel) ⟨Nat.le_of_ble_eq_true rfl, Nat.le_of_ble_eq_true rfl⟩) (rm0x hK hPM) rfl hl.1 rfl (Nat.le_of_ble_eq_true rfl) dL_law_514 ⟨Nat.le_of_ble_eq_true rfl, Nat.le_of_ble_eq_true rfl⟩ (fun r2 u2 H1 locs hp2 hP1 hq2 hS => ?_)
  obtain rfl : r2 = (FX3_forget g t gl bb tb n z c).1 := congrArg Prod.fst hp2
  obtain rfl : u2 = (FX3_forget g t gl bb tb n z c).2 := congrArg Prod.snd hp2
  have hPX : va_P D vwCl (wX cI ad (FX2_forget f a ta n z c).2.1 (FX2_forget f a ta n z c).2.2.1 (FX2_forget f a ta n z c).2.2.2) H1 := hPX.kept (fun k q hq9 => hq2 q.1 ((hPX k q hq9).lt) (fun h => by obtain ⟨k1, hk1, e1⟩ := h; obtain ⟨k2, e2⟩ := w_key (wX_fst ..) hq9; exact hXM k k1 k2 hk1 (e2.symm.trans e1)))
  have hPM : va_P D vwCl (wM cI cB ad2 (FX3_forget g t gl bb tb n z c).2.1 (FX3_forget g t gl bb tb n z c).2.2.1 (FX3_forget g t gl bb tb n z c).2.2.2.1 (FX3_forget g t gl bb tb n z c).2.2.2.2.1 (FX3_forget g t gl bb tb n z c).2.2.2.2.2) H1 := hP1
  clear hP1
  generalize H1 = H at hPX hPM hS ⊢
  refine lv_pop E.1 E.2.1 dL_law_517 rfl ?_
  refine lv_goto (tgt := 652) E.1 E.2.1 dL_law_518 (by decide) ?_
  exact hend _ _ _ _ _ _ _ _ _ _ hPX hPM hS ((rr_forget (ta := ta) (t := t) (gl := gl) (tb := tb) hRC).2) ls hl
set_option maxHeartbeats 4000000 in
set_option maxRecDepth 100000 in
/-- the law at suns -/
theorem law_15 {p : Program} {e : Env} {s : State} {m : MethodId} {below : List Frame} {meth : Method} {cd : Code} (l : Launch) {b L : Nat} {xs : Nat → Int32} {D : va_G} {cI cB : ClassId} {ad ad2 : Nat → Nat} {aS aV : Nat} {Q : State → Prop} (E : CallFix p m cd cL_law 4 s #[Value.ref b] wsL_law RL) (hXs : va_X b L xs s s.heap) (hbl : b < s.heap.size) (hK : wK D cI cB s) (hIX : wI 25 ad) (hIM : wI 20 ad2) (hAX : ∀ k : Nat, k < 25 → s.heap.size ≤ ad k) (hAM : ∀ k : Nat, k < 20 → s.heap.size ≤ ad2 k) (hXM : ∀ j k : Nat, j < 25 → k < 20 → ad j ≠ ad2 k) (hZ : zS aS aV (fun q : Nat => s.heap.size ≤ q) s s.heap) {H : Heap} {locs : List Loc} {f : Nat → Int32} {a ta : Nat → Nat → Int32} {g t : Nat → Int32} {gl : Nat → Int64} {bb tb : Nat → Nat → Int32} (hPX : va_P D vwCl (wX cI ad f a ta) H) (hPM : va_P D vwCl (wM cI cB ad2 g t gl bb tb) H) (hS : va_S (fun q : Nat => s.heap.size ≤ q) s.heap H locs) {q n z c : Nat} (hq : 4 * q + 4 ≤ L) (hL : L ≤ 256) (hRC : RC q n z c f a g bb) (hend : ∀ (H : Heap) (locs : List Loc) (f : Nat → Int32) (a ta : Nat → Nat → Int32) (g t : Nat → Int32) (gl : Nat → Int64) (bb tb : Nat → Nat → Int32), va_P D vwCl (wX cI ad f a ta) H → va_P D vwCl (wM cI cB ad2 g t gl bb tb) H → va_S (fun q : Nat => s.heap.size ≤ q) s.heap H locs → RR (q + 1) f a g bb → ∀ ls : Array Slot, lv_has ls 4 [(3, .int (nI (4 * q))), (0, .ref b), (1, .ref (ad 0)), (2, .ref (ad2 0))] → W p l e room_1 s m #[Value.ref b] below meth cd H locs 45 348 Q (F0 m 652 ls [])) (ls : Array Slot) (hl : lv_has ls 4 [(3, .int (nI (4 * q))), (0, .ref b), (1, .ref (ad 0)), (2, .ref (ad2 0))]) : W p l e room_1 s m #[Value.ref b] below meth cd H locs 45 348 Q (F0 m 521 ls []) := by
  have hbA : ¬ (fun q : Nat => s.heap.size ≤ q) b := Nat.not_le.mpr hbl
  have hAXs : ∀ q, wA 25 ad q → s.heap.size ≤ q := fun q h => by obtain ⟨k, hk, e1⟩ := h; rw [e1]; exact hAX k hk
  have hAMs : ∀ q, wA 20 ad2 q → s.heap.size ≤ q := fun q h => by obtain ⟨k, hk, e1⟩ := h; rw [e1]; exact hAM k hk
  obtain ⟨hxi, hmi, hX, hM, hp, -, -, -⟩ := id hRC
  obtain ⟨n2, c1, c2, hX2, hc2, hc26⟩ := id hxi
  refine lv_aload_n E.1 E.2.1 dL_law_521 rfl (lv_at hl 2 rfl) ?_
  refine g_VR (As := []) (rest := []) E hK hPX (c_X2_suns l D cI cB ad f a ta n z c hX) (cwV 0 E.2.2.2.2 gL_law_X2_suns rfl rfl rfl (by decide +kernel) ⟨Nat.le_of_ble_eq_true rfl, Nat.le_of_ble_eq_true rfl⟩) (rx hK hPX) rfl hl.1 rfl (Nat.le_of_ble_eq_true rfl) dL_law_522 ⟨Nat.le_of_ble_eq_true rfl, Nat.le_of_ble_eq_true rfl⟩ ?_
  refine lv_pop E.1 E.2.1 dL_law_525 rfl ?_
  refine lv_aload_n E.1 E.2.1 dL_law_526 rfl (lv_at hl 3 rfl) ?_
  refine g_VR (As := []) (rest := []) E hK hPM (c_X3_suns l D cI cB ad2 g t gl bb tb n z c hM) (cwV 0 E.2.2.2.2 gL_law_X3_suns rfl rfl rfl (by decide +kernel) ⟨Nat.le_of_ble_eq_true rfl, Nat.le_of_ble_eq_true rfl⟩) (rm0x hK hPM) rfl hl.1 rfl (Nat.le_of_ble_eq_true rfl) dL_law_527 ⟨Nat.le_of_ble_eq_true rfl, Nat.le_of_ble_eq_true rfl⟩ ?_
  refine lv_pop E.1 E.2.1 dL_law_530 rfl ?_
  refine lv_goto (tgt := 652) E.1 E.2.1 dL_law_531 (by decide) ?_
  exact hend _ _ _ _ _ _ _ _ _ _ hPX hPM hS (RR_mono ⟨n, z, c, hRC⟩) ls hl
set_option maxHeartbeats 4000000 in
set_option maxRecDepth 100000 in
/-- the law at look -/
theorem law_16 {p : Program} {e : Env} {s : State} {m : MethodId} {below : List Frame} {meth : Method} {cd : Code} (l : Launch) {b L : Nat} {xs : Nat → Int32} {D : va_G} {cI cB : ClassId} {ad ad2 : Nat → Nat} {aS aV : Nat} {Q : State → Prop} (E : CallFix p m cd cL_law 4 s #[Value.ref b] wsL_law RL) (hXs : va_X b L xs s s.heap) (hbl : b < s.heap.size) (hK : wK D cI cB s) (hIX : wI 25 ad) (hIM : wI 20 ad2) (hAX : ∀ k : Nat, k < 25 → s.heap.size ≤ ad k) (hAM : ∀ k : Nat, k < 20 → s.heap.size ≤ ad2 k) (hXM : ∀ j k : Nat, j < 25 → k < 20 → ad j ≠ ad2 k) (hZ : zS aS aV (fun q : Nat => s.heap.size ≤ q) s s.heap) {H : Heap} {locs : List Loc} {f : Nat → Int32} {a ta : Nat → Nat → Int32} {g t : Nat → Int32} {gl : Nat → Int64} {bb tb : Nat → Nat → Int32} (hPX : va_P D vwCl (wX cI ad f a ta) H) (hPM : va_P D vwCl (wM cI cB ad2 g t gl bb tb) H) (hS : va_S (fun q : Nat => s.heap.size ≤ q) s.heap H locs) {q n z c : Nat} (hq : 4 * q + 4 ≤ L) (hL : L ≤ 256) (hRC : RC q n z c f a g bb) (hend : ∀ (H : Heap) (locs : List Loc) (f : Nat → Int32) (a ta : Nat → Nat → Int32) (g t : Nat → Int32) (gl : Nat → Int64) (bb tb : Nat → Nat → Int32), va_P D vwCl (wX cI ad f a ta) H → va_P D vwCl (wM cI cB ad2 g t gl bb tb) H → va_S (fun q : Nat => s.heap.size ≤ q) s.heap H locs → RR (q + 1) f a g bb → ∀ ls : Array Slot, lv_has ls 4 [(3, .int (nI (4 * q))), (0, .ref b), (1, .ref (ad 0)), (2, .ref (ad2 0))] → W p l e room_1 s m #[Value.ref b] below meth cd H locs 45 348 Q (F0 m 652 ls [])) (ls : Array Slot) (hl : lv_has ls 4 [(3, .int (nI (4 * q))), (0, .ref b), (1, .ref (ad 0)), (2, .ref (ad2 0))]) : W p l e room_1 s m #[Value.ref b] below meth cd H locs 45 348 Q (F0 m 534 ls []) := by
  have hbA : ¬ (fun q : Nat => s.heap.size ≤ q) b := Nat.not_le.mpr hbl
  have hAXs : ∀ q, wA 25 ad q → s.heap.size ≤ q := fun q h => by obtain ⟨k, hk, e1⟩ := h; rw [e1]; exact hAX k hk
  have hAMs : ∀ q, wA 20 ad2 q → s.heap.size ≤ q := fun q h => by obtain ⟨k, hk, e1⟩ := h; rw [e1]; exact hAM k hk
  obtain ⟨hxi, hmi, hX, hM, hp, -, -, -⟩ := id hRC
  obtain ⟨n2, c1, c2, hX2, hc2, hc26⟩ := id hxi
  refine lv_aload_n E.1 E.2.1 dL_law_534 rfl (lv_at hl 2 rfl) ?_
  refine g_VR (As := []) (rest := []) E hK hPX (c_X2_look l D cI cB ad f a ta n z c hX) (cwV 0 E.2.2.2.2 gL_law_X2_look rfl rfl rfl (by decide +kernel) ⟨Nat.le_of_ble_eq_true rfl, Nat.le_of_ble_eq_true rfl⟩) (rx hK hPX) rfl hl.1 rfl (Nat.le_of_ble_eq_true rfl) dL_law_535 ⟨Nat.le_of_ble_eq_true rfl, Nat.le_of_ble_eq_true rfl⟩ ?_
  refine lv_pop E.1 E.2.1 dL_law_538 rfl ?_
  refine lv_aload_n E.1 E.2.1 dL_law_539 rfl (lv_at hl 3 rfl) ?_
  refine g_VR (As := []) (rest := []) E hK hPM (c_X3_look l D cI cB ad2 g t gl bb tb n z c hM) (cwV 0 E.2.2.2.2 gL_law_X3_look rfl rfl rfl (by decide +kernel) ⟨Nat.le_of_ble_eq_true rfl, Nat.le_of_ble_eq_true rfl⟩) (rm0x hK hPM) rfl hl.1 rfl (Nat.le_of_ble_eq_true rfl) dL_law_540 ⟨Nat.le_of_ble_eq_true rfl, Nat.le_of_ble_eq_true rfl⟩ ?_
  refine lv_pop E.1 E.2.1 dL_law_543 rfl ?_
  refine lv_goto (tgt := 652) E.1 E.2.1 dL_law_544 (by decide) ?_
  exact hend _ _ _ _ _ _ _ _ _ _ hPX hPM hS (RR_mono ⟨n, z, c, hRC⟩) ls hl
set_option maxHeartbeats 4000000 in
set_option maxRecDepth 100000 in
/-- the law at winters -/
theorem law_17 {p : Program} {e : Env} {s : State} {m : MethodId} {below : List Frame} {meth : Method} {cd : Code} (l : Launch) {b L : Nat} {xs : Nat → Int32} {D : va_G} {cI cB : ClassId} {ad ad2 : Nat → Nat} {aS aV : Nat} {Q : State → Prop} (E : CallFix p m cd cL_law 4 s #[Value.ref b] wsL_law RL) (hXs : va_X b L xs s s.heap) (hbl : b < s.heap.size) (hK : wK D cI cB s) (hIX : wI 25 ad) (hIM : wI 20 ad2) (hAX : ∀ k : Nat, k < 25 → s.heap.size ≤ ad k) (hAM : ∀ k : Nat, k < 20 → s.heap.size ≤ ad2 k) (hXM : ∀ j k : Nat, j < 25 → k < 20 → ad j ≠ ad2 k) (hZ : zS aS aV (fun q : Nat => s.heap.size ≤ q) s s.heap) {H : Heap} {locs : List Loc} {f : Nat → Int32} {a ta : Nat → Nat → Int32} {g t : Nat → Int32} {gl : Nat → Int64} {bb tb : Nat → Nat → Int32} (hPX : va_P D vwCl (wX cI ad f a ta) H) (hPM : va_P D vwCl (wM cI cB ad2 g t gl bb tb) H) (hS : va_S (fun q : Nat => s.heap.size ≤ q) s.heap H locs) {q n z c : Nat} (hq : 4 * q + 4 ≤ L) (hL : L ≤ 256) (hRC : RC q n z c f a g bb) (hend : ∀ (H : Heap) (locs : List Loc) (f : Nat → Int32) (a ta : Nat → Nat → Int32) (g t : Nat → Int32) (gl : Nat → Int64) (bb tb : Nat → Nat → Int32), va_P D vwCl (wX cI ad f a ta) H → va_P D vwCl (wM cI cB ad2 g t gl bb tb) H → va_S (fun q : Nat => s.heap.size ≤ q) s.heap H locs → RR (q + 1) f a g bb → ∀ ls : Array Slot, lv_has ls 4 [(3, .int (nI (4 * q))), (0, .ref b), (1, .ref (ad 0)), (2, .ref (ad2 0))] → W p l e room_1 s m #[Value.ref b] below meth cd H locs 45 348 Q (F0 m 652 ls [])) (ls : Array Slot) (hl : lv_has ls 4 [(3, .int (nI (4 * q))), (0, .ref b), (1, .ref (ad 0)), (2, .ref (ad2 0))]) : W p l e room_1 s m #[Value.ref b] below meth cd H locs 45 348 Q (F0 m 547 ls []) := by
  have hbA : ¬ (fun q : Nat => s.heap.size ≤ q) b := Nat.not_le.mpr hbl
  have hAXs : ∀ q, wA 25 ad q → s.heap.size ≤ q := fun q h => by obtain ⟨k, hk, e1⟩ := h; rw [e1]; exact hAX k hk
  have hAMs : ∀ q, wA 20 ad2 q → s.heap.size ≤ q := fun q h => by obtain ⟨k, hk, e1⟩ := h; rw [e1]; exact hAM k hk
  obtain ⟨hxi, hmi, hX, hM, hp, -, -, -⟩ := id hRC
  obtain ⟨n2, c1, c2, hX2, hc2, hc26⟩ := id hxi
  refine lv_aload_n E.1 E.2.1 dL_law_547 rfl (lv_at hl 2 rfl) ?_
  refine lv_aload_n E.1 E.2.1 dL_law_548 rfl (lv_at hl 1 rfl) ?_
  refine lv_iload_n E.1 E.2.1 dL_law_549 rfl (lv_at hl 0 rfl) ?_
  refine lv_iconst (v := 1) E.1 E.2.1 dL_law_550 (by decide) ?_
  refine lv_iadd E.1 E.2.1 dL_law_551 ?_
  refine lv_topi (fun y1 ey1 => ?_)
  obtain rfl : y1 = nI (4 * q + 1) := ey1.trans (nI_1 (4 * q))
  refine va_sld (i := nI (4 * q + 1)) E.1 E.2.1 hXs hbl hbA hS (vp_in_nI (by omega) (by omega)) dL_law_552 ?_
  refine lv_topi (fun y2 ey2 => ?_)
  obtain rfl : y2 = xs (4 * q + 1) := ey2.trans (by rw [nI_clamp (show 4 * q + 1 < 2 ^ 31 by omega)])
  refine lv_aload_n E.1 E.2.1 dL_law_553 rfl (lv_at hl 1 rfl) ?_
  refine lv_iload_n E.1 E.2.1 dL_law_554 rfl (lv_at hl 0 rfl) ?_
  refine lv_iconst (v := 2) E.1 E.2.1 dL_law_555 (by decide) ?_
  refine lv_iadd E.1 E.2.1 dL_law_556 ?_
  refine lv_topi (fun y3 ey3 => ?_)
  obtain rfl : y3 = nI (4 * q + 2) := ey3.trans (nI_add (4 * q) 2)
  refine va_sld (i := nI (4 * q + 2)) E.1 E.2.1 hXs hbl hbA hS (vp_in_nI (by omega) (by omega)) dL_law_557 ?_
  refine lv_topi (fun y4 ey4 => ?_)
  obtain rfl : y4 = xs (4 * q + 2) := ey4.trans (by rw [nI_clamp (show 4 * q + 2 < 2 ^ 31 by omega)])
  refine lv_aload_n E.1 E.2.1 dL_law_558 rfl (lv_at hl 1 rfl) ?_
  refine lv_iload_n E.1 E.2.1 dL_law_559 rfl (lv_at hl 0 rfl) ?_
  refine lv_iconst (v := 3) E.1 E.2.1 dL_law_560 (by decide) ?_
  refine lv_iadd E.1 E.2.1 dL_law_561 ?_
  refine lv_topi (fun y5 ey5 => ?_)
  obtain rfl : y5 = nI (4 * q + 3) := ey5.trans (nI_add (4 * q) 3)
  refine va_sld (i := nI (4 * q + 3)) E.1 E.2.1 hXs hbl hbA hS (vp_in_nI (by omega) (by omega)) dL_law_562 ?_
  refine lv_topi (fun y6 ey6 => ?_)
  obtain rfl : y6 = xs (4 * q + 3) := ey6.trans (by rw [nI_clamp (show 4 * q + 3 < 2 ^ 31 by omega)])
  refine g_VWi (As := [.int (xs (4 * q + 1)), .int (xs (4 * q + 2)), .int (xs (4 * q + 3))]) (rest := []) E hK hPX hS hAXs (c_X2_winters l D cI cB ad f a ta n z c hX hIX (xs (4 * q + 1)) (xs (4 * q + 2)) (xs (4 * q + 3))) (cwV 3 E.2.2.2.2 gL_law_X2_winters rfl rfl rfl (by decide +kernel) ⟨Nat.le_of_ble_eq_true rfl, Nat.le_of_ble_eq_true rfl⟩) (rx hK hPX) rfl hl.1 rfl (Nat.le_of_ble_eq_true rfl) dL_law_563 ⟨Nat.le_of_ble_eq_true rfl, Nat.le_of_ble_eq_true rfl⟩ (fun r7 u7 H1 locs hp7 hP1 hq7 hS => ?_)
  obtain rfl : r7 = (FX2_winters f a ta n z c (xs (4 * q + 1)) (xs (4 * q + 2)) (xs (4 * q + 3))).1 := congrArg Prod.fst hp7
  obtain rfl : u7 = (FX2_winters f a ta n z c (xs (4 * q + 1)) (xs (4 * q + 2)) (xs (4 * q + 3))).2 := congrArg Prod.snd hp7
  have hPM : va_P D vwCl (wM cI cB ad2 g t gl bb tb) H1 := hPM.kept (fun k q hq9 => hq7 q.1 ((hPM k q hq9).lt) (fun h => by obtain ⟨k1, hk1, e1⟩ := h; obtain ⟨k2, e2⟩ := w_key (wM_fst cI cB ad2 g t gl bb tb) hq9; exact hXM k1 k hk1 k2 (e1.symm.trans e2)))
  have hPX : va_P D vwCl (wX cI ad (FX2_winters f a ta n z c (xs (4 * q + 1)) (xs (4 * q + 2)) (xs (4 * q + 3))).2.1 (FX2_winters f a ta n z c (xs (4 * q + 1)) (xs (4 * q + 2)) (xs (4 * q + 3))).2.2.1 (FX2_winters f a ta n z c (xs (4 * q + 1)) (xs (4 * q + 2)) (xs (4 * q + 3))).2.2.2) H1 := hP1
  clear hP1
  generalize H1 = H at hPX hPM hS ⊢
  refine lv_pop E.1 E.2.1 dL_law_566 rfl ?_
  refine lv_aload_n E.1 E.2.1 dL_law_567 rfl (lv_at hl 3 rfl) ?_
  refine lv_aload_n E.1 E.2.1 dL_law_568 rfl (lv_at hl 1 rfl) ?_
  refine lv_iload_n E.1 E.2.1 dL_law_569 rfl (lv_at hl 0 rfl) ?_
  refine lv_iconst (v := 1) E.1 E.2.1 dL_law_570 (by decide) ?_
  refine lv_iadd E.1 E.2.1 dL_law_571 ?_
  refine lv_topi (fun y8 ey8 => ?_)
  obtain rfl : y8 = nI (4 * q + 1) := ey8.trans (nI_1 (4 * q))
  refine va_sld (i := nI (4 * q + 1)) E.1 E.2.1 hXs hbl hbA hS (vp_in_nI (by omega) (by omega)) dL_law_572 ?_
  refine lv_topi (fun y9 ey9 => ?_)
  obtain rfl : y9 = xs (4 * q + 1) := ey9.trans (by rw [nI_clamp (show 4 * q + 1 < 2 ^ 31 by omega)])
  refine lv_aload_n E.1 E.2.1 dL_law_573 rfl (lv_at hl 1 rfl) ?_
  refine lv_iload_n E.1 E.2.1 dL_law_574 rfl (lv_at hl 0 rfl) ?_
  refine lv_iconst (v := 2) E.1 E.2.1 dL_law_575 (by decide) ?_
  refine lv_iadd E.1 E.2.1 dL_law_576 ?_
  refine lv_topi (fun y10 ey10 => ?_)
  obtain rfl : y10 = nI (4 * q + 2) := ey10.trans (nI_add (4 * q) 2)
  refine va_sld (i := nI (4 * q + 2)) E.1 E.2.1 hXs hbl hbA hS (vp_in_nI (by omega) (by omega)) dL_law_577 ?_
  refine lv_topi (fun y11 ey11 => ?_)
  obtain rfl : y11 = xs (4 * q + 2) := ey11.trans (by rw [nI_clamp (show 4 * q + 2 < 2 ^ 31 by omega)])
  refine lv_aload_n E.1 E.2.1 dL_law_578 rfl (lv_at hl 1 rfl) ?_
  refine lv_iload_n E.1 E.2.1 dL_law_579 rfl (lv_at hl 0 rfl) ?_
  refine lv_iconst (v := 3) E.1 E.2.1 dL_law_580 (by decide) ?_
  refine lv_iadd E.1 E.2.1 dL_law_581 ?_
  refine lv_topi (fun y12 ey12 => ?_)
  obtain rfl : y12 = nI (4 * q + 3) := ey12.trans (nI_add (4 * q) 3)
  refine va_sld (i := nI (4 * q + 3)) E.1 E.2.1 hXs hbl hbA hS (vp_in_nI (by omega) (by omega)) dL_law_582 ?_
  refine lv_topi (fun y13 ey13 => ?_)
  obtain rfl : y13 = xs (4 * q + 3) := ey13.trans (by rw [nI_clamp (show 4 * q + 3 < 2 ^ 31 by omega)])
  refine g_VWi (As := [.int (xs (4 * q + 1)), .int (xs (4 * q + 2)), .int (xs (4 * q + 3))]) (rest := []) E hK hPM hS hAMs (c_X3_winters l D cI cB ad2 g t gl bb tb n z c hM hIM (xs (4 * q + 1)) (xs (4 * q + 2)) (xs (4 * q + 3))) (cwV 3 E.2.2.2.2 gL_law_X3_winters rfl rfl rfl (by decide +kernel) ⟨Nat.le_of_ble_eq_true rfl, Nat.le_of_ble_eq_true rfl⟩) (rm0x hK hPM) rfl hl.1 rfl (Nat.le_of_ble_eq_true rfl) dL_law_583 ⟨Nat.le_of_ble_eq_true rfl, Nat.le_of_ble_eq_true rfl⟩ (fun r14 u14 H1 locs hp14 hP1 hq14 hS => ?_)
  obtain rfl : r14 = (FX3_winters g t gl bb tb n z c (xs (4 * q + 1)) (xs (4 * q + 2)) (xs (4 * q + 3))).1 := congrArg Prod.fst hp14
  obtain rfl : u14 = (FX3_winters g t gl bb tb n z c (xs (4 * q + 1)) (xs (4 * q + 2)) (xs (4 * q + 3))).2 := congrArg Prod.snd hp14
  have hPX : va_P D vwCl (wX cI ad (FX2_winters f a ta n z c (xs (4 * q + 1)) (xs (4 * q + 2)) (xs (4 * q + 3))).2.1 (FX2_winters f a ta n z c (xs (4 * q + 1)) (xs (4 * q + 2)) (xs (4 * q + 3))).2.2.1 (FX2_winters f a ta n z c (xs (4 * q + 1)) (xs (4 * q + 2)) (xs (4 * q + 3))).2.2.2) H1 := hPX.kept (fun k q hq9 => hq14 q.1 ((hPX k q hq9).lt) (fun h => by obtain ⟨k1, hk1, e1⟩ := h; obtain ⟨k2, e2⟩ := w_key (wX_fst ..) hq9; exact hXM k k1 k2 hk1 (e2.symm.trans e1)))
  have hPM : va_P D vwCl (wM cI cB ad2 (FX3_winters g t gl bb tb n z c (xs (4 * q + 1)) (xs (4 * q + 2)) (xs (4 * q + 3))).2.1 (FX3_winters g t gl bb tb n z c (xs (4 * q + 1)) (xs (4 * q + 2)) (xs (4 * q + 3))).2.2.1 (FX3_winters g t gl bb tb n z c (xs (4 * q + 1)) (xs (4 * q + 2)) (xs (4 * q + 3))).2.2.2.1 (FX3_winters g t gl bb tb n z c (xs (4 * q + 1)) (xs (4 * q + 2)) (xs (4 * q + 3))).2.2.2.2.1 (FX3_winters g t gl bb tb n z c (xs (4 * q + 1)) (xs (4 * q + 2)) (xs (4 * q + 3))).2.2.2.2.2) H1 := hP1
  clear hP1
  generalize H1 = H at hPX hPM hS ⊢
  refine lv_pop E.1 E.2.1 dL_law_586 rfl ?_
  refine lv_goto (tgt := 652) E.1 E.2.1 dL_law_587 (by decide) ?_
  exact hend _ _ _ _ _ _ _ _ _ _ hPX hPM hS (RR_st hRC st_winX st_winM) ls hl
set_option maxHeartbeats 4000000 in
set_option maxRecDepth 100000 in
/-- the law at image -/
theorem law_18 {p : Program} {e : Env} {s : State} {m : MethodId} {below : List Frame} {meth : Method} {cd : Code} (l : Launch) {b L : Nat} {xs : Nat → Int32} {D : va_G} {cI cB : ClassId} {ad ad2 : Nat → Nat} {aS aV : Nat} {Q : State → Prop} (E : CallFix p m cd cL_law 4 s #[Value.ref b] wsL_law RL) (hXs : va_X b L xs s s.heap) (hbl : b < s.heap.size) (hK : wK D cI cB s) (hIX : wI 25 ad) (hIM : wI 20 ad2) (hAX : ∀ k : Nat, k < 25 → s.heap.size ≤ ad k) (hAM : ∀ k : Nat, k < 20 → s.heap.size ≤ ad2 k) (hXM : ∀ j k : Nat, j < 25 → k < 20 → ad j ≠ ad2 k) (hZ : zS aS aV (fun q : Nat => s.heap.size ≤ q) s s.heap) {H : Heap} {locs : List Loc} {f : Nat → Int32} {a ta : Nat → Nat → Int32} {g t : Nat → Int32} {gl : Nat → Int64} {bb tb : Nat → Nat → Int32} (hPX : va_P D vwCl (wX cI ad f a ta) H) (hPM : va_P D vwCl (wM cI cB ad2 g t gl bb tb) H) (hS : va_S (fun q : Nat => s.heap.size ≤ q) s.heap H locs) {q n z c : Nat} (hq : 4 * q + 4 ≤ L) (hL : L ≤ 256) (hRC : RC q n z c f a g bb) (hend : ∀ (H : Heap) (locs : List Loc) (f : Nat → Int32) (a ta : Nat → Nat → Int32) (g t : Nat → Int32) (gl : Nat → Int64) (bb tb : Nat → Nat → Int32), va_P D vwCl (wX cI ad f a ta) H → va_P D vwCl (wM cI cB ad2 g t gl bb tb) H → va_S (fun q : Nat => s.heap.size ≤ q) s.heap H locs → RR (q + 1) f a g bb → ∀ ls : Array Slot, lv_has ls 4 [(3, .int (nI (4 * q))), (0, .ref b), (1, .ref (ad 0)), (2, .ref (ad2 0))] → W p l e room_1 s m #[Value.ref b] below meth cd H locs 45 348 Q (F0 m 652 ls [])) (ls : Array Slot) (hl : lv_has ls 4 [(3, .int (nI (4 * q))), (0, .ref b), (1, .ref (ad 0)), (2, .ref (ad2 0))]) : W p l e room_1 s m #[Value.ref b] below meth cd H locs 45 348 Q (F0 m 590 ls []) := by
  have hbA : ¬ (fun q : Nat => s.heap.size ≤ q) b := Nat.not_le.mpr hbl
  have hAXs : ∀ q, wA 25 ad q → s.heap.size ≤ q := fun q h => by obtain ⟨k, hk, e1⟩ := h; rw [e1]; exact hAX k hk
  have hAMs : ∀ q, wA 20 ad2 q → s.heap.size ≤ q := fun q h => by obtain ⟨k, hk, e1⟩ := h; rw [e1]; exact hAM k hk
  obtain ⟨hxi, hmi, hX, hM, hp, -, -, -⟩ := id hRC
  obtain ⟨n2, c1, c2, hX2, hc2, hc26⟩ := id hxi
  refine lv_aload_n E.1 E.2.1 dL_law_590 rfl (lv_at hl 2 rfl) ?_
  refine g_VWi (As := []) (rest := []) E hK hPX hS hAXs (c_X2_image l D cI cB ad f a ta n z c hX hIX) (cwV 0 E.2.2.2.2 gL_law_X2_image rfl rfl rfl (by decide +kernel) ⟨Nat.le_of_ble_eq_true rfl, Nat.le_of_ble_eq_true rfl⟩) (rx hK hPX) rfl hl.1 rfl (Nat.le_of_ble_eq_true rfl) dL_law_591 ⟨Nat.le_of_ble_eq_true rfl, Nat.le_of_ble_eq_true rfl⟩ (fun r1 u1 H1 locs hp1 hP1 hq1 hS => ?_)
  obtain rfl : r1 = (FX2_image f a ta n z c).1 := congrArg Prod.fst hp1
  obtain rfl : u1 = (FX2_image f a ta n z c).2 := congrArg Prod.snd hp1
  have hPM : va_P D vwCl (wM cI cB ad2 g t gl bb tb) H1 := hPM.kept (fun k q hq9 => hq1 q.1 ((hPM k q hq9).lt) (fun h => by obtain ⟨k1, hk1, e1⟩ := h; obtain ⟨k2, e2⟩ := w_key (wM_fst cI cB ad2 g t gl bb tb) hq9; exact hXM k1 k hk1 k2 (e1.symm.trans e2)))
  have hPX : va_P D vwCl (wX cI ad (FX2_image f a ta n z c).2.1 (FX2_image f a ta n z c).2.2.1 (FX2_image f a ta n z c).2.2.2) H1 := hP1
  clear hP1
  generalize H1 = H at hPX hPM hS ⊢
  refine lv_pop E.1 E.2.1 dL_law_594 rfl ?_
  refine lv_aload_n E.1 E.2.1 dL_law_595 rfl (lv_at hl 3 rfl) ?_
  refine g_VWi (As := []) (rest := []) E hK hPM hS hAMs (c_X3_image l D cI cB ad2 g t gl bb tb n z c hM hIM) (cwV 0 E.2.2.2.2 gL_law_X3_image rfl rfl rfl (by decide +kernel) ⟨Nat.le_of_ble_eq_true rfl, Nat.le_of_ble_eq_true rfl⟩) (rm0x hK hPM) rfl hl.1 rfl (Nat.le_of_ble_eq_true rfl) dL_law_596 ⟨Nat.le_of_ble_eq_true rfl, Nat.le_of_ble_eq_true rfl⟩ (fun r2 u2 H1 locs hp2 hP1 hq2 hS => ?_)
  obtain rfl : r2 = (FX3_image g t gl bb tb n z c).1 := congrArg Prod.fst hp2
  obtain rfl : u2 = (FX3_image g t gl bb tb n z c).2 := congrArg Prod.snd hp2
  have hPX : va_P D vwCl (wX cI ad (FX2_image f a ta n z c).2.1 (FX2_image f a ta n z c).2.2.1 (FX2_image f a ta n z c).2.2.2) H1 := hPX.kept (fun k q hq9 => hq2 q.1 ((hPX k q hq9).lt) (fun h => by obtain ⟨k1, hk1, e1⟩ := h; obtain ⟨k2, e2⟩ := w_key (wX_fst ..) hq9; exact hXM k k1 k2 hk1 (e2.symm.trans e1)))
  have hPM : va_P D vwCl (wM cI cB ad2 (FX3_image g t gl bb tb n z c).2.1 (FX3_image g t gl bb tb n z c).2.2.1 (FX3_image g t gl bb tb n z c).2.2.2.1 (FX3_image g t gl bb tb n z c).2.2.2.2.1 (FX3_image g t gl bb tb n z c).2.2.2.2.2) H1 := hP1
  clear hP1
  generalize H1 = H at hPX hPM hS ⊢
  refine lv_pop E.1 E.2.1 dL_law_599 rfl ?_
  refine lv_goto (tgt := 652) E.1 E.2.1 dL_law_600 (by decide) ?_
  exact hend _ _ _ _ _ _ _ _ _ _ hPX hPM hS ((rr_image (ta := ta) (t := t) (gl := gl) (tb := tb) hRC).2) ls hl
set_option maxHeartbeats 4000000 in
set_option maxRecDepth 100000 in
/-- the law at restore -/
theorem law_19 {p : Program} {e : Env} {s : State} {m : MethodId} {below : List Frame} {meth : Method} {cd : Code} (l : Launch) {b L : Nat} {xs : Nat → Int32} {D : va_G} {cI cB : ClassId} {ad ad2 : Nat → Nat} {aS aV : Nat} {Q : State → Prop} (E : CallFix p m cd cL_law 4 s #[Value.ref b] wsL_law RL) (hXs : va_X b L xs s s.heap) (hbl : b < s.heap.size) (hK : wK D cI cB s) (hIX : wI 25 ad) (hIM : wI 20 ad2) (hAX : ∀ k : Nat, k < 25 → s.heap.size ≤ ad k) (hAM : ∀ k : Nat, k < 20 → s.heap.size ≤ ad2 k) (hXM : ∀ j k : Nat, j < 25 → k < 20 → ad j ≠ ad2 k) (hZ : zS aS aV (fun q : Nat => s.heap.size ≤ q) s s.heap) {H : Heap} {locs : List Loc} {f : Nat → Int32} {a ta : Nat → Nat → Int32} {g t : Nat → Int32} {gl : Nat → Int64} {bb tb : Nat → Nat → Int32} (hPX : va_P D vwCl (wX cI ad f a ta) H) (hPM : va_P D vwCl (wM cI cB ad2 g t gl bb tb) H) (hS : va_S (fun q : Nat => s.heap.size ≤ q) s.heap H locs) {q n z c : Nat} (hq : 4 * q + 4 ≤ L) (hL : L ≤ 256) (hRC : RC q n z c f a g bb) (hend : ∀ (H : Heap) (locs : List Loc) (f : Nat → Int32) (a ta : Nat → Nat → Int32) (g t : Nat → Int32) (gl : Nat → Int64) (bb tb : Nat → Nat → Int32), va_P D vwCl (wX cI ad f a ta) H → va_P D vwCl (wM cI cB ad2 g t gl bb tb) H → va_S (fun q : Nat => s.heap.size ≤ q) s.heap H locs → RR (q + 1) f a g bb → ∀ ls : Array Slot, lv_has ls 4 [(3, .int (nI (4 * q))), (0, .ref b), (1, .ref (ad 0)), (2, .ref (ad2 0))] → W p l e room_1 s m #[Value.ref b] below meth cd H locs 45 348 Q (F0 m 652 ls [])) (ls : Array Slot) (hl : lv_has ls 4 [(3, .int (nI (4 * q))), (0, .ref b), (1, .ref (ad 0)), (2, .ref (ad2 0))]) : W p l e room_1 s m #[Value.ref b] below meth cd H locs 45 348 Q (F0 m 603 ls []) := by
  have hbA : ¬ (fun q : Nat => s.heap.size ≤ q) b := Nat.not_le.mpr hbl
  have hAXs : ∀ q, wA 25 ad q → s.heap.size ≤ q := fun q h => by obtain ⟨k, hk, e1⟩ := h; rw [e1]; exact hAX k hk
  have hAMs : ∀ q, wA 20 ad2 q → s.heap.size ≤ q := fun q h => by obtain ⟨k, hk, e1⟩ := h; rw [e1]; exact hAM k hk
  obtain ⟨hxi, hmi, hX, hM, hp, -, -, -⟩ := id hRC
  obtain ⟨n2, c1, c2, hX2, hc2, hc26⟩ := id hxi
  refine lv_aload_n E.1 E.2.1 dL_law_603 rfl (lv_at hl 2 rfl) ?_
  refine g_VWi (As := []) (rest := []) E hK hPX hS hAXs (c_X2_restore l D cI cB ad f a ta n z c hX hIX c2 hc2 hc26) (cwV 0 E.2.2.2.2 gL_law_X2_restore rfl rfl rfl (by decide +kernel) ⟨Nat.le_of_ble_eq_true rfl, Nat.le_of_ble_eq_true rfl⟩) (rx hK hPX) rfl hl.1 rfl (Nat.le_of_ble_eq_true rfl) dL_law_604 ⟨Nat.le_of_ble_eq_true rfl, Nat.le_of_ble_eq_true rfl⟩ (fun r1 u1 H1 locs hp1 hP1 hq1 hS => ?_)
  obtain rfl : r1 = (FX2_restore f a ta n z c c2).1 := congrArg Prod.fst hp1
  obtain rfl : u1 = (FX2_restore f a ta n z c c2).2 := congrArg Prod.snd hp1
  have hPM : va_P D vwCl (wM cI cB ad2 g t gl bb tb) H1 := hPM.kept (fun k q hq9 => hq1 q.1 ((hPM k q hq9).lt) (fun h => by obtain ⟨k1, hk1, e1⟩ := h; obtain ⟨k2, e2⟩ := w_key (wM_fst cI cB ad2 g t gl bb tb) hq9; exact hXM k1 k hk1 k2 (e1.symm.trans e2)))
  have hPX : va_P D vwCl (wX cI ad (FX2_restore f a ta n z c c2).2.1 (FX2_restore f a ta n z c c2).2.2.1 (FX2_restore f a ta n z c c2).2.2.2) H1 := hP1
  clear hP1
  generalize H1 = H at hPX hPM hS ⊢
  refine lv_pop E.1 E.2.1 dL_law_607 rfl ?_
  refine lv_aload_n E.1 E.2.1 dL_law_608 rfl (lv_at hl 3 rfl) ?_
  refine g_VWi (As := []) (rest := []) E hK hPM hS hAMs (c_X3_restore l D cI cB ad2 g t gl bb tb n z c hM hIM) (cwV 0 E.2.2.2.2 gL_law_X3_restore rfl rfl rfl (by decide +kernel) ⟨Nat.le_of_ble_eq_true rfl, Nat.le_of_ble_eq_true rfl⟩) (rm0x hK hPM) rfl hl.1 rfl (Nat.le_of_ble_eq_true rfl) dL_law_609 ⟨Nat.le_of_ble_eq_true rfl, Nat.le_of_ble_eq_true rfl⟩ (fun r2 u2 H1 locs hp2 hP1 hq2 hS => ?_)
  obtain rfl : r2 = (FX3_restore g t gl bb tb n z c).1 := congrArg Prod.fst hp2
  obtain rfl : u2 = (FX3_restore g t gl bb tb n z c).2 := congrArg Prod.snd hp2
  have hPX : va_P D vwCl (wX cI ad (FX2_restore f a ta n z c c2).2.1 (FX2_restore f a ta n z c c2).2.2.1 (FX2_restore f a ta n z c c2).2.2.2) H1 := hPX.kept (fun k q hq9 => hq2 q.1 ((hPX k q hq9).lt) (fun h => by obtain ⟨k1, hk1, e1⟩ := h; obtain ⟨k2, e2⟩ := w_key (wX_fst ..) hq9; exact hXM k k1 k2 hk1 (e2.symm.trans e1)))
  have hPM : va_P D vwCl (wM cI cB ad2 (FX3_restore g t gl bb tb n z c).2.1 (FX3_restore g t gl bb tb n z c).2.2.1 (FX3_restore g t gl bb tb n z c).2.2.2.1 (FX3_restore g t gl bb tb n z c).2.2.2.2.1 (FX3_restore g t gl bb tb n z c).2.2.2.2.2) H1 := hP1
  clear hP1
  generalize H1 = H at hPX hPM hS ⊢
  refine lv_pop E.1 E.2.1 dL_law_612 rfl ?_
  refine lv_goto (tgt := 652) E.1 E.2.1 dL_law_613 (by decide) ?_
  exact hend _ _ _ _ _ _ _ _ _ _ hPX hPM hS ((rr_restore (ta := ta) (t := t) (gl := gl) (tb := tb) hc2 hc26 hRC).2) ls hl
set_option maxHeartbeats 4000000 in
set_option maxRecDepth 100000 in
/-- the law at count -/
theorem law_20 {p : Program} {e : Env} {s : State} {m : MethodId} {below : List Frame} {meth : Method} {cd : Code} (l : Launch) {b L : Nat} {xs : Nat → Int32} {D : va_G} {cI cB : ClassId} {ad ad2 : Nat → Nat} {aS aV : Nat} {Q : State → Prop} (E : CallFix p m cd cL_law 4 s #[Value.ref b] wsL_law RL) (hXs : va_X b L xs s s.heap) (hbl : b < s.heap.size) (hK : wK D cI cB s) (hIX : wI 25 ad) (hIM : wI 20 ad2) (hAX : ∀ k : Nat, k < 25 → s.heap.size ≤ ad k) (hAM : ∀ k : Nat, k < 20 → s.heap.size ≤ ad2 k) (hXM : ∀ j k : Nat, j < 25 → k < 20 → ad j ≠ ad2 k) (hZ : zS aS aV (fun q : Nat => s.heap.size ≤ q) s s.heap) {H : Heap} {locs : List Loc} {f : Nat → Int32} {a ta : Nat → Nat → Int32} {g t : Nat → Int32} {gl : Nat → Int64} {bb tb : Nat → Nat → Int32} (hPX : va_P D vwCl (wX cI ad f a ta) H) (hPM : va_P D vwCl (wM cI cB ad2 g t gl bb tb) H) (hS : va_S (fun q : Nat => s.heap.size ≤ q) s.heap H locs) {q n z c : Nat} (hq : 4 * q + 4 ≤ L) (hL : L ≤ 256) (hRC : RC q n z c f a g bb) (hend : ∀ (H : Heap) (locs : List Loc) (f : Nat → Int32) (a ta : Nat → Nat → Int32) (g t : Nat → Int32) (gl : Nat → Int64) (bb tb : Nat → Nat → Int32), va_P D vwCl (wX cI ad f a ta) H → va_P D vwCl (wM cI cB ad2 g t gl bb tb) H → va_S (fun q : Nat => s.heap.size ≤ q) s.heap H locs → RR (q + 1) f a g bb → ∀ ls : Array Slot, lv_has ls 4 [(3, .int (nI (4 * q))), (0, .ref b), (1, .ref (ad 0)), (2, .ref (ad2 0))] → W p l e room_1 s m #[Value.ref b] below meth cd H locs 45 348 Q (F0 m 652 ls [])) (ls : Array Slot) (hl : lv_has ls 4 [(3, .int (nI (4 * q))), (0, .ref b), (1, .ref (ad 0)), (2, .ref (ad2 0))]) : W p l e room_1 s m #[Value.ref b] below meth cd H locs 45 348 Q (F0 m 616 ls []) := by
  have hbA : ¬ (fun q : Nat => s.heap.size ≤ q) b := Nat.not_le.mpr hbl
  have hAXs : ∀ q, wA 25 ad q → s.heap.size ≤ q := fun q h => by obtain ⟨k, hk, e1⟩ := h; rw [e1]; exact hAX k hk
  have hAMs : ∀ q, wA 20 ad2 q → s.heap.size ≤ q := fun q h => by obtain ⟨k, hk, e1⟩ := h; rw [e1]; exact hAM k hk
  obtain ⟨hxi, hmi, hX, hM, hp, -, -, -⟩ := id hRC
  obtain ⟨n2, c1, c2, hX2, hc2, hc26⟩ := id hxi
  refine lv_aload_n E.1 E.2.1 dL_law_616 rfl (lv_at hl 2 rfl) ?_
  refine lv_aload_n E.1 E.2.1 dL_law_617 rfl (lv_at hl 1 rfl) ?_
  refine lv_iload_n E.1 E.2.1 dL_law_618 rfl (lv_at hl 0 rfl) ?_
  refine lv_iconst (v := 1) E.1 E.2.1 dL_law_619 (by decide) ?_
  refine lv_iadd E.1 E.2.1 dL_law_620 ?_
  refine lv_topi (fun y1 ey1 => ?_)
  obtain rfl : y1 = nI (4 * q + 1) := ey1.trans (nI_1 (4 * q))
  refine va_sld (i := nI (4 * q + 1)) E.1 E.2.1 hXs hbl hbA hS (vp_in_nI (by omega) (by omega)) dL_law_621 ?_
  refine lv_topi (fun y2 ey2 => ?_)
  obtain rfl : y2 = xs (4 * q + 1) := ey2.trans (by rw [nI_clamp (show 4 * q + 1 < 2 ^ 31 by omega)])
  refine g_VR (As := [.int (xs (4 * q + 1))]) (rest := []) E hK hPX (c_X2_count l D cI cB ad f a ta n z c hX (xs (4 * q + 1))) (cwV 1 E.2.2.2.2 gL_law_X2_count rfl rfl rfl (by decide +kernel) ⟨Nat.le_of_ble_eq_true rfl, Nat.le_of_ble_eq_true rfl⟩) (rx hK hPX) rfl hl.1 rfl (Nat.le_of_ble_eq_true rfl) dL_law_622 ⟨Nat.le_of_ble_eq_true rfl, Nat.le_of_ble_eq_true rfl⟩ ?_
  refine lv_aload_n E.1 E.2.1 dL_law_625 rfl (lv_at hl 3 rfl) ?_
  refine lv_aload_n E.1 E.2.1 dL_law_626 rfl (lv_at hl 1 rfl) ?_
  refine lv_iload_n E.1 E.2.1 dL_law_627 rfl (lv_at hl 0 rfl) ?_
  refine lv_iconst (v := 1) E.1 E.2.1 dL_law_628 (by decide) ?_
  refine lv_iadd E.1 E.2.1 dL_law_629 ?_
  refine lv_topi (fun y3 ey3 => ?_)
  obtain rfl : y3 = nI (4 * q + 1) := ey3.trans (nI_1 (4 * q))
  refine va_sld (i := nI (4 * q + 1)) E.1 E.2.1 hXs hbl hbA hS (vp_in_nI (by omega) (by omega)) dL_law_630 ?_
  refine lv_topi (fun y4 ey4 => ?_)
  obtain rfl : y4 = xs (4 * q + 1) := ey4.trans (by rw [nI_clamp (show 4 * q + 1 < 2 ^ 31 by omega)])
  refine g_VR (As := [.int (xs (4 * q + 1))]) (rest := [.int (FX2_count f a ta n z c (xs (4 * q + 1)))]) E hK hPM (c_X3_count l D cI cB ad2 g t gl bb tb n z c hM (xs (4 * q + 1))) (cwV 1 E.2.2.2.2 gL_law_X3_count rfl rfl rfl (by decide +kernel) ⟨Nat.le_of_ble_eq_true rfl, Nat.le_of_ble_eq_true rfl⟩) (rm0x hK hPM) rfl hl.1 rfl (Nat.le_of_ble_eq_true rfl) dL_law_631 ⟨Nat.le_of_ble_eq_true rfl, Nat.le_of_ble_eq_true rfl⟩ ?_
  refine lv_icmp_eq (x := FX2_count f a ta n z c (xs (4 * q + 1))) (y := FX3_count g bb tb n z c (xs (4 * q + 1))) (tgt := 652) E.1 E.2.1 dL_law_634 (by decide) (fun _ => ?_) (fun h9 => absurd (eq_count (ta := ta) (tb := tb) hRC) h9)
  exact hend _ _ _ _ _ _ _ _ _ _ hPX hPM hS (RR_mono ⟨n, z, c, hRC⟩) ls hl
set_option maxHeartbeats 4000000 in
set_option maxRecDepth 100000 in
/-- the law at digest -/
theorem law_21 {p : Program} {e : Env} {s : State} {m : MethodId} {below : List Frame} {meth : Method} {cd : Code} (l : Launch) {b L : Nat} {xs : Nat → Int32} {D : va_G} {cI cB : ClassId} {ad ad2 : Nat → Nat} {aS aV : Nat} {Q : State → Prop} (E : CallFix p m cd cL_law 4 s #[Value.ref b] wsL_law RL) (hXs : va_X b L xs s s.heap) (hbl : b < s.heap.size) (hK : wK D cI cB s) (hIX : wI 25 ad) (hIM : wI 20 ad2) (hAX : ∀ k : Nat, k < 25 → s.heap.size ≤ ad k) (hAM : ∀ k : Nat, k < 20 → s.heap.size ≤ ad2 k) (hXM : ∀ j k : Nat, j < 25 → k < 20 → ad j ≠ ad2 k) (hZ : zS aS aV (fun q : Nat => s.heap.size ≤ q) s s.heap) {H : Heap} {locs : List Loc} {f : Nat → Int32} {a ta : Nat → Nat → Int32} {g t : Nat → Int32} {gl : Nat → Int64} {bb tb : Nat → Nat → Int32} (hPX : va_P D vwCl (wX cI ad f a ta) H) (hPM : va_P D vwCl (wM cI cB ad2 g t gl bb tb) H) (hS : va_S (fun q : Nat => s.heap.size ≤ q) s.heap H locs) {q n z c : Nat} (hq : 4 * q + 4 ≤ L) (hL : L ≤ 256) (hRC : RC q n z c f a g bb) (hend : ∀ (H : Heap) (locs : List Loc) (f : Nat → Int32) (a ta : Nat → Nat → Int32) (g t : Nat → Int32) (gl : Nat → Int64) (bb tb : Nat → Nat → Int32), va_P D vwCl (wX cI ad f a ta) H → va_P D vwCl (wM cI cB ad2 g t gl bb tb) H → va_S (fun q : Nat => s.heap.size ≤ q) s.heap H locs → RR (q + 1) f a g bb → ∀ ls : Array Slot, lv_has ls 4 [(3, .int (nI (4 * q))), (0, .ref b), (1, .ref (ad 0)), (2, .ref (ad2 0))] → W p l e room_1 s m #[Value.ref b] below meth cd H locs 45 348 Q (F0 m 652 ls [])) (ls : Array Slot) (hl : lv_has ls 4 [(3, .int (nI (4 * q))), (0, .ref b), (1, .ref (ad 0)), (2, .ref (ad2 0))]) : W p l e room_1 s m #[Value.ref b] below meth cd H locs 45 348 Q (F0 m 639 ls []) := by
  have hbA : ¬ (fun q : Nat => s.heap.size ≤ q) b := Nat.not_le.mpr hbl
  have hAXs : ∀ q, wA 25 ad q → s.heap.size ≤ q := fun q h => by obtain ⟨k, hk, e1⟩ := h; rw [e1]; exact hAX k hk
  have hAMs : ∀ q, wA 20 ad2 q → s.heap.size ≤ q := fun q h => by obtain ⟨k, hk, e1⟩ := h; rw [e1]; exact hAM k hk
  obtain ⟨hxi, hmi, hX, hM, hp, -, -, -⟩ := id hRC
  obtain ⟨n2, c1, c2, hX2, hc2, hc26⟩ := id hxi
  refine lv_aload_n E.1 E.2.1 dL_law_639 rfl (lv_at hl 2 rfl) ?_
  refine g_VWl (As := []) (rest := []) E hK hPX hS hAXs (c_X2_digest l D cI cB ad f a ta n z c hX hIX) (cwV 0 E.2.2.2.2 gL_law_X2_digest rfl rfl rfl (by decide +kernel) ⟨Nat.le_of_ble_eq_true rfl, Nat.le_of_ble_eq_true rfl⟩) (rx hK hPX) rfl hl.1 rfl (Nat.le_of_ble_eq_true rfl) dL_law_640 ⟨Nat.le_of_ble_eq_true rfl, Nat.le_of_ble_eq_true rfl⟩ (fun r1 u1 H1 locs hp1 hP1 hq1 hS => ?_)
  obtain rfl : r1 = (FX2_digest f a ta n z c).1 := congrArg Prod.fst hp1
  obtain rfl : u1 = (FX2_digest f a ta n z c).2 := congrArg Prod.snd hp1
  have hPM : va_P D vwCl (wM cI cB ad2 g t gl bb tb) H1 := hPM.kept (fun k q hq9 => hq1 q.1 ((hPM k q hq9).lt) (fun h => by obtain ⟨k1, hk1, e1⟩ := h; obtain ⟨k2, e2⟩ := w_key (wM_fst cI cB ad2 g t gl bb tb) hq9; exact hXM k1 k hk1 k2 (e1.symm.trans e2)))
  have hPX : va_P D vwCl (wX cI ad (FX2_digest f a ta n z c).2.1 (FX2_digest f a ta n z c).2.2.1 (FX2_digest f a ta n z c).2.2.2) H1 := hP1
  clear hP1
  generalize H1 = H at hPX hPM hS ⊢
  refine lv_pop2_2 E.1 E.2.1 dL_law_643 rfl ?_
  refine lv_aload_n E.1 E.2.1 dL_law_644 rfl (lv_at hl 3 rfl) ?_
  refine g_VWl (As := []) (rest := []) E hK hPM hS hAMs (c_X3_digest l D cI cB ad2 g t gl bb tb n z c hM hIM) (cwV 0 E.2.2.2.2 gL_law_X3_digest rfl rfl rfl (by decide +kernel) ⟨Nat.le_of_ble_eq_true rfl, Nat.le_of_ble_eq_true rfl⟩) (rm0x hK hPM) rfl hl.1 rfl (Nat.le_of_ble_eq_true rfl) dL_law_645 ⟨Nat.le_of_ble_eq_true rfl, Nat.le_of_ble_eq_true rfl⟩ (fun r2 u2 H1 locs hp2 hP1 hq2 hS => ?_)
  obtain rfl : r2 = (FX3_digest g t gl bb tb n z c).1 := congrArg Prod.fst hp2
  obtain rfl : u2 = (FX3_digest g t gl bb tb n z c).2 := congrArg Prod.snd hp2
  have hPX : va_P D vwCl (wX cI ad (FX2_digest f a ta n z c).2.1 (FX2_digest f a ta n z c).2.2.1 (FX2_digest f a ta n z c).2.2.2) H1 := hPX.kept (fun k q hq9 => hq2 q.1 ((hPX k q hq9).lt) (fun h => by obtain ⟨k1, hk1, e1⟩ := h; obtain ⟨k2, e2⟩ := w_key (wX_fst ..) hq9; exact hXM k k1 k2 hk1 (e2.symm.trans e1)))
  have hPM : va_P D vwCl (wM cI cB ad2 (FX3_digest g t gl bb tb n z c).2.1 (FX3_digest g t gl bb tb n z c).2.2.1 (FX3_digest g t gl bb tb n z c).2.2.2.1 (FX3_digest g t gl bb tb n z c).2.2.2.2.1 (FX3_digest g t gl bb tb n z c).2.2.2.2.2) H1 := hP1
  clear hP1
  generalize H1 = H at hPX hPM hS ⊢
  refine lv_pop2_2 E.1 E.2.1 dL_law_648 rfl ?_
  refine lv_goto (tgt := 652) E.1 E.2.1 dL_law_649 (by decide) ?_
  exact hend _ _ _ _ _ _ _ _ _ _ hPX hPM hS (st_digest (ta := ta) (t := t) (gl := gl) (tb := tb) hRC) ls hl
set_option maxHeartbeats 4000000 in
set_option maxRecDepth 100000 in
theorem law_sw {p : Program} {e : Env} {s : State} {m : MethodId} {below : List Frame} {meth : Method} {cd : Code} (l : Launch) {b L : Nat} {xs : Nat → Int32} {D : va_G} {cI cB : ClassId} {ad ad2 : Nat → Nat} {aS aV : Nat} {Q : State → Prop} (E : CallFix p m cd cL_law 4 s #[Value.ref b] wsL_law RL) (hXs : va_X b L xs s s.heap) (hbl : b < s.heap.size) (hK : wK D cI cB s) (hIX : wI 25 ad) (hIM : wI 20 ad2) (hAX : ∀ k : Nat, k < 25 → s.heap.size ≤ ad k) (hAM : ∀ k : Nat, k < 20 → s.heap.size ≤ ad2 k) (hXM : ∀ j k : Nat, j < 25 → k < 20 → ad j ≠ ad2 k) (hZ : zS aS aV (fun q : Nat => s.heap.size ≤ q) s s.heap) {H : Heap} {locs : List Loc} {f : Nat → Int32} {a ta : Nat → Nat → Int32} {g t : Nat → Int32} {gl : Nat → Int64} {bb tb : Nat → Nat → Int32} (hPX : va_P D vwCl (wX cI ad f a ta) H) (hPM : va_P D vwCl (wM cI cB ad2 g t gl bb tb) H) (hS : va_S (fun q : Nat => s.heap.size ≤ q) s.heap H locs) {q n z c : Nat} (hq : 4 * q + 4 ≤ L) (hL : L ≤ 256) (hRC : RC q n z c f a g bb) (hend : ∀ (H : Heap) (locs : List Loc) (f : Nat → Int32) (a ta : Nat → Nat → Int32) (g t : Nat → Int32) (gl : Nat → Int64) (bb tb : Nat → Nat → Int32), va_P D vwCl (wX cI ad f a ta) H → va_P D vwCl (wM cI cB ad2 g t gl bb tb) H → va_S (fun q : Nat => s.heap.size ≤ q) s.heap H locs → RR (q + 1) f a g bb → ∀ ls : Array Slot, lv_has ls 4 [(3, .int (nI (4 * q))), (0, .ref b), (1, .ref (ad 0)), (2, .ref (ad2 0))] → W p l e room_1 s m #[Value.ref b] below meth cd H locs 45 348 Q (F0 m 652 ls [])) (ls : Array Slot) (hl : lv_has ls 4 [(3, .int (nI (4 * q))), (0, .ref b), (1, .ref (ad 0)), (2, .ref (ad2 0))]) : W p l e room_1 s m #[Value.ref b] below meth cd H locs 45 348 Q (F0 m 26 ls []) := by
  have hbA : ¬ (fun q : Nat => s.heap.size ≤ q) b := Nat.not_le.mpr hbl
  refine lv_aload_n E.1 E.2.1 dL_law_26 rfl (lv_at hl 1 rfl) ?_
  refine lv_iload_n E.1 E.2.1 dL_law_27 rfl (lv_at hl 0 rfl) ?_
  refine va_sld (i := nI (4 * q)) E.1 E.2.1 hXs hbl hbA hS (vp_in_nI (by omega) (by omega)) dL_law_28 ?_
  refine lv_bipush (v := 31) E.1 E.2.1 dL_law_29 (by decide) ?_
  refine lv_iand E.1 E.2.1 dL_law_31 ?_
  refine lv_topi (fun y ey => ?_)
  obtain ⟨j, hj, hjy⟩ := pk_andE (xs (nI (4 * q)).toNatClampNeg) (m := 31) 5 (by decide)
  rw [hjy] at ey
  subst ey
  by_cases h22 : j < 22
  · rcases (show j = 0 ∨ j = 1 ∨ j = 2 ∨ j = 3 ∨ j = 4 ∨ j = 5 ∨ j = 6 ∨ j = 7 ∨ j = 8 ∨ j = 9 ∨ j = 10 ∨ j = 11 ∨ j = 12 ∨ j = 13 ∨ j = 14 ∨ j = 15 ∨ j = 16 ∨ j = 17 ∨ j = 18 ∨ j = 19 ∨ j = 20 ∨ j = 21 by omega) with rfl | rfl | rfl | rfl | rfl | rfl | rfl | rfl | rfl | rfl | rfl | rfl | rfl | rfl | rfl | rfl | rfl | rfl | rfl | rfl | rfl | rfl
    · refine lv_tableIn (x := 0) (off := 104) (tgt := 136) E.1 E.2.1 dL_law_32 (by decide) (by decide) (by decide) (by decide) ?_
      exact law_0 l E hXs hbl hK hIX hIM hAX hAM hXM hZ hPX hPM hS hq hL hRC hend ls hl
    · refine lv_tableIn (x := 1) (off := 127) (tgt := 159) E.1 E.2.1 dL_law_32 (by decide) (by decide) (by decide) (by decide) ?_
      exact law_1 l E hXs hbl hK hIX hIM hAX hAM hXM hZ hPX hPM hS hq hL hRC hend ls hl
    · refine lv_tableIn (x := 2) (off := 140) (tgt := 172) E.1 E.2.1 dL_law_32 (by decide) (by decide) (by decide) (by decide) ?_
      exact law_2 l E hXs hbl hK hIX hIM hAX hAM hXM hZ hPX hPM hS hq hL hRC hend ls hl
    · refine lv_tableIn (x := 3) (off := 153) (tgt := 185) E.1 E.2.1 dL_law_32 (by decide) (by decide) (by decide) (by decide) ?_
      exact law_3 l E hXs hbl hK hIX hIM hAX hAM hXM hZ hPX hPM hS hq hL hRC hend ls hl
    · refine lv_tableIn (x := 4) (off := 166) (tgt := 198) E.1 E.2.1 dL_law_32 (by decide) (by decide) (by decide) (by decide) ?_
      exact law_4 l E hXs hbl hK hIX hIM hAX hAM hXM hZ hPX hPM hS hq hL hRC hend ls hl
    · refine lv_tableIn (x := 5) (off := 199) (tgt := 231) E.1 E.2.1 dL_law_32 (by decide) (by decide) (by decide) (by decide) ?_
      exact law_5 l E hXs hbl hK hIX hIM hAX hAM hXM hZ hPX hPM hS hq hL hRC hend ls hl
    · refine lv_tableIn (x := 6) (off := 232) (tgt := 264) E.1 E.2.1 dL_law_32 (by decide) (by decide) (by decide) (by decide) ?_
      exact law_6 l E hXs hbl hK hIX hIM hAX hAM hXM hZ hPX hPM hS hq hL hRC hend ls hl
    · refine lv_tableIn (x := 7) (off := 265) (tgt := 297) E.1 E.2.1 dL_law_32 (by decide) (by decide) (by decide) (by decide) ?_
      exact law_7 l E hXs hbl hK hIX hIM hAX hAM hXM hZ hPX hPM hS hq hL hRC hend ls hl
    · refine lv_tableIn (x := 8) (off := 298) (tgt := 330) E.1 E.2.1 dL_law_32 (by decide) (by decide) (by decide) (by decide) ?_
      exact law_8 l E hXs hbl hK hIX hIM hAX hAM hXM hZ hPX hPM hS hq hL hRC hend ls hl
    · refine lv_tableIn (x := 9) (off := 321) (tgt := 353) E.1 E.2.1 dL_law_32 (by decide) (by decide) (by decide) (by decide) ?_
      exact law_9 l E hXs hbl hK hIX hIM hAX hAM hXM hZ hPX hPM hS hq hL hRC hend ls hl
    · refine lv_tableIn (x := 10) (off := 334) (tgt := 366) E.1 E.2.1 dL_law_32 (by decide) (by decide) (by decide) (by decide) ?_
      exact law_10 l E hXs hbl hK hIX hIM hAX hAM hXM hZ hPX hPM hS hq hL hRC hend ls hl
    · refine lv_tableIn (x := 11) (off := 367) (tgt := 399) E.1 E.2.1 dL_law_32 (by decide) (by decide) (by decide) (by decide) ?_
      exact law_11 l E hXs hbl hK hIX hIM hAX hAM hXM hZ hPX hPM hS hq hL hRC hend ls hl
    · refine lv_tableIn (x := 12) (off := 410) (tgt := 442) E.1 E.2.1 dL_law_32 (by decide) (by decide) (by decide) (by decide) ?_
      exact law_12 l E hXs hbl hK hIX hIM hAX hAM hXM hZ hPX hPM hS hq hL hRC hend ls hl
    · refine lv_tableIn (x := 13) (off := 433) (tgt := 465) E.1 E.2.1 dL_law_32 (by decide) (by decide) (by decide) (by decide) ?_
      exact law_13 l E hXs hbl hK hIX hIM hAX hAM hXM hZ hPX hPM hS hq hL hRC hend ls hl
    · refine lv_tableIn (x := 14) (off := 476) (tgt := 508) E.1 E.2.1 dL_law_32 (by decide) (by decide) (by decide) (by decide) ?_
      exact law_14 l E hXs hbl hK hIX hIM hAX hAM hXM hZ hPX hPM hS hq hL hRC hend ls hl
    · refine lv_tableIn (x := 15) (off := 489) (tgt := 521) E.1 E.2.1 dL_law_32 (by decide) (by decide) (by decide) (by decide) ?_
      exact law_15 l E hXs hbl hK hIX hIM hAX hAM hXM hZ hPX hPM hS hq hL hRC hend ls hl
    · refine lv_tableIn (x := 16) (off := 502) (tgt := 534) E.1 E.2.1 dL_law_32 (by decide) (by decide) (by decide) (by decide) ?_
      exact law_16 l E hXs hbl hK hIX hIM hAX hAM hXM hZ hPX hPM hS hq hL hRC hend ls hl
    · refine lv_tableIn (x := 17) (off := 515) (tgt := 547) E.1 E.2.1 dL_law_32 (by decide) (by decide) (by decide) (by decide) ?_
      exact law_17 l E hXs hbl hK hIX hIM hAX hAM hXM hZ hPX hPM hS hq hL hRC hend ls hl
    · refine lv_tableIn (x := 18) (off := 558) (tgt := 590) E.1 E.2.1 dL_law_32 (by decide) (by decide) (by decide) (by decide) ?_
      exact law_18 l E hXs hbl hK hIX hIM hAX hAM hXM hZ hPX hPM hS hq hL hRC hend ls hl
    · refine lv_tableIn (x := 19) (off := 571) (tgt := 603) E.1 E.2.1 dL_law_32 (by decide) (by decide) (by decide) (by decide) ?_
      exact law_19 l E hXs hbl hK hIX hIM hAX hAM hXM hZ hPX hPM hS hq hL hRC hend ls hl
    · refine lv_tableIn (x := 20) (off := 584) (tgt := 616) E.1 E.2.1 dL_law_32 (by decide) (by decide) (by decide) (by decide) ?_
      exact law_20 l E hXs hbl hK hIX hIM hAX hAM hXM hZ hPX hPM hS hq hL hRC hend ls hl
    · refine lv_tableIn (x := 21) (off := 607) (tgt := 639) E.1 E.2.1 dL_law_32 (by decide) (by decide) (by decide) (by decide) ?_
      exact law_21 l E hXs hbl hK hIX hIM hAX hAM hXM hZ hPX hPM hS hq hL hRC hend ls hl
  · refine lv_tableOut (x := nI j) (tgt := 652) E.1 E.2.1 dL_law_32 (Or.inr (by rw [nI_toInt (by omega)]; omega)) (by decide) ?_
    exact hend _ _ _ _ _ _ _ _ _ _ hPX hPM hS (RR_mono ⟨n, z, c, hRC⟩) ls hl
