set_option maxHeartbeats 4000000 in
set_option maxRecDepth 100000 in
/-- the law at letter -/
theorem law_0 {p : Program} {e : Env} {s : State} {m : MethodId} {below : List Frame} {meth : Method} {c : Code} (l : Launch) {b : Nat} {xs : Nat → Int32} {D : va_G} {cI cB : ClassId} {ad ad2 : Nat → Nat} {Q : State → Prop} (E : CallFix p m c cL_law 4 s #[Value.ref b] wsL_law RL) (hX : va_X b 4 xs s s.heap) (hbl : b < s.heap.size) (hK : wK D cI cB s) (hIX : wI 25 ad) (hIM : wI 20 ad2) (hAX : ∀ k : Nat, k < 25 → s.heap.size ≤ ad k) (hAM : ∀ k : Nat, k < 20 → s.heap.size ≤ ad2 k) (hXM : ∀ j k : Nat, j < 25 → k < 20 → ad j ≠ ad2 k) {H : Heap} {locs : List Loc} (hPX : va_P D vwCl (wX cI ad z0 zz) H) (hPM : va_P D vwCl (wM cI cB ad2 z0 zL zz) H) (hS : va_S (fun q : Nat => s.heap.size ≤ q) s.heap H locs) (hend : ∀ (H : Heap) (locs : List Loc), va_S (fun q : Nat => s.heap.size ≤ q) s.heap H locs → ∀ ls : Array Slot, lv_has ls 4 [(3, .int 0), (0, .ref b)] → W p l e room_1 s m #[Value.ref b] below meth c H locs 45 348 Q (F0 m 653 ls [])) (ls : Array Slot) (hl : lv_has ls 4 [(3, .int 0), (0, .ref b), (1, .ref (ad 0)), (2, .ref (ad2 0))]) : W p l e room_1 s m #[Value.ref b] below meth c H locs 45 348 Q (F0 m 136 ls []) := by
  have hbA : ¬ (fun q : Nat => s.heap.size ≤ q) b := Nat.not_le.mpr hbl
  have hAXs : ∀ q, wA 25 ad q → s.heap.size ≤ q := fun q h => by obtain ⟨k, hk, e1⟩ := h; rw [e1]; exact hAX k hk
  have hAMs : ∀ q, wA 20 ad2 q → s.heap.size ≤ q := fun q h => by obtain ⟨k, hk, e1⟩ := h; rw [e1]; exact hAM k hk
  refine lv_aload_n E.1 E.2.1 dL_law_136 rfl (lv_at hl 2 rfl) ?_
  refine lv_aload_n E.1 E.2.1 dL_law_137 rfl (lv_at hl 1 rfl) ?_
  refine lv_iload_n E.1 E.2.1 dL_law_138 rfl (lv_at hl 0 rfl) ?_
  refine lv_iconst (v := 1) E.1 E.2.1 dL_law_139 (by decide) ?_
  refine lv_iadd E.1 E.2.1 dL_law_140 ?_
  refine lv_topi (fun y_1 ey_1 => ?_)
  obtain rfl : y_1 = 1 := ey_1.trans (by decide)
  refine va_sld (i := 1) E.1 E.2.1 hX hbl hbA hS (by unfold vp_in; decide) dL_law_141 ?_
  refine g_VWi (As := [.int (xs (Int32.toNatClampNeg 1))]) (rest := []) E hK hPX hS hAXs (z_X2_letter l D cI cB ad hIX (xs (Int32.toNatClampNeg 1))) (cwV 1 E.2.2.2.2 gL_law_X2_letter rfl rfl rfl (by decide +kernel) ⟨Nat.le_of_ble_eq_true rfl, Nat.le_of_ble_eq_true rfl⟩) (rx hK hPX) rfl hl.1 rfl (by decide) dL_law_142 ⟨Nat.le_of_ble_eq_true rfl, Nat.le_of_ble_eq_true rfl⟩ (fun r_3 u_2 H1 locs hp_4 hP1 hk_5 hS => ?_)
  obtain rfl := hp_4
  have hPM : va_P D vwCl (wM cI cB ad2 z0 zL zz) H1 := hPM.kept (fun k q hq => hk_5 q.1 ((hPM k q hq).lt) (fun h => by obtain ⟨k1, hk1, e1⟩ := h; obtain ⟨k2, e2⟩ := w_key (wM_fst cI cB ad2 z0 zL zz) hq; exact hXM k1 k hk1 k2 (e1.symm.trans e2)))
  generalize H1 = H at hPM hS ⊢
  refine lv_aload_n E.1 E.2.1 dL_law_145 rfl (lv_at hl 3 rfl) ?_
  refine lv_aload_n E.1 E.2.1 dL_law_146 rfl (lv_at hl 1 rfl) ?_
  refine lv_iload_n E.1 E.2.1 dL_law_147 rfl (lv_at hl 0 rfl) ?_
  refine lv_iconst (v := 1) E.1 E.2.1 dL_law_148 (by decide) ?_
  refine lv_iadd E.1 E.2.1 dL_law_149 ?_
  refine lv_topi (fun y_6 ey_6 => ?_)
  obtain rfl : y_6 = 1 := ey_6.trans (by decide)
  refine va_sld (i := 1) E.1 E.2.1 hX hbl hbA hS (by unfold vp_in; decide) dL_law_150 ?_
  refine g_VWi (As := [.int (xs (Int32.toNatClampNeg 1))]) (rest := [.int (if 32 ≤ (xs (Int32.toNatClampNeg 1)) ∧ (xs (Int32.toNatClampNeg 1)) ≤ 126 then 1 else (-102))]) E hK hPM hS hAMs (z_X3_letter l D cI cB ad2 zL hIM (xs (Int32.toNatClampNeg 1))) (cwV 1 E.2.2.2.2 gL_law_X3_letter rfl rfl rfl (by decide +kernel) ⟨Nat.le_of_ble_eq_true rfl, Nat.le_of_ble_eq_true rfl⟩) (rm0x hK hPM) rfl hl.1 rfl (Nat.le_of_ble_eq_true rfl) dL_law_151 ⟨Nat.le_of_ble_eq_true rfl, Nat.le_of_ble_eq_true rfl⟩ (fun r_8 u_7 H1 locs hp_9 hP1 hk_10 hS => ?_)
  obtain rfl := hp_9
  generalize H1 = H at hS ⊢
  refine lv_icmp_eq (x := if 32 ≤ (xs (Int32.toNatClampNeg 1)) ∧ (xs (Int32.toNatClampNeg 1)) ≤ 126 then 1 else (-102)) (y := if 32 ≤ (xs (Int32.toNatClampNeg 1)) ∧ (xs (Int32.toNatClampNeg 1)) ≤ 126 then 1 else (-102)) (tgt := 653) E.1 E.2.1 dL_law_154 (by decide) (fun _ => ?_) (fun h9 => absurd (rfl) h9)
  exact hend _ _ hS ls (lv_sub hl [0, 1] rfl)
set_option maxHeartbeats 4000000 in
set_option maxRecDepth 100000 in
/-- the law at blank -/
theorem law_1 {p : Program} {e : Env} {s : State} {m : MethodId} {below : List Frame} {meth : Method} {c : Code} (l : Launch) {b : Nat} {xs : Nat → Int32} {D : va_G} {cI cB : ClassId} {ad ad2 : Nat → Nat} {Q : State → Prop} (E : CallFix p m c cL_law 4 s #[Value.ref b] wsL_law RL) (hX : va_X b 4 xs s s.heap) (hbl : b < s.heap.size) (hK : wK D cI cB s) (hIX : wI 25 ad) (hIM : wI 20 ad2) (hAX : ∀ k : Nat, k < 25 → s.heap.size ≤ ad k) (hAM : ∀ k : Nat, k < 20 → s.heap.size ≤ ad2 k) (hXM : ∀ j k : Nat, j < 25 → k < 20 → ad j ≠ ad2 k) {H : Heap} {locs : List Loc} (hPX : va_P D vwCl (wX cI ad z0 zz) H) (hPM : va_P D vwCl (wM cI cB ad2 z0 zL zz) H) (hS : va_S (fun q : Nat => s.heap.size ≤ q) s.heap H locs) (hend : ∀ (H : Heap) (locs : List Loc), va_S (fun q : Nat => s.heap.size ≤ q) s.heap H locs → ∀ ls : Array Slot, lv_has ls 4 [(3, .int 0), (0, .ref b)] → W p l e room_1 s m #[Value.ref b] below meth c H locs 45 348 Q (F0 m 653 ls [])) (ls : Array Slot) (hl : lv_has ls 4 [(3, .int 0), (0, .ref b), (1, .ref (ad 0)), (2, .ref (ad2 0))]) : W p l e room_1 s m #[Value.ref b] below meth c H locs 45 348 Q (F0 m 159 ls []) := by
  have hbA : ¬ (fun q : Nat => s.heap.size ≤ q) b := Nat.not_le.mpr hbl
  have hAXs : ∀ q, wA 25 ad q → s.heap.size ≤ q := fun q h => by obtain ⟨k, hk, e1⟩ := h; rw [e1]; exact hAX k hk
  have hAMs : ∀ q, wA 20 ad2 q → s.heap.size ≤ q := fun q h => by obtain ⟨k, hk, e1⟩ := h; rw [e1]; exact hAM k hk
  refine lv_aload_n E.1 E.2.1 dL_law_159 rfl (lv_at hl 2 rfl) ?_
  refine g_VWi (As := []) (rest := []) E hK hPX hS hAXs (z_X2_blank l D cI cB ad hIX) (cwV 0 E.2.2.2.2 gL_law_X2_blank rfl rfl rfl (by decide +kernel) ⟨Nat.le_of_ble_eq_true rfl, Nat.le_of_ble_eq_true rfl⟩) (rx hK hPX) rfl hl.1 rfl (by decide) dL_law_160 ⟨Nat.le_of_ble_eq_true rfl, Nat.le_of_ble_eq_true rfl⟩ (fun r_2 u_1 H1 locs hp_3 hP1 hk_4 hS => ?_)
  obtain rfl := hp_3
  have hPM : va_P D vwCl (wM cI cB ad2 z0 zL zz) H1 := hPM.kept (fun k q hq => hk_4 q.1 ((hPM k q hq).lt) (fun h => by obtain ⟨k1, hk1, e1⟩ := h; obtain ⟨k2, e2⟩ := w_key (wM_fst cI cB ad2 z0 zL zz) hq; exact hXM k1 k hk1 k2 (e1.symm.trans e2)))
  generalize H1 = H at hPM hS ⊢
  refine lv_aload_n E.1 E.2.1 dL_law_163 rfl (lv_at hl 3 rfl) ?_
  refine g_VWi (As := []) (rest := [.int 0]) E hK hPM hS hAMs (z_X3_blank l D cI cB ad2 zL hIM) (cwV 0 E.2.2.2.2 gL_law_X3_blank rfl rfl rfl (by decide +kernel) ⟨Nat.le_of_ble_eq_true rfl, Nat.le_of_ble_eq_true rfl⟩) (rm0x hK hPM) rfl hl.1 rfl (Nat.le_of_ble_eq_true rfl) dL_law_164 ⟨Nat.le_of_ble_eq_true rfl, Nat.le_of_ble_eq_true rfl⟩ (fun r_6 u_5 H1 locs hp_7 hP1 hk_8 hS => ?_)
  obtain rfl := hp_7
  generalize H1 = H at hS ⊢
  refine lv_icmp_eq (x := 0) (y := 0) (tgt := 653) E.1 E.2.1 dL_law_167 (by decide) (fun _ => ?_) (fun h9 => absurd (rfl) h9)
  exact hend _ _ hS ls (lv_sub hl [0, 1] rfl)
set_option maxHeartbeats 4000000 in
set_option maxRecDepth 100000 in
/-- the law at fault -/
theorem law_2 {p : Program} {e : Env} {s : State} {m : MethodId} {below : List Frame} {meth : Method} {c : Code} (l : Launch) {b : Nat} {xs : Nat → Int32} {D : va_G} {cI cB : ClassId} {ad ad2 : Nat → Nat} {Q : State → Prop} (E : CallFix p m c cL_law 4 s #[Value.ref b] wsL_law RL) (hX : va_X b 4 xs s s.heap) (hbl : b < s.heap.size) (hK : wK D cI cB s) (hIX : wI 25 ad) (hIM : wI 20 ad2) (hAX : ∀ k : Nat, k < 25 → s.heap.size ≤ ad k) (hAM : ∀ k : Nat, k < 20 → s.heap.size ≤ ad2 k) (hXM : ∀ j k : Nat, j < 25 → k < 20 → ad j ≠ ad2 k) {H : Heap} {locs : List Loc} (hPX : va_P D vwCl (wX cI ad z0 zz) H) (hPM : va_P D vwCl (wM cI cB ad2 z0 zL zz) H) (hS : va_S (fun q : Nat => s.heap.size ≤ q) s.heap H locs) (hend : ∀ (H : Heap) (locs : List Loc), va_S (fun q : Nat => s.heap.size ≤ q) s.heap H locs → ∀ ls : Array Slot, lv_has ls 4 [(3, .int 0), (0, .ref b)] → W p l e room_1 s m #[Value.ref b] below meth c H locs 45 348 Q (F0 m 653 ls [])) (ls : Array Slot) (hl : lv_has ls 4 [(3, .int 0), (0, .ref b), (1, .ref (ad 0)), (2, .ref (ad2 0))]) : W p l e room_1 s m #[Value.ref b] below meth c H locs 45 348 Q (F0 m 172 ls []) := by
  have hbA : ¬ (fun q : Nat => s.heap.size ≤ q) b := Nat.not_le.mpr hbl
  have hAXs : ∀ q, wA 25 ad q → s.heap.size ≤ q := fun q h => by obtain ⟨k, hk, e1⟩ := h; rw [e1]; exact hAX k hk
  have hAMs : ∀ q, wA 20 ad2 q → s.heap.size ≤ q := fun q h => by obtain ⟨k, hk, e1⟩ := h; rw [e1]; exact hAM k hk
  refine lv_aload_n E.1 E.2.1 dL_law_172 rfl (lv_at hl 2 rfl) ?_
  refine g_VR (As := []) (rest := []) E hK hPX (z_X2_fault l D cI cB ad) (cwV 0 E.2.2.2.2 gL_law_X2_fault rfl rfl rfl (by decide +kernel) ⟨Nat.le_of_ble_eq_true rfl, Nat.le_of_ble_eq_true rfl⟩) (rx hK hPX) rfl hl.1 rfl (by decide) dL_law_173 ⟨Nat.le_of_ble_eq_true rfl, Nat.le_of_ble_eq_true rfl⟩ ?_
  refine lv_aload_n E.1 E.2.1 dL_law_176 rfl (lv_at hl 3 rfl) ?_
  refine g_VWi (As := []) (rest := [.int 0]) E hK hPM hS hAMs (z_X3_fault l D cI cB ad2 zL hIM) (cwV 0 E.2.2.2.2 gL_law_X3_fault rfl rfl rfl (by decide +kernel) ⟨Nat.le_of_ble_eq_true rfl, Nat.le_of_ble_eq_true rfl⟩) (rm0x hK hPM) rfl hl.1 rfl (Nat.le_of_ble_eq_true rfl) dL_law_177 ⟨Nat.le_of_ble_eq_true rfl, Nat.le_of_ble_eq_true rfl⟩ (fun r_2 u_1 H1 locs hp_3 hP1 hk_4 hS => ?_)
  obtain rfl := hp_3
  generalize H1 = H at hS ⊢
  refine lv_icmp_eq (x := 0) (y := 0) (tgt := 653) E.1 E.2.1 dL_law_180 (by decide) (fun _ => ?_) (fun h9 => absurd (rfl) h9)
  exact hend _ _ hS ls (lv_sub hl [0, 1] rfl)
set_option maxHeartbeats 4000000 in
set_option maxRecDepth 100000 in
/-- the law at city -/
theorem law_3 {p : Program} {e : Env} {s : State} {m : MethodId} {below : List Frame} {meth : Method} {c : Code} (l : Launch) {b : Nat} {xs : Nat → Int32} {D : va_G} {cI cB : ClassId} {ad ad2 : Nat → Nat} {Q : State → Prop} (E : CallFix p m c cL_law 4 s #[Value.ref b] wsL_law RL) (hX : va_X b 4 xs s s.heap) (hbl : b < s.heap.size) (hK : wK D cI cB s) (hIX : wI 25 ad) (hIM : wI 20 ad2) (hAX : ∀ k : Nat, k < 25 → s.heap.size ≤ ad k) (hAM : ∀ k : Nat, k < 20 → s.heap.size ≤ ad2 k) (hXM : ∀ j k : Nat, j < 25 → k < 20 → ad j ≠ ad2 k) {H : Heap} {locs : List Loc} (hPX : va_P D vwCl (wX cI ad z0 zz) H) (hPM : va_P D vwCl (wM cI cB ad2 z0 zL zz) H) (hS : va_S (fun q : Nat => s.heap.size ≤ q) s.heap H locs) (hend : ∀ (H : Heap) (locs : List Loc), va_S (fun q : Nat => s.heap.size ≤ q) s.heap H locs → ∀ ls : Array Slot, lv_has ls 4 [(3, .int 0), (0, .ref b)] → W p l e room_1 s m #[Value.ref b] below meth c H locs 45 348 Q (F0 m 653 ls [])) (ls : Array Slot) (hl : lv_has ls 4 [(3, .int 0), (0, .ref b), (1, .ref (ad 0)), (2, .ref (ad2 0))]) : W p l e room_1 s m #[Value.ref b] below meth c H locs 45 348 Q (F0 m 185 ls []) := by
  have hbA : ¬ (fun q : Nat => s.heap.size ≤ q) b := Nat.not_le.mpr hbl
  have hAXs : ∀ q, wA 25 ad q → s.heap.size ≤ q := fun q h => by obtain ⟨k, hk, e1⟩ := h; rw [e1]; exact hAX k hk
  have hAMs : ∀ q, wA 20 ad2 q → s.heap.size ≤ q := fun q h => by obtain ⟨k, hk, e1⟩ := h; rw [e1]; exact hAM k hk
  refine lv_aload_n E.1 E.2.1 dL_law_185 rfl (lv_at hl 2 rfl) ?_
  refine g_VR (As := []) (rest := []) E hK hPX (z_X2_city l D cI cB ad) (cwV 0 E.2.2.2.2 gL_law_X2_city rfl rfl rfl (by decide +kernel) ⟨Nat.le_of_ble_eq_true rfl, Nat.le_of_ble_eq_true rfl⟩) (rx hK hPX) rfl hl.1 rfl (by decide) dL_law_186 ⟨Nat.le_of_ble_eq_true rfl, Nat.le_of_ble_eq_true rfl⟩ ?_
  refine lv_aload_n E.1 E.2.1 dL_law_189 rfl (lv_at hl 3 rfl) ?_
  refine g_VWi (As := []) (rest := [.int (-103)]) E hK hPM hS hAMs (z_X3_city l D cI cB ad2 zL hIM) (cwV 0 E.2.2.2.2 gL_law_X3_city rfl rfl rfl (by decide +kernel) ⟨Nat.le_of_ble_eq_true rfl, Nat.le_of_ble_eq_true rfl⟩) (rm0x hK hPM) rfl hl.1 rfl (Nat.le_of_ble_eq_true rfl) dL_law_190 ⟨Nat.le_of_ble_eq_true rfl, Nat.le_of_ble_eq_true rfl⟩ (fun r_2 u_1 H1 locs hp_3 hP1 hk_4 hS => ?_)
  obtain rfl := hp_3
  generalize H1 = H at hS ⊢
  refine lv_icmp_eq (x := (-103)) (y := (-103)) (tgt := 653) E.1 E.2.1 dL_law_193 (by decide) (fun _ => ?_) (fun h9 => absurd (rfl) h9)
  exact hend _ _ hS ls (lv_sub hl [0, 1] rfl)
set_option maxHeartbeats 4000000 in
set_option maxRecDepth 100000 in
/-- the law at about -/
theorem law_4 {p : Program} {e : Env} {s : State} {m : MethodId} {below : List Frame} {meth : Method} {c : Code} (l : Launch) {b : Nat} {xs : Nat → Int32} {D : va_G} {cI cB : ClassId} {ad ad2 : Nat → Nat} {Q : State → Prop} (E : CallFix p m c cL_law 4 s #[Value.ref b] wsL_law RL) (hX : va_X b 4 xs s s.heap) (hbl : b < s.heap.size) (hK : wK D cI cB s) (hIX : wI 25 ad) (hIM : wI 20 ad2) (hAX : ∀ k : Nat, k < 25 → s.heap.size ≤ ad k) (hAM : ∀ k : Nat, k < 20 → s.heap.size ≤ ad2 k) (hXM : ∀ j k : Nat, j < 25 → k < 20 → ad j ≠ ad2 k) {H : Heap} {locs : List Loc} (hPX : va_P D vwCl (wX cI ad z0 zz) H) (hPM : va_P D vwCl (wM cI cB ad2 z0 zL zz) H) (hS : va_S (fun q : Nat => s.heap.size ≤ q) s.heap H locs) (hend : ∀ (H : Heap) (locs : List Loc), va_S (fun q : Nat => s.heap.size ≤ q) s.heap H locs → ∀ ls : Array Slot, lv_has ls 4 [(3, .int 0), (0, .ref b)] → W p l e room_1 s m #[Value.ref b] below meth c H locs 45 348 Q (F0 m 653 ls [])) (ls : Array Slot) (hl : lv_has ls 4 [(3, .int 0), (0, .ref b), (1, .ref (ad 0)), (2, .ref (ad2 0))]) : W p l e room_1 s m #[Value.ref b] below meth c H locs 45 348 Q (F0 m 198 ls []) := by
  have hbA : ¬ (fun q : Nat => s.heap.size ≤ q) b := Nat.not_le.mpr hbl
  have hAXs : ∀ q, wA 25 ad q → s.heap.size ≤ q := fun q h => by obtain ⟨k, hk, e1⟩ := h; rw [e1]; exact hAX k hk
  have hAMs : ∀ q, wA 20 ad2 q → s.heap.size ≤ q := fun q h => by obtain ⟨k, hk, e1⟩ := h; rw [e1]; exact hAM k hk
  refine lv_aload_n E.1 E.2.1 dL_law_198 rfl (lv_at hl 2 rfl) ?_
  refine lv_aload_n E.1 E.2.1 dL_law_199 rfl (lv_at hl 1 rfl) ?_
  refine lv_iload_n E.1 E.2.1 dL_law_200 rfl (lv_at hl 0 rfl) ?_
  refine lv_iconst (v := 1) E.1 E.2.1 dL_law_201 (by decide) ?_
  refine lv_iadd E.1 E.2.1 dL_law_202 ?_
  refine lv_topi (fun y_1 ey_1 => ?_)
  obtain rfl : y_1 = 1 := ey_1.trans (by decide)
  refine va_sld (i := 1) E.1 E.2.1 hX hbl hbA hS (by unfold vp_in; decide) dL_law_203 ?_
  refine lv_aload_n E.1 E.2.1 dL_law_204 rfl (lv_at hl 1 rfl) ?_
  refine lv_iload_n E.1 E.2.1 dL_law_205 rfl (lv_at hl 0 rfl) ?_
  refine lv_iconst (v := 2) E.1 E.2.1 dL_law_206 (by decide) ?_
  refine lv_iadd E.1 E.2.1 dL_law_207 ?_
  refine lv_topi (fun y_2 ey_2 => ?_)
  obtain rfl : y_2 = 2 := ey_2.trans (by decide)
  refine va_sld (i := 2) E.1 E.2.1 hX hbl hbA hS (by unfold vp_in; decide) dL_law_208 ?_
  refine g_VR (As := [.int (xs (Int32.toNatClampNeg 1)), .int (xs (Int32.toNatClampNeg 2))]) (rest := []) E hK hPX (z_X2_about l D cI cB ad (xs (Int32.toNatClampNeg 1)) (xs (Int32.toNatClampNeg 2))) (cwV 2 E.2.2.2.2 gL_law_X2_about rfl rfl rfl (by decide +kernel) ⟨Nat.le_of_ble_eq_true rfl, Nat.le_of_ble_eq_true rfl⟩) (rx hK hPX) rfl hl.1 rfl (by decide) dL_law_209 ⟨Nat.le_of_ble_eq_true rfl, Nat.le_of_ble_eq_true rfl⟩ ?_
  refine lv_aload_n E.1 E.2.1 dL_law_212 rfl (lv_at hl 3 rfl) ?_
  refine lv_aload_n E.1 E.2.1 dL_law_213 rfl (lv_at hl 1 rfl) ?_
  refine lv_iload_n E.1 E.2.1 dL_law_214 rfl (lv_at hl 0 rfl) ?_
  refine lv_iconst (v := 1) E.1 E.2.1 dL_law_215 (by decide) ?_
  refine lv_iadd E.1 E.2.1 dL_law_216 ?_
  refine lv_topi (fun y_3 ey_3 => ?_)
  obtain rfl : y_3 = 1 := ey_3.trans (by decide)
  refine va_sld (i := 1) E.1 E.2.1 hX hbl hbA hS (by unfold vp_in; decide) dL_law_217 ?_
  refine lv_aload_n E.1 E.2.1 dL_law_218 rfl (lv_at hl 1 rfl) ?_
  refine lv_iload_n E.1 E.2.1 dL_law_219 rfl (lv_at hl 0 rfl) ?_
  refine lv_iconst (v := 2) E.1 E.2.1 dL_law_220 (by decide) ?_
  refine lv_iadd E.1 E.2.1 dL_law_221 ?_
  refine lv_topi (fun y_4 ey_4 => ?_)
  obtain rfl : y_4 = 2 := ey_4.trans (by decide)
  refine va_sld (i := 2) E.1 E.2.1 hX hbl hbA hS (by unfold vp_in; decide) dL_law_222 ?_
  refine g_VR (As := [.int (xs (Int32.toNatClampNeg 1)), .int (xs (Int32.toNatClampNeg 2))]) (rest := [.int (-101)]) E hK hPM (z_X3_about l D cI cB ad2 zL (xs (Int32.toNatClampNeg 1)) (xs (Int32.toNatClampNeg 2))) (cwV 2 E.2.2.2.2 gL_law_X3_about rfl rfl rfl (by decide +kernel) ⟨Nat.le_of_ble_eq_true rfl, Nat.le_of_ble_eq_true rfl⟩) (rm0x hK hPM) rfl hl.1 rfl (Nat.le_of_ble_eq_true rfl) dL_law_223 ⟨Nat.le_of_ble_eq_true rfl, Nat.le_of_ble_eq_true rfl⟩ ?_
  refine lv_icmp_eq (x := (-101)) (y := (-101)) (tgt := 653) E.1 E.2.1 dL_law_226 (by decide) (fun _ => ?_) (fun h9 => absurd (rfl) h9)
  exact hend _ _ hS ls (lv_sub hl [0, 1] rfl)
set_option maxHeartbeats 4000000 in
set_option maxRecDepth 100000 in
/-- the law at as -/
theorem law_5 {p : Program} {e : Env} {s : State} {m : MethodId} {below : List Frame} {meth : Method} {c : Code} (l : Launch) {b : Nat} {xs : Nat → Int32} {D : va_G} {cI cB : ClassId} {ad ad2 : Nat → Nat} {Q : State → Prop} (E : CallFix p m c cL_law 4 s #[Value.ref b] wsL_law RL) (hX : va_X b 4 xs s s.heap) (hbl : b < s.heap.size) (hK : wK D cI cB s) (hIX : wI 25 ad) (hIM : wI 20 ad2) (hAX : ∀ k : Nat, k < 25 → s.heap.size ≤ ad k) (hAM : ∀ k : Nat, k < 20 → s.heap.size ≤ ad2 k) (hXM : ∀ j k : Nat, j < 25 → k < 20 → ad j ≠ ad2 k) {H : Heap} {locs : List Loc} (hPX : va_P D vwCl (wX cI ad z0 zz) H) (hPM : va_P D vwCl (wM cI cB ad2 z0 zL zz) H) (hS : va_S (fun q : Nat => s.heap.size ≤ q) s.heap H locs) (hend : ∀ (H : Heap) (locs : List Loc), va_S (fun q : Nat => s.heap.size ≤ q) s.heap H locs → ∀ ls : Array Slot, lv_has ls 4 [(3, .int 0), (0, .ref b)] → W p l e room_1 s m #[Value.ref b] below meth c H locs 45 348 Q (F0 m 653 ls [])) (ls : Array Slot) (hl : lv_has ls 4 [(3, .int 0), (0, .ref b), (1, .ref (ad 0)), (2, .ref (ad2 0))]) : W p l e room_1 s m #[Value.ref b] below meth c H locs 45 348 Q (F0 m 231 ls []) := by
  have hbA : ¬ (fun q : Nat => s.heap.size ≤ q) b := Nat.not_le.mpr hbl
  have hAXs : ∀ q, wA 25 ad q → s.heap.size ≤ q := fun q h => by obtain ⟨k, hk, e1⟩ := h; rw [e1]; exact hAX k hk
  have hAMs : ∀ q, wA 20 ad2 q → s.heap.size ≤ q := fun q h => by obtain ⟨k, hk, e1⟩ := h; rw [e1]; exact hAM k hk
  refine lv_aload_n E.1 E.2.1 dL_law_231 rfl (lv_at hl 2 rfl) ?_
  refine lv_aload_n E.1 E.2.1 dL_law_232 rfl (lv_at hl 1 rfl) ?_
  refine lv_iload_n E.1 E.2.1 dL_law_233 rfl (lv_at hl 0 rfl) ?_
  refine lv_iconst (v := 1) E.1 E.2.1 dL_law_234 (by decide) ?_
  refine lv_iadd E.1 E.2.1 dL_law_235 ?_
  refine lv_topi (fun y_1 ey_1 => ?_)
  obtain rfl : y_1 = 1 := ey_1.trans (by decide)
  refine va_sld (i := 1) E.1 E.2.1 hX hbl hbA hS (by unfold vp_in; decide) dL_law_236 ?_
  refine lv_aload_n E.1 E.2.1 dL_law_237 rfl (lv_at hl 1 rfl) ?_
  refine lv_iload_n E.1 E.2.1 dL_law_238 rfl (lv_at hl 0 rfl) ?_
  refine lv_iconst (v := 2) E.1 E.2.1 dL_law_239 (by decide) ?_
  refine lv_iadd E.1 E.2.1 dL_law_240 ?_
  refine lv_topi (fun y_2 ey_2 => ?_)
  obtain rfl : y_2 = 2 := ey_2.trans (by decide)
  refine va_sld (i := 2) E.1 E.2.1 hX hbl hbA hS (by unfold vp_in; decide) dL_law_241 ?_
  refine g_VR (As := [.int (xs (Int32.toNatClampNeg 1)), .int (xs (Int32.toNatClampNeg 2))]) (rest := []) E hK hPX (z_X2_as l D cI cB ad (xs (Int32.toNatClampNeg 1)) (xs (Int32.toNatClampNeg 2))) (cwV 2 E.2.2.2.2 gL_law_X2_as rfl rfl rfl (by decide +kernel) ⟨Nat.le_of_ble_eq_true rfl, Nat.le_of_ble_eq_true rfl⟩) (rx hK hPX) rfl hl.1 rfl (by decide) dL_law_242 ⟨Nat.le_of_ble_eq_true rfl, Nat.le_of_ble_eq_true rfl⟩ ?_
  refine lv_aload_n E.1 E.2.1 dL_law_245 rfl (lv_at hl 3 rfl) ?_
  refine lv_aload_n E.1 E.2.1 dL_law_246 rfl (lv_at hl 1 rfl) ?_
  refine lv_iload_n E.1 E.2.1 dL_law_247 rfl (lv_at hl 0 rfl) ?_
  refine lv_iconst (v := 1) E.1 E.2.1 dL_law_248 (by decide) ?_
  refine lv_iadd E.1 E.2.1 dL_law_249 ?_
  refine lv_topi (fun y_3 ey_3 => ?_)
  obtain rfl : y_3 = 1 := ey_3.trans (by decide)
  refine va_sld (i := 1) E.1 E.2.1 hX hbl hbA hS (by unfold vp_in; decide) dL_law_250 ?_
  refine lv_aload_n E.1 E.2.1 dL_law_251 rfl (lv_at hl 1 rfl) ?_
  refine lv_iload_n E.1 E.2.1 dL_law_252 rfl (lv_at hl 0 rfl) ?_
  refine lv_iconst (v := 2) E.1 E.2.1 dL_law_253 (by decide) ?_
  refine lv_iadd E.1 E.2.1 dL_law_254 ?_
  refine lv_topi (fun y_4 ey_4 => ?_)
  obtain rfl : y_4 = 2 := ey_4.trans (by decide)
  refine va_sld (i := 2) E.1 E.2.1 hX hbl hbA hS (by unfold vp_in; decide) dL_law_255 ?_
  refine g_VR (As := [.int (xs (Int32.toNatClampNeg 1)), .int (xs (Int32.toNatClampNeg 2))]) (rest := [.int (-101)]) E hK hPM (z_X3_as l D cI cB ad2 zL (xs (Int32.toNatClampNeg 1)) (xs (Int32.toNatClampNeg 2))) (cwV 2 E.2.2.2.2 gL_law_X3_as rfl rfl rfl (by decide +kernel) ⟨Nat.le_of_ble_eq_true rfl, Nat.le_of_ble_eq_true rfl⟩) (rm0x hK hPM) rfl hl.1 rfl (Nat.le_of_ble_eq_true rfl) dL_law_256 ⟨Nat.le_of_ble_eq_true rfl, Nat.le_of_ble_eq_true rfl⟩ ?_
  refine lv_icmp_eq (x := (-101)) (y := (-101)) (tgt := 653) E.1 E.2.1 dL_law_259 (by decide) (fun _ => ?_) (fun h9 => absurd (rfl) h9)
  exact hend _ _ hS ls (lv_sub hl [0, 1] rfl)
set_option maxHeartbeats 4000000 in
set_option maxRecDepth 100000 in
/-- the law at bring -/
theorem law_6 {p : Program} {e : Env} {s : State} {m : MethodId} {below : List Frame} {meth : Method} {c : Code} (l : Launch) {b : Nat} {xs : Nat → Int32} {D : va_G} {cI cB : ClassId} {ad ad2 : Nat → Nat} {Q : State → Prop} (E : CallFix p m c cL_law 4 s #[Value.ref b] wsL_law RL) (hX : va_X b 4 xs s s.heap) (hbl : b < s.heap.size) (hK : wK D cI cB s) (hIX : wI 25 ad) (hIM : wI 20 ad2) (hAX : ∀ k : Nat, k < 25 → s.heap.size ≤ ad k) (hAM : ∀ k : Nat, k < 20 → s.heap.size ≤ ad2 k) (hXM : ∀ j k : Nat, j < 25 → k < 20 → ad j ≠ ad2 k) {H : Heap} {locs : List Loc} (hPX : va_P D vwCl (wX cI ad z0 zz) H) (hPM : va_P D vwCl (wM cI cB ad2 z0 zL zz) H) (hS : va_S (fun q : Nat => s.heap.size ≤ q) s.heap H locs) (hend : ∀ (H : Heap) (locs : List Loc), va_S (fun q : Nat => s.heap.size ≤ q) s.heap H locs → ∀ ls : Array Slot, lv_has ls 4 [(3, .int 0), (0, .ref b)] → W p l e room_1 s m #[Value.ref b] below meth c H locs 45 348 Q (F0 m 653 ls [])) (ls : Array Slot) (hl : lv_has ls 4 [(3, .int 0), (0, .ref b), (1, .ref (ad 0)), (2, .ref (ad2 0))]) : W p l e room_1 s m #[Value.ref b] below meth c H locs 45 348 Q (F0 m 264 ls []) := by
  have hbA : ¬ (fun q : Nat => s.heap.size ≤ q) b := Nat.not_le.mpr hbl
  have hAXs : ∀ q, wA 25 ad q → s.heap.size ≤ q := fun q h => by obtain ⟨k, hk, e1⟩ := h; rw [e1]; exact hAX k hk
  have hAMs : ∀ q, wA 20 ad2 q → s.heap.size ≤ q := fun q h => by obtain ⟨k, hk, e1⟩ := h; rw [e1]; exact hAM k hk
  refine lv_aload_n E.1 E.2.1 dL_law_264 rfl (lv_at hl 2 rfl) ?_
  refine lv_aload_n E.1 E.2.1 dL_law_265 rfl (lv_at hl 1 rfl) ?_
  refine lv_iload_n E.1 E.2.1 dL_law_266 rfl (lv_at hl 0 rfl) ?_
  refine lv_iconst (v := 1) E.1 E.2.1 dL_law_267 (by decide) ?_
  refine lv_iadd E.1 E.2.1 dL_law_268 ?_
  refine lv_topi (fun y_1 ey_1 => ?_)
  obtain rfl : y_1 = 1 := ey_1.trans (by decide)
  refine va_sld (i := 1) E.1 E.2.1 hX hbl hbA hS (by unfold vp_in; decide) dL_law_269 ?_
  refine lv_aload_n E.1 E.2.1 dL_law_270 rfl (lv_at hl 1 rfl) ?_
  refine lv_iload_n E.1 E.2.1 dL_law_271 rfl (lv_at hl 0 rfl) ?_
  refine lv_iconst (v := 2) E.1 E.2.1 dL_law_272 (by decide) ?_
  refine lv_iadd E.1 E.2.1 dL_law_273 ?_
  refine lv_topi (fun y_2 ey_2 => ?_)
  obtain rfl : y_2 = 2 := ey_2.trans (by decide)
  refine va_sld (i := 2) E.1 E.2.1 hX hbl hbA hS (by unfold vp_in; decide) dL_law_274 ?_
  refine g_VR (As := [.int (xs (Int32.toNatClampNeg 1)), .int (xs (Int32.toNatClampNeg 2))]) (rest := []) E hK hPX (z_X2_bring l D cI cB ad (xs (Int32.toNatClampNeg 1)) (xs (Int32.toNatClampNeg 2))) (cwV 2 E.2.2.2.2 gL_law_X2_bring rfl rfl rfl (by decide +kernel) ⟨Nat.le_of_ble_eq_true rfl, Nat.le_of_ble_eq_true rfl⟩) (rx hK hPX) rfl hl.1 rfl (by decide) dL_law_275 ⟨Nat.le_of_ble_eq_true rfl, Nat.le_of_ble_eq_true rfl⟩ ?_
  refine lv_aload_n E.1 E.2.1 dL_law_278 rfl (lv_at hl 3 rfl) ?_
  refine lv_aload_n E.1 E.2.1 dL_law_279 rfl (lv_at hl 1 rfl) ?_
  refine lv_iload_n E.1 E.2.1 dL_law_280 rfl (lv_at hl 0 rfl) ?_
  refine lv_iconst (v := 1) E.1 E.2.1 dL_law_281 (by decide) ?_
  refine lv_iadd E.1 E.2.1 dL_law_282 ?_
  refine lv_topi (fun y_3 ey_3 => ?_)
  obtain rfl : y_3 = 1 := ey_3.trans (by decide)
  refine va_sld (i := 1) E.1 E.2.1 hX hbl hbA hS (by unfold vp_in; decide) dL_law_283 ?_
  refine lv_aload_n E.1 E.2.1 dL_law_284 rfl (lv_at hl 1 rfl) ?_
  refine lv_iload_n E.1 E.2.1 dL_law_285 rfl (lv_at hl 0 rfl) ?_
  refine lv_iconst (v := 2) E.1 E.2.1 dL_law_286 (by decide) ?_
  refine lv_iadd E.1 E.2.1 dL_law_287 ?_
  refine lv_topi (fun y_4 ey_4 => ?_)
  obtain rfl : y_4 = 2 := ey_4.trans (by decide)
  refine va_sld (i := 2) E.1 E.2.1 hX hbl hbA hS (by unfold vp_in; decide) dL_law_288 ?_
  refine g_VR (As := [.int (xs (Int32.toNatClampNeg 1)), .int (xs (Int32.toNatClampNeg 2))]) (rest := [.int (-101)]) E hK hPM (z_X3_bring l D cI cB ad2 zL (xs (Int32.toNatClampNeg 1)) (xs (Int32.toNatClampNeg 2))) (cwV 2 E.2.2.2.2 gL_law_X3_bring rfl rfl rfl (by decide +kernel) ⟨Nat.le_of_ble_eq_true rfl, Nat.le_of_ble_eq_true rfl⟩) (rm0x hK hPM) rfl hl.1 rfl (Nat.le_of_ble_eq_true rfl) dL_law_289 ⟨Nat.le_of_ble_eq_true rfl, Nat.le_of_ble_eq_true rfl⟩ ?_
  refine lv_icmp_eq (x := (-101)) (y := (-101)) (tgt := 653) E.1 E.2.1 dL_law_292 (by decide) (fun _ => ?_) (fun h9 => absurd (rfl) h9)
  exact hend _ _ hS ls (lv_sub hl [0, 1] rfl)
set_option maxHeartbeats 4000000 in
set_option maxRecDepth 100000 in
/-- the law at tread -/
theorem law_7 {p : Program} {e : Env} {s : State} {m : MethodId} {below : List Frame} {meth : Method} {c : Code} (l : Launch) {b : Nat} {xs : Nat → Int32} {D : va_G} {cI cB : ClassId} {ad ad2 : Nat → Nat} {Q : State → Prop} (E : CallFix p m c cL_law 4 s #[Value.ref b] wsL_law RL) (hX : va_X b 4 xs s s.heap) (hbl : b < s.heap.size) (hK : wK D cI cB s) (hIX : wI 25 ad) (hIM : wI 20 ad2) (hAX : ∀ k : Nat, k < 25 → s.heap.size ≤ ad k) (hAM : ∀ k : Nat, k < 20 → s.heap.size ≤ ad2 k) (hXM : ∀ j k : Nat, j < 25 → k < 20 → ad j ≠ ad2 k) {H : Heap} {locs : List Loc} (hPX : va_P D vwCl (wX cI ad z0 zz) H) (hPM : va_P D vwCl (wM cI cB ad2 z0 zL zz) H) (hS : va_S (fun q : Nat => s.heap.size ≤ q) s.heap H locs) (hend : ∀ (H : Heap) (locs : List Loc), va_S (fun q : Nat => s.heap.size ≤ q) s.heap H locs → ∀ ls : Array Slot, lv_has ls 4 [(3, .int 0), (0, .ref b)] → W p l e room_1 s m #[Value.ref b] below meth c H locs 45 348 Q (F0 m 653 ls [])) (ls : Array Slot) (hl : lv_has ls 4 [(3, .int 0), (0, .ref b), (1, .ref (ad 0)), (2, .ref (ad2 0))]) : W p l e room_1 s m #[Value.ref b] below meth c H locs 45 348 Q (F0 m 297 ls []) := by
  have hbA : ¬ (fun q : Nat => s.heap.size ≤ q) b := Nat.not_le.mpr hbl
  have hAXs : ∀ q, wA 25 ad q → s.heap.size ≤ q := fun q h => by obtain ⟨k, hk, e1⟩ := h; rw [e1]; exact hAX k hk
  have hAMs : ∀ q, wA 20 ad2 q → s.heap.size ≤ q := fun q h => by obtain ⟨k, hk, e1⟩ := h; rw [e1]; exact hAM k hk
  refine lv_aload_n E.1 E.2.1 dL_law_297 rfl (lv_at hl 2 rfl) ?_
  refine lv_aload_n E.1 E.2.1 dL_law_298 rfl (lv_at hl 1 rfl) ?_
  refine lv_iload_n E.1 E.2.1 dL_law_299 rfl (lv_at hl 0 rfl) ?_
  refine lv_iconst (v := 1) E.1 E.2.1 dL_law_300 (by decide) ?_
  refine lv_iadd E.1 E.2.1 dL_law_301 ?_
  refine lv_topi (fun y_1 ey_1 => ?_)
  obtain rfl : y_1 = 1 := ey_1.trans (by decide)
  refine va_sld (i := 1) E.1 E.2.1 hX hbl hbA hS (by unfold vp_in; decide) dL_law_302 ?_
  refine lv_aload_n E.1 E.2.1 dL_law_303 rfl (lv_at hl 1 rfl) ?_
  refine lv_iload_n E.1 E.2.1 dL_law_304 rfl (lv_at hl 0 rfl) ?_
  refine lv_iconst (v := 2) E.1 E.2.1 dL_law_305 (by decide) ?_
  refine lv_iadd E.1 E.2.1 dL_law_306 ?_
  refine lv_topi (fun y_2 ey_2 => ?_)
  obtain rfl : y_2 = 2 := ey_2.trans (by decide)
  refine va_sld (i := 2) E.1 E.2.1 hX hbl hbA hS (by unfold vp_in; decide) dL_law_307 ?_
  refine g_VR (As := [.int (xs (Int32.toNatClampNeg 1)), .int (xs (Int32.toNatClampNeg 2))]) (rest := []) E hK hPX (z_X2_tread l D cI cB ad (xs (Int32.toNatClampNeg 1)) (xs (Int32.toNatClampNeg 2))) (cwV 2 E.2.2.2.2 gL_law_X2_tread rfl rfl rfl (by decide +kernel) ⟨Nat.le_of_ble_eq_true rfl, Nat.le_of_ble_eq_true rfl⟩) (rx hK hPX) rfl hl.1 rfl (by decide) dL_law_308 ⟨Nat.le_of_ble_eq_true rfl, Nat.le_of_ble_eq_true rfl⟩ ?_
  refine lv_aload_n E.1 E.2.1 dL_law_311 rfl (lv_at hl 3 rfl) ?_
  refine lv_aload_n E.1 E.2.1 dL_law_312 rfl (lv_at hl 1 rfl) ?_
  refine lv_iload_n E.1 E.2.1 dL_law_313 rfl (lv_at hl 0 rfl) ?_
  refine lv_iconst (v := 1) E.1 E.2.1 dL_law_314 (by decide) ?_
  refine lv_iadd E.1 E.2.1 dL_law_315 ?_
  refine lv_topi (fun y_3 ey_3 => ?_)
  obtain rfl : y_3 = 1 := ey_3.trans (by decide)
  refine va_sld (i := 1) E.1 E.2.1 hX hbl hbA hS (by unfold vp_in; decide) dL_law_316 ?_
  refine lv_aload_n E.1 E.2.1 dL_law_317 rfl (lv_at hl 1 rfl) ?_
  refine lv_iload_n E.1 E.2.1 dL_law_318 rfl (lv_at hl 0 rfl) ?_
  refine lv_iconst (v := 2) E.1 E.2.1 dL_law_319 (by decide) ?_
  refine lv_iadd E.1 E.2.1 dL_law_320 ?_
  refine lv_topi (fun y_4 ey_4 => ?_)
  obtain rfl : y_4 = 2 := ey_4.trans (by decide)
  refine va_sld (i := 2) E.1 E.2.1 hX hbl hbA hS (by unfold vp_in; decide) dL_law_321 ?_
  refine g_VR (As := [.int (xs (Int32.toNatClampNeg 1)), .int (xs (Int32.toNatClampNeg 2))]) (rest := [.int (-101)]) E hK hPM (z_X3_tread l D cI cB ad2 zL (xs (Int32.toNatClampNeg 1)) (xs (Int32.toNatClampNeg 2))) (cwV 2 E.2.2.2.2 gL_law_X3_tread rfl rfl rfl (by decide +kernel) ⟨Nat.le_of_ble_eq_true rfl, Nat.le_of_ble_eq_true rfl⟩) (rm0x hK hPM) rfl hl.1 rfl (Nat.le_of_ble_eq_true rfl) dL_law_322 ⟨Nat.le_of_ble_eq_true rfl, Nat.le_of_ble_eq_true rfl⟩ ?_
  refine lv_icmp_eq (x := (-101)) (y := (-101)) (tgt := 653) E.1 E.2.1 dL_law_325 (by decide) (fun _ => ?_) (fun h9 => absurd (rfl) h9)
  exact hend _ _ hS ls (lv_sub hl [0, 1] rfl)
set_option maxHeartbeats 4000000 in
set_option maxRecDepth 100000 in
/-- the law at sun -/
theorem law_8 {p : Program} {e : Env} {s : State} {m : MethodId} {below : List Frame} {meth : Method} {c : Code} (l : Launch) {b : Nat} {xs : Nat → Int32} {D : va_G} {cI cB : ClassId} {ad ad2 : Nat → Nat} {Q : State → Prop} (E : CallFix p m c cL_law 4 s #[Value.ref b] wsL_law RL) (hX : va_X b 4 xs s s.heap) (hbl : b < s.heap.size) (hK : wK D cI cB s) (hIX : wI 25 ad) (hIM : wI 20 ad2) (hAX : ∀ k : Nat, k < 25 → s.heap.size ≤ ad k) (hAM : ∀ k : Nat, k < 20 → s.heap.size ≤ ad2 k) (hXM : ∀ j k : Nat, j < 25 → k < 20 → ad j ≠ ad2 k) {H : Heap} {locs : List Loc} (hPX : va_P D vwCl (wX cI ad z0 zz) H) (hPM : va_P D vwCl (wM cI cB ad2 z0 zL zz) H) (hS : va_S (fun q : Nat => s.heap.size ≤ q) s.heap H locs) (hend : ∀ (H : Heap) (locs : List Loc), va_S (fun q : Nat => s.heap.size ≤ q) s.heap H locs → ∀ ls : Array Slot, lv_has ls 4 [(3, .int 0), (0, .ref b)] → W p l e room_1 s m #[Value.ref b] below meth c H locs 45 348 Q (F0 m 653 ls [])) (ls : Array Slot) (hl : lv_has ls 4 [(3, .int 0), (0, .ref b), (1, .ref (ad 0)), (2, .ref (ad2 0))]) : W p l e room_1 s m #[Value.ref b] below meth c H locs 45 348 Q (F0 m 330 ls []) := by
  have hbA : ¬ (fun q : Nat => s.heap.size ≤ q) b := Nat.not_le.mpr hbl
  have hAXs : ∀ q, wA 25 ad q → s.heap.size ≤ q := fun q h => by obtain ⟨k, hk, e1⟩ := h; rw [e1]; exact hAX k hk
  have hAMs : ∀ q, wA 20 ad2 q → s.heap.size ≤ q := fun q h => by obtain ⟨k, hk, e1⟩ := h; rw [e1]; exact hAM k hk
  refine lv_aload_n E.1 E.2.1 dL_law_330 rfl (lv_at hl 2 rfl) ?_
  refine lv_aload_n E.1 E.2.1 dL_law_331 rfl (lv_at hl 1 rfl) ?_
  refine lv_iload_n E.1 E.2.1 dL_law_332 rfl (lv_at hl 0 rfl) ?_
  refine lv_iconst (v := 1) E.1 E.2.1 dL_law_333 (by decide) ?_
  refine lv_iadd E.1 E.2.1 dL_law_334 ?_
  refine lv_topi (fun y_1 ey_1 => ?_)
  obtain rfl : y_1 = 1 := ey_1.trans (by decide)
  refine va_sld (i := 1) E.1 E.2.1 hX hbl hbA hS (by unfold vp_in; decide) dL_law_335 ?_
  refine g_VR (As := [.int (xs (Int32.toNatClampNeg 1))]) (rest := []) E hK hPX (z_X2_sun l D cI cB ad (xs (Int32.toNatClampNeg 1))) (cwV 1 E.2.2.2.2 gL_law_X2_sun rfl rfl rfl (by decide +kernel) ⟨Nat.le_of_ble_eq_true rfl, Nat.le_of_ble_eq_true rfl⟩) (rx hK hPX) rfl hl.1 rfl (by decide) dL_law_336 ⟨Nat.le_of_ble_eq_true rfl, Nat.le_of_ble_eq_true rfl⟩ ?_
  refine lv_aload_n E.1 E.2.1 dL_law_339 rfl (lv_at hl 3 rfl) ?_
  refine lv_aload_n E.1 E.2.1 dL_law_340 rfl (lv_at hl 1 rfl) ?_
  refine lv_iload_n E.1 E.2.1 dL_law_341 rfl (lv_at hl 0 rfl) ?_
  refine lv_iconst (v := 1) E.1 E.2.1 dL_law_342 (by decide) ?_
  refine lv_iadd E.1 E.2.1 dL_law_343 ?_
  refine lv_topi (fun y_2 ey_2 => ?_)
  obtain rfl : y_2 = 1 := ey_2.trans (by decide)
  refine va_sld (i := 1) E.1 E.2.1 hX hbl hbA hS (by unfold vp_in; decide) dL_law_344 ?_
  refine g_VR (As := [.int (xs (Int32.toNatClampNeg 1))]) (rest := [.int (if 0 ≤ (xs (Int32.toNatClampNeg 1)) ∧ (xs (Int32.toNatClampNeg 1)) ≤ 9 then (-103) else (-102))]) E hK hPM (z_X3_sun l D cI cB ad2 zL (xs (Int32.toNatClampNeg 1))) (cwV 1 E.2.2.2.2 gL_law_X3_sun rfl rfl rfl (by decide +kernel) ⟨Nat.le_of_ble_eq_true rfl, Nat.le_of_ble_eq_true rfl⟩) (rm0x hK hPM) rfl hl.1 rfl (Nat.le_of_ble_eq_true rfl) dL_law_345 ⟨Nat.le_of_ble_eq_true rfl, Nat.le_of_ble_eq_true rfl⟩ ?_
  refine lv_icmp_eq (x := if 0 ≤ (xs (Int32.toNatClampNeg 1)) ∧ (xs (Int32.toNatClampNeg 1)) ≤ 9 then (-103) else (-102)) (y := if 0 ≤ (xs (Int32.toNatClampNeg 1)) ∧ (xs (Int32.toNatClampNeg 1)) ≤ 9 then (-103) else (-102)) (tgt := 653) E.1 E.2.1 dL_law_348 (by decide) (fun _ => ?_) (fun h9 => absurd (rfl) h9)
  exact hend _ _ hS ls (lv_sub hl [0, 1] rfl)
set_option maxHeartbeats 4000000 in
set_option maxRecDepth 100000 in
/-- the law at day -/
theorem law_9 {p : Program} {e : Env} {s : State} {m : MethodId} {below : List Frame} {meth : Method} {c : Code} (l : Launch) {b : Nat} {xs : Nat → Int32} {D : va_G} {cI cB : ClassId} {ad ad2 : Nat → Nat} {Q : State → Prop} (E : CallFix p m c cL_law 4 s #[Value.ref b] wsL_law RL) (hX : va_X b 4 xs s s.heap) (hbl : b < s.heap.size) (hK : wK D cI cB s) (hIX : wI 25 ad) (hIM : wI 20 ad2) (hAX : ∀ k : Nat, k < 25 → s.heap.size ≤ ad k) (hAM : ∀ k : Nat, k < 20 → s.heap.size ≤ ad2 k) (hXM : ∀ j k : Nat, j < 25 → k < 20 → ad j ≠ ad2 k) {H : Heap} {locs : List Loc} (hPX : va_P D vwCl (wX cI ad z0 zz) H) (hPM : va_P D vwCl (wM cI cB ad2 z0 zL zz) H) (hS : va_S (fun q : Nat => s.heap.size ≤ q) s.heap H locs) (hend : ∀ (H : Heap) (locs : List Loc), va_S (fun q : Nat => s.heap.size ≤ q) s.heap H locs → ∀ ls : Array Slot, lv_has ls 4 [(3, .int 0), (0, .ref b)] → W p l e room_1 s m #[Value.ref b] below meth c H locs 45 348 Q (F0 m 653 ls [])) (ls : Array Slot) (hl : lv_has ls 4 [(3, .int 0), (0, .ref b), (1, .ref (ad 0)), (2, .ref (ad2 0))]) : W p l e room_1 s m #[Value.ref b] below meth c H locs 45 348 Q (F0 m 353 ls []) := by
  have hbA : ¬ (fun q : Nat => s.heap.size ≤ q) b := Nat.not_le.mpr hbl
  have hAXs : ∀ q, wA 25 ad q → s.heap.size ≤ q := fun q h => by obtain ⟨k, hk, e1⟩ := h; rw [e1]; exact hAX k hk
  have hAMs : ∀ q, wA 20 ad2 q → s.heap.size ≤ q := fun q h => by obtain ⟨k, hk, e1⟩ := h; rw [e1]; exact hAM k hk
  refine lv_aload_n E.1 E.2.1 dL_law_353 rfl (lv_at hl 2 rfl) ?_
  refine g_VR (As := []) (rest := []) E hK hPX (z_X2_day l D cI cB ad) (cwV 0 E.2.2.2.2 gL_law_X2_day rfl rfl rfl (by decide +kernel) ⟨Nat.le_of_ble_eq_true rfl, Nat.le_of_ble_eq_true rfl⟩) (rx hK hPX) rfl hl.1 rfl (by decide) dL_law_354 ⟨Nat.le_of_ble_eq_true rfl, Nat.le_of_ble_eq_true rfl⟩ ?_
  refine lv_aload_n E.1 E.2.1 dL_law_357 rfl (lv_at hl 3 rfl) ?_
  refine g_VR (As := []) (rest := [.int (-103)]) E hK hPM (z_X3_day l D cI cB ad2 zL) (cwV 0 E.2.2.2.2 gL_law_X3_day rfl rfl rfl (by decide +kernel) ⟨Nat.le_of_ble_eq_true rfl, Nat.le_of_ble_eq_true rfl⟩) (rm0x hK hPM) rfl hl.1 rfl (Nat.le_of_ble_eq_true rfl) dL_law_358 ⟨Nat.le_of_ble_eq_true rfl, Nat.le_of_ble_eq_true rfl⟩ ?_
  refine lv_icmp_eq (x := (-103)) (y := (-103)) (tgt := 653) E.1 E.2.1 dL_law_361 (by decide) (fun _ => ?_) (fun h9 => absurd (rfl) h9)
  exact hend _ _ hS ls (lv_sub hl [0, 1] rfl)
set_option maxHeartbeats 4000000 in
set_option maxRecDepth 100000 in
/-- the law at need -/
theorem law_10 {p : Program} {e : Env} {s : State} {m : MethodId} {below : List Frame} {meth : Method} {c : Code} (l : Launch) {b : Nat} {xs : Nat → Int32} {D : va_G} {cI cB : ClassId} {ad ad2 : Nat → Nat} {Q : State → Prop} (E : CallFix p m c cL_law 4 s #[Value.ref b] wsL_law RL) (hX : va_X b 4 xs s s.heap) (hbl : b < s.heap.size) (hK : wK D cI cB s) (hIX : wI 25 ad) (hIM : wI 20 ad2) (hAX : ∀ k : Nat, k < 25 → s.heap.size ≤ ad k) (hAM : ∀ k : Nat, k < 20 → s.heap.size ≤ ad2 k) (hXM : ∀ j k : Nat, j < 25 → k < 20 → ad j ≠ ad2 k) {H : Heap} {locs : List Loc} (hPX : va_P D vwCl (wX cI ad z0 zz) H) (hPM : va_P D vwCl (wM cI cB ad2 z0 zL zz) H) (hS : va_S (fun q : Nat => s.heap.size ≤ q) s.heap H locs) (hend : ∀ (H : Heap) (locs : List Loc), va_S (fun q : Nat => s.heap.size ≤ q) s.heap H locs → ∀ ls : Array Slot, lv_has ls 4 [(3, .int 0), (0, .ref b)] → W p l e room_1 s m #[Value.ref b] below meth c H locs 45 348 Q (F0 m 653 ls [])) (ls : Array Slot) (hl : lv_has ls 4 [(3, .int 0), (0, .ref b), (1, .ref (ad 0)), (2, .ref (ad2 0))]) : W p l e room_1 s m #[Value.ref b] below meth c H locs 45 348 Q (F0 m 366 ls []) := by
  have hbA : ¬ (fun q : Nat => s.heap.size ≤ q) b := Nat.not_le.mpr hbl
  have hAXs : ∀ q, wA 25 ad q → s.heap.size ≤ q := fun q h => by obtain ⟨k, hk, e1⟩ := h; rw [e1]; exact hAX k hk
  have hAMs : ∀ q, wA 20 ad2 q → s.heap.size ≤ q := fun q h => by obtain ⟨k, hk, e1⟩ := h; rw [e1]; exact hAM k hk
  refine lv_aload_n E.1 E.2.1 dL_law_366 rfl (lv_at hl 2 rfl) ?_
  refine lv_aload_n E.1 E.2.1 dL_law_367 rfl (lv_at hl 1 rfl) ?_
  refine lv_iload_n E.1 E.2.1 dL_law_368 rfl (lv_at hl 0 rfl) ?_
  refine lv_iconst (v := 1) E.1 E.2.1 dL_law_369 (by decide) ?_
  refine lv_iadd E.1 E.2.1 dL_law_370 ?_
  refine lv_topi (fun y_1 ey_1 => ?_)
  obtain rfl : y_1 = 1 := ey_1.trans (by decide)
  refine va_sld (i := 1) E.1 E.2.1 hX hbl hbA hS (by unfold vp_in; decide) dL_law_371 ?_
  refine lv_aload_n E.1 E.2.1 dL_law_372 rfl (lv_at hl 1 rfl) ?_
  refine lv_iload_n E.1 E.2.1 dL_law_373 rfl (lv_at hl 0 rfl) ?_
  refine lv_iconst (v := 2) E.1 E.2.1 dL_law_374 (by decide) ?_
  refine lv_iadd E.1 E.2.1 dL_law_375 ?_
  refine lv_topi (fun y_2 ey_2 => ?_)
  obtain rfl : y_2 = 2 := ey_2.trans (by decide)
  refine va_sld (i := 2) E.1 E.2.1 hX hbl hbA hS (by unfold vp_in; decide) dL_law_376 ?_
  refine g_VR (As := [.int (xs (Int32.toNatClampNeg 1)), .int (xs (Int32.toNatClampNeg 2))]) (rest := []) E hK hPX (z_X2_need l D cI cB ad (xs (Int32.toNatClampNeg 1)) (xs (Int32.toNatClampNeg 2))) (cwV 2 E.2.2.2.2 gL_law_X2_need rfl rfl rfl (by decide +kernel) ⟨Nat.le_of_ble_eq_true rfl, Nat.le_of_ble_eq_true rfl⟩) (rx hK hPX) rfl hl.1 rfl (by decide) dL_law_377 ⟨Nat.le_of_ble_eq_true rfl, Nat.le_of_ble_eq_true rfl⟩ ?_
  refine lv_aload_n E.1 E.2.1 dL_law_380 rfl (lv_at hl 3 rfl) ?_
  refine lv_aload_n E.1 E.2.1 dL_law_381 rfl (lv_at hl 1 rfl) ?_
  refine lv_iload_n E.1 E.2.1 dL_law_382 rfl (lv_at hl 0 rfl) ?_
  refine lv_iconst (v := 1) E.1 E.2.1 dL_law_383 (by decide) ?_
  refine lv_iadd E.1 E.2.1 dL_law_384 ?_
  refine lv_topi (fun y_3 ey_3 => ?_)
  obtain rfl : y_3 = 1 := ey_3.trans (by decide)
  refine va_sld (i := 1) E.1 E.2.1 hX hbl hbA hS (by unfold vp_in; decide) dL_law_385 ?_
  refine lv_aload_n E.1 E.2.1 dL_law_386 rfl (lv_at hl 1 rfl) ?_
  refine lv_iload_n E.1 E.2.1 dL_law_387 rfl (lv_at hl 0 rfl) ?_
  refine lv_iconst (v := 2) E.1 E.2.1 dL_law_388 (by decide) ?_
  refine lv_iadd E.1 E.2.1 dL_law_389 ?_
  refine lv_topi (fun y_4 ey_4 => ?_)
  obtain rfl : y_4 = 2 := ey_4.trans (by decide)
  refine va_sld (i := 2) E.1 E.2.1 hX hbl hbA hS (by unfold vp_in; decide) dL_law_390 ?_
  refine g_VR (As := [.int (xs (Int32.toNatClampNeg 1)), .int (xs (Int32.toNatClampNeg 2))]) (rest := [.int (-101)]) E hK hPM (z_X3_need l D cI cB ad2 zL (xs (Int32.toNatClampNeg 1)) (xs (Int32.toNatClampNeg 2))) (cwV 2 E.2.2.2.2 gL_law_X3_need rfl rfl rfl (by decide +kernel) ⟨Nat.le_of_ble_eq_true rfl, Nat.le_of_ble_eq_true rfl⟩) (rm0x hK hPM) rfl hl.1 rfl (Nat.le_of_ble_eq_true rfl) dL_law_391 ⟨Nat.le_of_ble_eq_true rfl, Nat.le_of_ble_eq_true rfl⟩ ?_
  refine lv_icmp_eq (x := (-101)) (y := (-101)) (tgt := 653) E.1 E.2.1 dL_law_394 (by decide) (fun _ => ?_) (fun h9 => absurd (rfl) h9)
  exact hend _ _ hS ls (lv_sub hl [0, 1] rfl)
set_option maxHeartbeats 4000000 in
set_option maxRecDepth 100000 in
/-- the law at plan -/
theorem law_11 {p : Program} {e : Env} {s : State} {m : MethodId} {below : List Frame} {meth : Method} {c : Code} (l : Launch) {b : Nat} {xs : Nat → Int32} {D : va_G} {cI cB : ClassId} {ad ad2 : Nat → Nat} {Q : State → Prop} (E : CallFix p m c cL_law 4 s #[Value.ref b] wsL_law RL) (hX : va_X b 4 xs s s.heap) (hbl : b < s.heap.size) (hK : wK D cI cB s) (hIX : wI 25 ad) (hIM : wI 20 ad2) (hAX : ∀ k : Nat, k < 25 → s.heap.size ≤ ad k) (hAM : ∀ k : Nat, k < 20 → s.heap.size ≤ ad2 k) (hXM : ∀ j k : Nat, j < 25 → k < 20 → ad j ≠ ad2 k) {H : Heap} {locs : List Loc} (hPX : va_P D vwCl (wX cI ad z0 zz) H) (hPM : va_P D vwCl (wM cI cB ad2 z0 zL zz) H) (hS : va_S (fun q : Nat => s.heap.size ≤ q) s.heap H locs) (hend : ∀ (H : Heap) (locs : List Loc), va_S (fun q : Nat => s.heap.size ≤ q) s.heap H locs → ∀ ls : Array Slot, lv_has ls 4 [(3, .int 0), (0, .ref b)] → W p l e room_1 s m #[Value.ref b] below meth c H locs 45 348 Q (F0 m 653 ls [])) (ls : Array Slot) (hl : lv_has ls 4 [(3, .int 0), (0, .ref b), (1, .ref (ad 0)), (2, .ref (ad2 0))]) : W p l e room_1 s m #[Value.ref b] below meth c H locs 45 348 Q (F0 m 399 ls []) := by
  have hbA : ¬ (fun q : Nat => s.heap.size ≤ q) b := Nat.not_le.mpr hbl
  have hAXs : ∀ q, wA 25 ad q → s.heap.size ≤ q := fun q h => by obtain ⟨k, hk, e1⟩ := h; rw [e1]; exact hAX k hk
  have hAMs : ∀ q, wA 20 ad2 q → s.heap.size ≤ q := fun q h => by obtain ⟨k, hk, e1⟩ := h; rw [e1]; exact hAM k hk
  refine lv_aload_n E.1 E.2.1 dL_law_399 rfl (lv_at hl 2 rfl) ?_
  refine lv_aload_n E.1 E.2.1 dL_law_400 rfl (lv_at hl 1 rfl) ?_
  refine lv_iload_n E.1 E.2.1 dL_law_401 rfl (lv_at hl 0 rfl) ?_
  refine lv_iconst (v := 1) E.1 E.2.1 dL_law_402 (by decide) ?_
  refine lv_iadd E.1 E.2.1 dL_law_403 ?_
  refine lv_topi (fun y_1 ey_1 => ?_)
  obtain rfl : y_1 = 1 := ey_1.trans (by decide)
  refine va_sld (i := 1) E.1 E.2.1 hX hbl hbA hS (by unfold vp_in; decide) dL_law_404 ?_
  refine lv_aload_n E.1 E.2.1 dL_law_405 rfl (lv_at hl 1 rfl) ?_
  refine lv_iload_n E.1 E.2.1 dL_law_406 rfl (lv_at hl 0 rfl) ?_
  refine lv_iconst (v := 2) E.1 E.2.1 dL_law_407 (by decide) ?_
  refine lv_iadd E.1 E.2.1 dL_law_408 ?_
  refine lv_topi (fun y_2 ey_2 => ?_)
  obtain rfl : y_2 = 2 := ey_2.trans (by decide)
  refine va_sld (i := 2) E.1 E.2.1 hX hbl hbA hS (by unfold vp_in; decide) dL_law_409 ?_
  refine lv_aload_n E.1 E.2.1 dL_law_410 rfl (lv_at hl 1 rfl) ?_
  refine lv_iload_n E.1 E.2.1 dL_law_411 rfl (lv_at hl 0 rfl) ?_
  refine lv_iconst (v := 3) E.1 E.2.1 dL_law_412 (by decide) ?_
  refine lv_iadd E.1 E.2.1 dL_law_413 ?_
  refine lv_topi (fun y_3 ey_3 => ?_)
  obtain rfl : y_3 = 3 := ey_3.trans (by decide)
  refine va_sld (i := 3) E.1 E.2.1 hX hbl hbA hS (by unfold vp_in; decide) dL_law_414 ?_
  refine g_VR (As := [.int (xs (Int32.toNatClampNeg 1)), .int (xs (Int32.toNatClampNeg 2)), .int (xs (Int32.toNatClampNeg 3))]) (rest := []) E hK hPX (z_X2_plan l D cI cB ad (xs (Int32.toNatClampNeg 1)) (xs (Int32.toNatClampNeg 2)) (xs (Int32.toNatClampNeg 3))) (cwV 3 E.2.2.2.2 gL_law_X2_plan rfl rfl rfl (by decide +kernel) ⟨Nat.le_of_ble_eq_true rfl, Nat.le_of_ble_eq_true rfl⟩) (rx hK hPX) rfl hl.1 rfl (by decide) dL_law_415 ⟨Nat.le_of_ble_eq_true rfl, Nat.le_of_ble_eq_true rfl⟩ ?_
  refine lv_aload_n E.1 E.2.1 dL_law_418 rfl (lv_at hl 3 rfl) ?_
  refine lv_aload_n E.1 E.2.1 dL_law_419 rfl (lv_at hl 1 rfl) ?_
  refine lv_iload_n E.1 E.2.1 dL_law_420 rfl (lv_at hl 0 rfl) ?_
  refine lv_iconst (v := 1) E.1 E.2.1 dL_law_421 (by decide) ?_
  refine lv_iadd E.1 E.2.1 dL_law_422 ?_
  refine lv_topi (fun y_4 ey_4 => ?_)
  obtain rfl : y_4 = 1 := ey_4.trans (by decide)
  refine va_sld (i := 1) E.1 E.2.1 hX hbl hbA hS (by unfold vp_in; decide) dL_law_423 ?_
  refine lv_aload_n E.1 E.2.1 dL_law_424 rfl (lv_at hl 1 rfl) ?_
  refine lv_iload_n E.1 E.2.1 dL_law_425 rfl (lv_at hl 0 rfl) ?_
  refine lv_iconst (v := 2) E.1 E.2.1 dL_law_426 (by decide) ?_
  refine lv_iadd E.1 E.2.1 dL_law_427 ?_
  refine lv_topi (fun y_5 ey_5 => ?_)
  obtain rfl : y_5 = 2 := ey_5.trans (by decide)
  refine va_sld (i := 2) E.1 E.2.1 hX hbl hbA hS (by unfold vp_in; decide) dL_law_428 ?_
  refine lv_aload_n E.1 E.2.1 dL_law_429 rfl (lv_at hl 1 rfl) ?_
  refine lv_iload_n E.1 E.2.1 dL_law_430 rfl (lv_at hl 0 rfl) ?_
  refine lv_iconst (v := 3) E.1 E.2.1 dL_law_431 (by decide) ?_
  refine lv_iadd E.1 E.2.1 dL_law_432 ?_
  refine lv_topi (fun y_6 ey_6 => ?_)
  obtain rfl : y_6 = 3 := ey_6.trans (by decide)
  refine va_sld (i := 3) E.1 E.2.1 hX hbl hbA hS (by unfold vp_in; decide) dL_law_433 ?_
  refine g_VR (As := [.int (xs (Int32.toNatClampNeg 1)), .int (xs (Int32.toNatClampNeg 2)), .int (xs (Int32.toNatClampNeg 3))]) (rest := [.int (if (0 ≤ (xs (Int32.toNatClampNeg 1)) ∧ (xs (Int32.toNatClampNeg 1)) ≤ 60) ∧ (0 ≤ (xs (Int32.toNatClampNeg 2)) ∧ (xs (Int32.toNatClampNeg 2)) ≤ 9) ∧ (0 ≤ (xs (Int32.toNatClampNeg 3)) ∧ (xs (Int32.toNatClampNeg 3)) ≤ 3) then (-103) else (-102))]) E hK hPM (z_X3_plan l D cI cB ad2 zL (xs (Int32.toNatClampNeg 1)) (xs (Int32.toNatClampNeg 2)) (xs (Int32.toNatClampNeg 3))) (cwV 3 E.2.2.2.2 gL_law_X3_plan rfl rfl rfl (by decide +kernel) ⟨Nat.le_of_ble_eq_true rfl, Nat.le_of_ble_eq_true rfl⟩) (rm0x hK hPM) rfl hl.1 rfl (Nat.le_of_ble_eq_true rfl) dL_law_434 ⟨Nat.le_of_ble_eq_true rfl, Nat.le_of_ble_eq_true rfl⟩ ?_
  refine lv_icmp_eq (x := if (0 ≤ (xs (Int32.toNatClampNeg 1)) ∧ (xs (Int32.toNatClampNeg 1)) ≤ 60) ∧ (0 ≤ (xs (Int32.toNatClampNeg 2)) ∧ (xs (Int32.toNatClampNeg 2)) ≤ 9) ∧ (0 ≤ (xs (Int32.toNatClampNeg 3)) ∧ (xs (Int32.toNatClampNeg 3)) ≤ 3) then (-103) else (-102)) (y := if (0 ≤ (xs (Int32.toNatClampNeg 1)) ∧ (xs (Int32.toNatClampNeg 1)) ≤ 60) ∧ (0 ≤ (xs (Int32.toNatClampNeg 2)) ∧ (xs (Int32.toNatClampNeg 2)) ≤ 9) ∧ (0 ≤ (xs (Int32.toNatClampNeg 3)) ∧ (xs (Int32.toNatClampNeg 3)) ≤ 3) then (-103) else (-102)) (tgt := 653) E.1 E.2.1 dL_law_437 (by decide) (fun _ => ?_) (fun h9 => absurd (rfl) h9)
  exact hend _ _ hS ls (lv_sub hl [0, 1] rfl)
set_option maxHeartbeats 4000000 in
set_option maxRecDepth 100000 in
/-- the law at error -/
theorem law_12 {p : Program} {e : Env} {s : State} {m : MethodId} {below : List Frame} {meth : Method} {c : Code} (l : Launch) {b : Nat} {xs : Nat → Int32} {D : va_G} {cI cB : ClassId} {ad ad2 : Nat → Nat} {Q : State → Prop} (E : CallFix p m c cL_law 4 s #[Value.ref b] wsL_law RL) (hX : va_X b 4 xs s s.heap) (hbl : b < s.heap.size) (hK : wK D cI cB s) (hIX : wI 25 ad) (hIM : wI 20 ad2) (hAX : ∀ k : Nat, k < 25 → s.heap.size ≤ ad k) (hAM : ∀ k : Nat, k < 20 → s.heap.size ≤ ad2 k) (hXM : ∀ j k : Nat, j < 25 → k < 20 → ad j ≠ ad2 k) {H : Heap} {locs : List Loc} (hPX : va_P D vwCl (wX cI ad z0 zz) H) (hPM : va_P D vwCl (wM cI cB ad2 z0 zL zz) H) (hS : va_S (fun q : Nat => s.heap.size ≤ q) s.heap H locs) (hend : ∀ (H : Heap) (locs : List Loc), va_S (fun q : Nat => s.heap.size ≤ q) s.heap H locs → ∀ ls : Array Slot, lv_has ls 4 [(3, .int 0), (0, .ref b)] → W p l e room_1 s m #[Value.ref b] below meth c H locs 45 348 Q (F0 m 653 ls [])) (ls : Array Slot) (hl : lv_has ls 4 [(3, .int 0), (0, .ref b), (1, .ref (ad 0)), (2, .ref (ad2 0))]) : W p l e room_1 s m #[Value.ref b] below meth c H locs 45 348 Q (F0 m 442 ls []) := by
  have hbA : ¬ (fun q : Nat => s.heap.size ≤ q) b := Nat.not_le.mpr hbl
  have hAXs : ∀ q, wA 25 ad q → s.heap.size ≤ q := fun q h => by obtain ⟨k, hk, e1⟩ := h; rw [e1]; exact hAX k hk
  have hAMs : ∀ q, wA 20 ad2 q → s.heap.size ≤ q := fun q h => by obtain ⟨k, hk, e1⟩ := h; rw [e1]; exact hAM k hk
  refine lv_aload_n E.1 E.2.1 dL_law_442 rfl (lv_at hl 2 rfl) ?_
  refine lv_aload_n E.1 E.2.1 dL_law_443 rfl (lv_at hl 1 rfl) ?_
  refine lv_iload_n E.1 E.2.1 dL_law_444 rfl (lv_at hl 0 rfl) ?_
  refine lv_iconst (v := 1) E.1 E.2.1 dL_law_445 (by decide) ?_
  refine lv_iadd E.1 E.2.1 dL_law_446 ?_
  refine lv_topi (fun y_1 ey_1 => ?_)
  obtain rfl : y_1 = 1 := ey_1.trans (by decide)
  refine va_sld (i := 1) E.1 E.2.1 hX hbl hbA hS (by unfold vp_in; decide) dL_law_447 ?_
  refine g_VR (As := [.int (xs (Int32.toNatClampNeg 1))]) (rest := []) E hK hPX (z_X2_error l D cI cB ad (xs (Int32.toNatClampNeg 1))) (cwV 1 E.2.2.2.2 gL_law_X2_error rfl rfl rfl (by decide +kernel) ⟨Nat.le_of_ble_eq_true rfl, Nat.le_of_ble_eq_true rfl⟩) (rx hK hPX) rfl hl.1 rfl (by decide) dL_law_448 ⟨Nat.le_of_ble_eq_true rfl, Nat.le_of_ble_eq_true rfl⟩ ?_
  refine lv_aload_n E.1 E.2.1 dL_law_451 rfl (lv_at hl 3 rfl) ?_
  refine lv_aload_n E.1 E.2.1 dL_law_452 rfl (lv_at hl 1 rfl) ?_
  refine lv_iload_n E.1 E.2.1 dL_law_453 rfl (lv_at hl 0 rfl) ?_
  refine lv_iconst (v := 1) E.1 E.2.1 dL_law_454 (by decide) ?_
  refine lv_iadd E.1 E.2.1 dL_law_455 ?_
  refine lv_topi (fun y_2 ey_2 => ?_)
  obtain rfl : y_2 = 1 := ey_2.trans (by decide)
  refine va_sld (i := 1) E.1 E.2.1 hX hbl hbA hS (by unfold vp_in; decide) dL_law_456 ?_
  refine g_VR (As := [.int (xs (Int32.toNatClampNeg 1))]) (rest := [.int (if 0 ≤ (xs (Int32.toNatClampNeg 1)) ∧ (xs (Int32.toNatClampNeg 1)) ≤ 1 then (-103) else (-102))]) E hK hPM (z_X3_error l D cI cB ad2 zL (xs (Int32.toNatClampNeg 1))) (cwV 1 E.2.2.2.2 gL_law_X3_error rfl rfl rfl (by decide +kernel) ⟨Nat.le_of_ble_eq_true rfl, Nat.le_of_ble_eq_true rfl⟩) (rm0x hK hPM) rfl hl.1 rfl (Nat.le_of_ble_eq_true rfl) dL_law_457 ⟨Nat.le_of_ble_eq_true rfl, Nat.le_of_ble_eq_true rfl⟩ ?_
  refine lv_icmp_eq (x := if 0 ≤ (xs (Int32.toNatClampNeg 1)) ∧ (xs (Int32.toNatClampNeg 1)) ≤ 1 then (-103) else (-102)) (y := if 0 ≤ (xs (Int32.toNatClampNeg 1)) ∧ (xs (Int32.toNatClampNeg 1)) ≤ 1 then (-103) else (-102)) (tgt := 653) E.1 E.2.1 dL_law_460 (by decide) (fun _ => ?_) (fun h9 => absurd (rfl) h9)
  exact hend _ _ hS ls (lv_sub hl [0, 1] rfl)
set_option maxHeartbeats 4000000 in
set_option maxRecDepth 100000 in
/-- the law at found -/
theorem law_13 {p : Program} {e : Env} {s : State} {m : MethodId} {below : List Frame} {meth : Method} {c : Code} (l : Launch) {b : Nat} {xs : Nat → Int32} {D : va_G} {cI cB : ClassId} {ad ad2 : Nat → Nat} {Q : State → Prop} (E : CallFix p m c cL_law 4 s #[Value.ref b] wsL_law RL) (hX : va_X b 4 xs s s.heap) (hbl : b < s.heap.size) (hK : wK D cI cB s) (hIX : wI 25 ad) (hIM : wI 20 ad2) (hAX : ∀ k : Nat, k < 25 → s.heap.size ≤ ad k) (hAM : ∀ k : Nat, k < 20 → s.heap.size ≤ ad2 k) (hXM : ∀ j k : Nat, j < 25 → k < 20 → ad j ≠ ad2 k) {H : Heap} {locs : List Loc} (hPX : va_P D vwCl (wX cI ad z0 zz) H) (hPM : va_P D vwCl (wM cI cB ad2 z0 zL zz) H) (hS : va_S (fun q : Nat => s.heap.size ≤ q) s.heap H locs) (hend : ∀ (H : Heap) (locs : List Loc), va_S (fun q : Nat => s.heap.size ≤ q) s.heap H locs → ∀ ls : Array Slot, lv_has ls 4 [(3, .int 0), (0, .ref b)] → W p l e room_1 s m #[Value.ref b] below meth c H locs 45 348 Q (F0 m 653 ls [])) (ls : Array Slot) (hl : lv_has ls 4 [(3, .int 0), (0, .ref b), (1, .ref (ad 0)), (2, .ref (ad2 0))]) : W p l e room_1 s m #[Value.ref b] below meth c H locs 45 348 Q (F0 m 465 ls []) := by
  have hbA : ¬ (fun q : Nat => s.heap.size ≤ q) b := Nat.not_le.mpr hbl
  have hAXs : ∀ q, wA 25 ad q → s.heap.size ≤ q := fun q h => by obtain ⟨k, hk, e1⟩ := h; rw [e1]; exact hAX k hk
  have hAMs : ∀ q, wA 20 ad2 q → s.heap.size ≤ q := fun q h => by obtain ⟨k, hk, e1⟩ := h; rw [e1]; exact hAM k hk
  refine lv_aload_n E.1 E.2.1 dL_law_465 rfl (lv_at hl 2 rfl) ?_
  refine lv_aload_n E.1 E.2.1 dL_law_466 rfl (lv_at hl 1 rfl) ?_
  refine lv_iload_n E.1 E.2.1 dL_law_467 rfl (lv_at hl 0 rfl) ?_
  refine lv_iconst (v := 1) E.1 E.2.1 dL_law_468 (by decide) ?_
  refine lv_iadd E.1 E.2.1 dL_law_469 ?_
  refine lv_topi (fun y_1 ey_1 => ?_)
  obtain rfl : y_1 = 1 := ey_1.trans (by decide)
  refine va_sld (i := 1) E.1 E.2.1 hX hbl hbA hS (by unfold vp_in; decide) dL_law_470 ?_
  refine lv_aload_n E.1 E.2.1 dL_law_471 rfl (lv_at hl 1 rfl) ?_
  refine lv_iload_n E.1 E.2.1 dL_law_472 rfl (lv_at hl 0 rfl) ?_
  refine lv_iconst (v := 2) E.1 E.2.1 dL_law_473 (by decide) ?_
  refine lv_iadd E.1 E.2.1 dL_law_474 ?_
  refine lv_topi (fun y_2 ey_2 => ?_)
  obtain rfl : y_2 = 2 := ey_2.trans (by decide)
  refine va_sld (i := 2) E.1 E.2.1 hX hbl hbA hS (by unfold vp_in; decide) dL_law_475 ?_
  refine lv_aload_n E.1 E.2.1 dL_law_476 rfl (lv_at hl 1 rfl) ?_
  refine lv_iload_n E.1 E.2.1 dL_law_477 rfl (lv_at hl 0 rfl) ?_
  refine lv_iconst (v := 3) E.1 E.2.1 dL_law_478 (by decide) ?_
  refine lv_iadd E.1 E.2.1 dL_law_479 ?_
  refine lv_topi (fun y_3 ey_3 => ?_)
  obtain rfl : y_3 = 3 := ey_3.trans (by decide)
  refine va_sld (i := 3) E.1 E.2.1 hX hbl hbA hS (by unfold vp_in; decide) dL_law_480 ?_
  refine g_VR (As := [.int (xs (Int32.toNatClampNeg 1)), .int (xs (Int32.toNatClampNeg 2)), .int (xs (Int32.toNatClampNeg 3))]) (rest := []) E hK hPX (z_X2_found l D cI cB ad (xs (Int32.toNatClampNeg 1)) (xs (Int32.toNatClampNeg 2)) (xs (Int32.toNatClampNeg 3))) (cwV 3 E.2.2.2.2 gL_law_X2_found rfl rfl rfl (by decide +kernel) ⟨Nat.le_of_ble_eq_true rfl, Nat.le_of_ble_eq_true rfl⟩) (rx hK hPX) rfl hl.1 rfl (by decide) dL_law_481 ⟨Nat.le_of_ble_eq_true rfl, Nat.le_of_ble_eq_true rfl⟩ ?_
  refine lv_aload_n E.1 E.2.1 dL_law_484 rfl (lv_at hl 3 rfl) ?_
  refine lv_aload_n E.1 E.2.1 dL_law_485 rfl (lv_at hl 1 rfl) ?_
  refine lv_iload_n E.1 E.2.1 dL_law_486 rfl (lv_at hl 0 rfl) ?_
  refine lv_iconst (v := 1) E.1 E.2.1 dL_law_487 (by decide) ?_
  refine lv_iadd E.1 E.2.1 dL_law_488 ?_
  refine lv_topi (fun y_4 ey_4 => ?_)
  obtain rfl : y_4 = 1 := ey_4.trans (by decide)
  refine va_sld (i := 1) E.1 E.2.1 hX hbl hbA hS (by unfold vp_in; decide) dL_law_489 ?_
  refine lv_aload_n E.1 E.2.1 dL_law_490 rfl (lv_at hl 1 rfl) ?_
  refine lv_iload_n E.1 E.2.1 dL_law_491 rfl (lv_at hl 0 rfl) ?_
  refine lv_iconst (v := 2) E.1 E.2.1 dL_law_492 (by decide) ?_
  refine lv_iadd E.1 E.2.1 dL_law_493 ?_
  refine lv_topi (fun y_5 ey_5 => ?_)
  obtain rfl : y_5 = 2 := ey_5.trans (by decide)
  refine va_sld (i := 2) E.1 E.2.1 hX hbl hbA hS (by unfold vp_in; decide) dL_law_494 ?_
  refine lv_aload_n E.1 E.2.1 dL_law_495 rfl (lv_at hl 1 rfl) ?_
  refine lv_iload_n E.1 E.2.1 dL_law_496 rfl (lv_at hl 0 rfl) ?_
  refine lv_iconst (v := 3) E.1 E.2.1 dL_law_497 (by decide) ?_
  refine lv_iadd E.1 E.2.1 dL_law_498 ?_
  refine lv_topi (fun y_6 ey_6 => ?_)
  obtain rfl : y_6 = 3 := ey_6.trans (by decide)
  refine va_sld (i := 3) E.1 E.2.1 hX hbl hbA hS (by unfold vp_in; decide) dL_law_499 ?_
  refine g_VR (As := [.int (xs (Int32.toNatClampNeg 1)), .int (xs (Int32.toNatClampNeg 2)), .int (xs (Int32.toNatClampNeg 3))]) (rest := [.int (-101)]) E hK hPM (z_X3_found l D cI cB ad2 zL (xs (Int32.toNatClampNeg 1)) (xs (Int32.toNatClampNeg 2)) (xs (Int32.toNatClampNeg 3))) (cwV 3 E.2.2.2.2 gL_law_X3_found rfl rfl rfl (by decide +kernel) ⟨Nat.le_of_ble_eq_true rfl, Nat.le_of_ble_eq_true rfl⟩) (rm0x hK hPM) rfl hl.1 rfl (Nat.le_of_ble_eq_true rfl) dL_law_500 ⟨Nat.le_of_ble_eq_true rfl, Nat.le_of_ble_eq_true rfl⟩ ?_
  refine lv_icmp_eq (x := (-101)) (y := (-101)) (tgt := 653) E.1 E.2.1 dL_law_503 (by decide) (fun _ => ?_) (fun h9 => absurd (rfl) h9)
  exact hend _ _ hS ls (lv_sub hl [0, 1] rfl)
set_option maxHeartbeats 4000000 in
set_option maxRecDepth 100000 in
/-- the law at forget -/
theorem law_14 {p : Program} {e : Env} {s : State} {m : MethodId} {below : List Frame} {meth : Method} {c : Code} (l : Launch) {b : Nat} {xs : Nat → Int32} {D : va_G} {cI cB : ClassId} {ad ad2 : Nat → Nat} {Q : State → Prop} (E : CallFix p m c cL_law 4 s #[Value.ref b] wsL_law RL) (hX : va_X b 4 xs s s.heap) (hbl : b < s.heap.size) (hK : wK D cI cB s) (hIX : wI 25 ad) (hIM : wI 20 ad2) (hAX : ∀ k : Nat, k < 25 → s.heap.size ≤ ad k) (hAM : ∀ k : Nat, k < 20 → s.heap.size ≤ ad2 k) (hXM : ∀ j k : Nat, j < 25 → k < 20 → ad j ≠ ad2 k) {H : Heap} {locs : List Loc} (hPX : va_P D vwCl (wX cI ad z0 zz) H) (hPM : va_P D vwCl (wM cI cB ad2 z0 zL zz) H) (hS : va_S (fun q : Nat => s.heap.size ≤ q) s.heap H locs) (hend : ∀ (H : Heap) (locs : List Loc), va_S (fun q : Nat => s.heap.size ≤ q) s.heap H locs → ∀ ls : Array Slot, lv_has ls 4 [(3, .int 0), (0, .ref b)] → W p l e room_1 s m #[Value.ref b] below meth c H locs 45 348 Q (F0 m 653 ls [])) (ls : Array Slot) (hl : lv_has ls 4 [(3, .int 0), (0, .ref b), (1, .ref (ad 0)), (2, .ref (ad2 0))]) : W p l e room_1 s m #[Value.ref b] below meth c H locs 45 348 Q (F0 m 508 ls []) := by
  have hbA : ¬ (fun q : Nat => s.heap.size ≤ q) b := Nat.not_le.mpr hbl
  have hAXs : ∀ q, wA 25 ad q → s.heap.size ≤ q := fun q h => by obtain ⟨k, hk, e1⟩ := h; rw [e1]; exact hAX k hk
  have hAMs : ∀ q, wA 20 ad2 q → s.heap.size ≤ q := fun q h => by obtain ⟨k, hk, e1⟩ := h; rw [e1]; exact hAM k hk
  refine lv_aload_n E.1 E.2.1 dL_law_508 rfl (lv_at hl 2 rfl) ?_
  refine g_VWi (As := []) (rest := []) E hK hPX hS hAXs (z_X2_forget l D cI cB ad hIX) (cwV 0 E.2.2.2.2 gL_law_X2_forget rfl rfl rfl (by decide +kernel) ⟨Nat.le_of_ble_eq_true rfl, Nat.le_of_ble_eq_true rfl⟩) (rx hK hPX) rfl hl.1 rfl (by decide) dL_law_509 ⟨Nat.le_of_ble_eq_true rfl, Nat.le_of_ble_eq_true rfl⟩ (fun r_2 u_1 H1 locs hp_3 hP1 hk_4 hS => ?_)
  obtain rfl := hp_3
  have hPM : va_P D vwCl (wM cI cB ad2 z0 zL zz) H1 := hPM.kept (fun k q hq => hk_4 q.1 ((hPM k q hq).lt) (fun h => by obtain ⟨k1, hk1, e1⟩ := h; obtain ⟨k2, e2⟩ := w_key (wM_fst cI cB ad2 z0 zL zz) hq; exact hXM k1 k hk1 k2 (e1.symm.trans e2)))
  generalize H1 = H at hPM hS ⊢
  refine lv_aload_n E.1 E.2.1 dL_law_512 rfl (lv_at hl 3 rfl) ?_
  refine g_VWi (As := []) (rest := [.int 0]) E hK hPM hS hAMs (z_X3_forget l D cI cB ad2 zL hIM) (cwV 0 E.2.2.2.2 gL_law_X3_forget rfl rfl rfl (by decide +kernel) ⟨Nat.le_of_ble_eq_true rfl, Nat.le_of_ble_eq_true rfl⟩) (rm0x hK hPM) rfl hl.1 rfl (Nat.le_of_ble_eq_true rfl) dL_law_513 ⟨Nat.le_of_ble_eq_true rfl, Nat.le_of_ble_eq_true rfl⟩ (fun r_6 u_5 H1 locs hp_7 hP1 hk_8 hS => ?_)
  obtain rfl := hp_7
  generalize H1 = H at hS ⊢
  refine lv_icmp_eq (x := 0) (y := 0) (tgt := 653) E.1 E.2.1 dL_law_516 (by decide) (fun _ => ?_) (fun h9 => absurd (rfl) h9)
  exact hend _ _ hS ls (lv_sub hl [0, 1] rfl)
set_option maxHeartbeats 4000000 in
set_option maxRecDepth 100000 in
/-- the law at suns -/
theorem law_15 {p : Program} {e : Env} {s : State} {m : MethodId} {below : List Frame} {meth : Method} {c : Code} (l : Launch) {b : Nat} {xs : Nat → Int32} {D : va_G} {cI cB : ClassId} {ad ad2 : Nat → Nat} {Q : State → Prop} (E : CallFix p m c cL_law 4 s #[Value.ref b] wsL_law RL) (hX : va_X b 4 xs s s.heap) (hbl : b < s.heap.size) (hK : wK D cI cB s) (hIX : wI 25 ad) (hIM : wI 20 ad2) (hAX : ∀ k : Nat, k < 25 → s.heap.size ≤ ad k) (hAM : ∀ k : Nat, k < 20 → s.heap.size ≤ ad2 k) (hXM : ∀ j k : Nat, j < 25 → k < 20 → ad j ≠ ad2 k) {H : Heap} {locs : List Loc} (hPX : va_P D vwCl (wX cI ad z0 zz) H) (hPM : va_P D vwCl (wM cI cB ad2 z0 zL zz) H) (hS : va_S (fun q : Nat => s.heap.size ≤ q) s.heap H locs) (hend : ∀ (H : Heap) (locs : List Loc), va_S (fun q : Nat => s.heap.size ≤ q) s.heap H locs → ∀ ls : Array Slot, lv_has ls 4 [(3, .int 0), (0, .ref b)] → W p l e room_1 s m #[Value.ref b] below meth c H locs 45 348 Q (F0 m 653 ls [])) (ls : Array Slot) (hl : lv_has ls 4 [(3, .int 0), (0, .ref b), (1, .ref (ad 0)), (2, .ref (ad2 0))]) : W p l e room_1 s m #[Value.ref b] below meth c H locs 45 348 Q (F0 m 521 ls []) := by
  have hbA : ¬ (fun q : Nat => s.heap.size ≤ q) b := Nat.not_le.mpr hbl
  have hAXs : ∀ q, wA 25 ad q → s.heap.size ≤ q := fun q h => by obtain ⟨k, hk, e1⟩ := h; rw [e1]; exact hAX k hk
  have hAMs : ∀ q, wA 20 ad2 q → s.heap.size ≤ q := fun q h => by obtain ⟨k, hk, e1⟩ := h; rw [e1]; exact hAM k hk
  refine lv_aload_n E.1 E.2.1 dL_law_521 rfl (lv_at hl 2 rfl) ?_
  refine g_VR (As := []) (rest := []) E hK hPX (z_X2_suns l D cI cB ad) (cwV 0 E.2.2.2.2 gL_law_X2_suns rfl rfl rfl (by decide +kernel) ⟨Nat.le_of_ble_eq_true rfl, Nat.le_of_ble_eq_true rfl⟩) (rx hK hPX) rfl hl.1 rfl (by decide) dL_law_522 ⟨Nat.le_of_ble_eq_true rfl, Nat.le_of_ble_eq_true rfl⟩ ?_
  refine lv_aload_n E.1 E.2.1 dL_law_525 rfl (lv_at hl 3 rfl) ?_
  refine g_VR (As := []) (rest := [.int (-103)]) E hK hPM (z_X3_suns l D cI cB ad2 zL) (cwV 0 E.2.2.2.2 gL_law_X3_suns rfl rfl rfl (by decide +kernel) ⟨Nat.le_of_ble_eq_true rfl, Nat.le_of_ble_eq_true rfl⟩) (rm0x hK hPM) rfl hl.1 rfl (Nat.le_of_ble_eq_true rfl) dL_law_526 ⟨Nat.le_of_ble_eq_true rfl, Nat.le_of_ble_eq_true rfl⟩ ?_
  refine lv_icmp_eq (x := (-103)) (y := (-103)) (tgt := 653) E.1 E.2.1 dL_law_529 (by decide) (fun _ => ?_) (fun h9 => absurd (rfl) h9)
  exact hend _ _ hS ls (lv_sub hl [0, 1] rfl)
set_option maxHeartbeats 4000000 in
set_option maxRecDepth 100000 in
/-- the law at look -/
theorem law_16 {p : Program} {e : Env} {s : State} {m : MethodId} {below : List Frame} {meth : Method} {c : Code} (l : Launch) {b : Nat} {xs : Nat → Int32} {D : va_G} {cI cB : ClassId} {ad ad2 : Nat → Nat} {Q : State → Prop} (E : CallFix p m c cL_law 4 s #[Value.ref b] wsL_law RL) (hX : va_X b 4 xs s s.heap) (hbl : b < s.heap.size) (hK : wK D cI cB s) (hIX : wI 25 ad) (hIM : wI 20 ad2) (hAX : ∀ k : Nat, k < 25 → s.heap.size ≤ ad k) (hAM : ∀ k : Nat, k < 20 → s.heap.size ≤ ad2 k) (hXM : ∀ j k : Nat, j < 25 → k < 20 → ad j ≠ ad2 k) {H : Heap} {locs : List Loc} (hPX : va_P D vwCl (wX cI ad z0 zz) H) (hPM : va_P D vwCl (wM cI cB ad2 z0 zL zz) H) (hS : va_S (fun q : Nat => s.heap.size ≤ q) s.heap H locs) (hend : ∀ (H : Heap) (locs : List Loc), va_S (fun q : Nat => s.heap.size ≤ q) s.heap H locs → ∀ ls : Array Slot, lv_has ls 4 [(3, .int 0), (0, .ref b)] → W p l e room_1 s m #[Value.ref b] below meth c H locs 45 348 Q (F0 m 653 ls [])) (ls : Array Slot) (hl : lv_has ls 4 [(3, .int 0), (0, .ref b), (1, .ref (ad 0)), (2, .ref (ad2 0))]) : W p l e room_1 s m #[Value.ref b] below meth c H locs 45 348 Q (F0 m 534 ls []) := by
  have hbA : ¬ (fun q : Nat => s.heap.size ≤ q) b := Nat.not_le.mpr hbl
  have hAXs : ∀ q, wA 25 ad q → s.heap.size ≤ q := fun q h => by obtain ⟨k, hk, e1⟩ := h; rw [e1]; exact hAX k hk
  have hAMs : ∀ q, wA 20 ad2 q → s.heap.size ≤ q := fun q h => by obtain ⟨k, hk, e1⟩ := h; rw [e1]; exact hAM k hk
  refine lv_aload_n E.1 E.2.1 dL_law_534 rfl (lv_at hl 2 rfl) ?_
  refine g_VR (As := []) (rest := []) E hK hPX (z_X2_look l D cI cB ad) (cwV 0 E.2.2.2.2 gL_law_X2_look rfl rfl rfl (by decide +kernel) ⟨Nat.le_of_ble_eq_true rfl, Nat.le_of_ble_eq_true rfl⟩) (rx hK hPX) rfl hl.1 rfl (by decide) dL_law_535 ⟨Nat.le_of_ble_eq_true rfl, Nat.le_of_ble_eq_true rfl⟩ ?_
  refine lv_aload_n E.1 E.2.1 dL_law_538 rfl (lv_at hl 3 rfl) ?_
  refine g_VR (As := []) (rest := [.int (-103)]) E hK hPM (z_X3_look l D cI cB ad2 zL) (cwV 0 E.2.2.2.2 gL_law_X3_look rfl rfl rfl (by decide +kernel) ⟨Nat.le_of_ble_eq_true rfl, Nat.le_of_ble_eq_true rfl⟩) (rm0x hK hPM) rfl hl.1 rfl (Nat.le_of_ble_eq_true rfl) dL_law_539 ⟨Nat.le_of_ble_eq_true rfl, Nat.le_of_ble_eq_true rfl⟩ ?_
  refine lv_icmp_eq (x := (-103)) (y := (-103)) (tgt := 653) E.1 E.2.1 dL_law_542 (by decide) (fun _ => ?_) (fun h9 => absurd (rfl) h9)
  exact hend _ _ hS ls (lv_sub hl [0, 1] rfl)
set_option maxHeartbeats 4000000 in
set_option maxRecDepth 100000 in
/-- the law at winters -/
theorem law_17 {p : Program} {e : Env} {s : State} {m : MethodId} {below : List Frame} {meth : Method} {c : Code} (l : Launch) {b : Nat} {xs : Nat → Int32} {D : va_G} {cI cB : ClassId} {ad ad2 : Nat → Nat} {Q : State → Prop} (E : CallFix p m c cL_law 4 s #[Value.ref b] wsL_law RL) (hX : va_X b 4 xs s s.heap) (hbl : b < s.heap.size) (hK : wK D cI cB s) (hIX : wI 25 ad) (hIM : wI 20 ad2) (hAX : ∀ k : Nat, k < 25 → s.heap.size ≤ ad k) (hAM : ∀ k : Nat, k < 20 → s.heap.size ≤ ad2 k) (hXM : ∀ j k : Nat, j < 25 → k < 20 → ad j ≠ ad2 k) {H : Heap} {locs : List Loc} (hPX : va_P D vwCl (wX cI ad z0 zz) H) (hPM : va_P D vwCl (wM cI cB ad2 z0 zL zz) H) (hS : va_S (fun q : Nat => s.heap.size ≤ q) s.heap H locs) (hend : ∀ (H : Heap) (locs : List Loc), va_S (fun q : Nat => s.heap.size ≤ q) s.heap H locs → ∀ ls : Array Slot, lv_has ls 4 [(3, .int 0), (0, .ref b)] → W p l e room_1 s m #[Value.ref b] below meth c H locs 45 348 Q (F0 m 653 ls [])) (ls : Array Slot) (hl : lv_has ls 4 [(3, .int 0), (0, .ref b), (1, .ref (ad 0)), (2, .ref (ad2 0))]) : W p l e room_1 s m #[Value.ref b] below meth c H locs 45 348 Q (F0 m 547 ls []) := by
  have hbA : ¬ (fun q : Nat => s.heap.size ≤ q) b := Nat.not_le.mpr hbl
  have hAXs : ∀ q, wA 25 ad q → s.heap.size ≤ q := fun q h => by obtain ⟨k, hk, e1⟩ := h; rw [e1]; exact hAX k hk
  have hAMs : ∀ q, wA 20 ad2 q → s.heap.size ≤ q := fun q h => by obtain ⟨k, hk, e1⟩ := h; rw [e1]; exact hAM k hk
  refine lv_aload_n E.1 E.2.1 dL_law_547 rfl (lv_at hl 2 rfl) ?_
  refine lv_aload_n E.1 E.2.1 dL_law_548 rfl (lv_at hl 1 rfl) ?_
  refine lv_iload_n E.1 E.2.1 dL_law_549 rfl (lv_at hl 0 rfl) ?_
  refine lv_iconst (v := 1) E.1 E.2.1 dL_law_550 (by decide) ?_
  refine lv_iadd E.1 E.2.1 dL_law_551 ?_
  refine lv_topi (fun y_1 ey_1 => ?_)
  obtain rfl : y_1 = 1 := ey_1.trans (by decide)
  refine va_sld (i := 1) E.1 E.2.1 hX hbl hbA hS (by unfold vp_in; decide) dL_law_552 ?_
  refine lv_aload_n E.1 E.2.1 dL_law_553 rfl (lv_at hl 1 rfl) ?_
  refine lv_iload_n E.1 E.2.1 dL_law_554 rfl (lv_at hl 0 rfl) ?_
  refine lv_iconst (v := 2) E.1 E.2.1 dL_law_555 (by decide) ?_
  refine lv_iadd E.1 E.2.1 dL_law_556 ?_
  refine lv_topi (fun y_2 ey_2 => ?_)
  obtain rfl : y_2 = 2 := ey_2.trans (by decide)
  refine va_sld (i := 2) E.1 E.2.1 hX hbl hbA hS (by unfold vp_in; decide) dL_law_557 ?_
  refine lv_aload_n E.1 E.2.1 dL_law_558 rfl (lv_at hl 1 rfl) ?_
  refine lv_iload_n E.1 E.2.1 dL_law_559 rfl (lv_at hl 0 rfl) ?_
  refine lv_iconst (v := 3) E.1 E.2.1 dL_law_560 (by decide) ?_
  refine lv_iadd E.1 E.2.1 dL_law_561 ?_
  refine lv_topi (fun y_3 ey_3 => ?_)
  obtain rfl : y_3 = 3 := ey_3.trans (by decide)
  refine va_sld (i := 3) E.1 E.2.1 hX hbl hbA hS (by unfold vp_in; decide) dL_law_562 ?_
  refine g_VR (As := [.int (xs (Int32.toNatClampNeg 1)), .int (xs (Int32.toNatClampNeg 2)), .int (xs (Int32.toNatClampNeg 3))]) (rest := []) E hK hPX (z_X2_winters l D cI cB ad (xs (Int32.toNatClampNeg 1)) (xs (Int32.toNatClampNeg 2)) (xs (Int32.toNatClampNeg 3))) (cwV 3 E.2.2.2.2 gL_law_X2_winters rfl rfl rfl (by decide +kernel) ⟨Nat.le_of_ble_eq_true rfl, Nat.le_of_ble_eq_true rfl⟩) (rx hK hPX) rfl hl.1 rfl (by decide) dL_law_563 ⟨Nat.le_of_ble_eq_true rfl, Nat.le_of_ble_eq_true rfl⟩ ?_
  refine lv_aload_n E.1 E.2.1 dL_law_566 rfl (lv_at hl 3 rfl) ?_
  refine lv_aload_n E.1 E.2.1 dL_law_567 rfl (lv_at hl 1 rfl) ?_
  refine lv_iload_n E.1 E.2.1 dL_law_568 rfl (lv_at hl 0 rfl) ?_
  refine lv_iconst (v := 1) E.1 E.2.1 dL_law_569 (by decide) ?_
  refine lv_iadd E.1 E.2.1 dL_law_570 ?_
  refine lv_topi (fun y_4 ey_4 => ?_)
  obtain rfl : y_4 = 1 := ey_4.trans (by decide)
  refine va_sld (i := 1) E.1 E.2.1 hX hbl hbA hS (by unfold vp_in; decide) dL_law_571 ?_
  refine lv_aload_n E.1 E.2.1 dL_law_572 rfl (lv_at hl 1 rfl) ?_
  refine lv_iload_n E.1 E.2.1 dL_law_573 rfl (lv_at hl 0 rfl) ?_
  refine lv_iconst (v := 2) E.1 E.2.1 dL_law_574 (by decide) ?_
  refine lv_iadd E.1 E.2.1 dL_law_575 ?_
  refine lv_topi (fun y_5 ey_5 => ?_)
  obtain rfl : y_5 = 2 := ey_5.trans (by decide)
  refine va_sld (i := 2) E.1 E.2.1 hX hbl hbA hS (by unfold vp_in; decide) dL_law_576 ?_
  refine lv_aload_n E.1 E.2.1 dL_law_577 rfl (lv_at hl 1 rfl) ?_
  refine lv_iload_n E.1 E.2.1 dL_law_578 rfl (lv_at hl 0 rfl) ?_
  refine lv_iconst (v := 3) E.1 E.2.1 dL_law_579 (by decide) ?_
  refine lv_iadd E.1 E.2.1 dL_law_580 ?_
  refine lv_topi (fun y_6 ey_6 => ?_)
  obtain rfl : y_6 = 3 := ey_6.trans (by decide)
  refine va_sld (i := 3) E.1 E.2.1 hX hbl hbA hS (by unfold vp_in; decide) dL_law_581 ?_
  refine g_VR (As := [.int (xs (Int32.toNatClampNeg 1)), .int (xs (Int32.toNatClampNeg 2)), .int (xs (Int32.toNatClampNeg 3))]) (rest := [.int (if (1 ≤ (xs (Int32.toNatClampNeg 1)) ∧ (xs (Int32.toNatClampNeg 1)) ≤ 60) ∧ (¬ (xs (Int32.toNatClampNeg 2)) < 0) ∧ (0 ≤ (xs (Int32.toNatClampNeg 3)) ∧ (xs (Int32.toNatClampNeg 3)) ≤ 2) then (-103) else (-102))]) E hK hPM (z_X3_winters l D cI cB ad2 zL (xs (Int32.toNatClampNeg 1)) (xs (Int32.toNatClampNeg 2)) (xs (Int32.toNatClampNeg 3))) (cwV 3 E.2.2.2.2 gL_law_X3_winters rfl rfl rfl (by decide +kernel) ⟨Nat.le_of_ble_eq_true rfl, Nat.le_of_ble_eq_true rfl⟩) (rm0x hK hPM) rfl hl.1 rfl (Nat.le_of_ble_eq_true rfl) dL_law_582 ⟨Nat.le_of_ble_eq_true rfl, Nat.le_of_ble_eq_true rfl⟩ ?_
  refine lv_icmp_eq (x := if (1 ≤ (xs (Int32.toNatClampNeg 1)) ∧ (xs (Int32.toNatClampNeg 1)) ≤ 60) ∧ (¬ (xs (Int32.toNatClampNeg 2)) < 0) ∧ (0 ≤ (xs (Int32.toNatClampNeg 3)) ∧ (xs (Int32.toNatClampNeg 3)) ≤ 2) then (-103) else (-102)) (y := if (1 ≤ (xs (Int32.toNatClampNeg 1)) ∧ (xs (Int32.toNatClampNeg 1)) ≤ 60) ∧ (¬ (xs (Int32.toNatClampNeg 2)) < 0) ∧ (0 ≤ (xs (Int32.toNatClampNeg 3)) ∧ (xs (Int32.toNatClampNeg 3)) ≤ 2) then (-103) else (-102)) (tgt := 653) E.1 E.2.1 dL_law_585 (by decide) (fun _ => ?_) (fun h9 => absurd (rfl) h9)
  exact hend _ _ hS ls (lv_sub hl [0, 1] rfl)
set_option maxHeartbeats 4000000 in
set_option maxRecDepth 100000 in
/-- the law at image -/
theorem law_18 {p : Program} {e : Env} {s : State} {m : MethodId} {below : List Frame} {meth : Method} {c : Code} (l : Launch) {b : Nat} {xs : Nat → Int32} {D : va_G} {cI cB : ClassId} {ad ad2 : Nat → Nat} {Q : State → Prop} (E : CallFix p m c cL_law 4 s #[Value.ref b] wsL_law RL) (hX : va_X b 4 xs s s.heap) (hbl : b < s.heap.size) (hK : wK D cI cB s) (hIX : wI 25 ad) (hIM : wI 20 ad2) (hAX : ∀ k : Nat, k < 25 → s.heap.size ≤ ad k) (hAM : ∀ k : Nat, k < 20 → s.heap.size ≤ ad2 k) (hXM : ∀ j k : Nat, j < 25 → k < 20 → ad j ≠ ad2 k) {H : Heap} {locs : List Loc} (hPX : va_P D vwCl (wX cI ad z0 zz) H) (hPM : va_P D vwCl (wM cI cB ad2 z0 zL zz) H) (hS : va_S (fun q : Nat => s.heap.size ≤ q) s.heap H locs) (hend : ∀ (H : Heap) (locs : List Loc), va_S (fun q : Nat => s.heap.size ≤ q) s.heap H locs → ∀ ls : Array Slot, lv_has ls 4 [(3, .int 0), (0, .ref b)] → W p l e room_1 s m #[Value.ref b] below meth c H locs 45 348 Q (F0 m 653 ls [])) (ls : Array Slot) (hl : lv_has ls 4 [(3, .int 0), (0, .ref b), (1, .ref (ad 0)), (2, .ref (ad2 0))]) : W p l e room_1 s m #[Value.ref b] below meth c H locs 45 348 Q (F0 m 590 ls []) := by
  have hbA : ¬ (fun q : Nat => s.heap.size ≤ q) b := Nat.not_le.mpr hbl
  have hAXs : ∀ q, wA 25 ad q → s.heap.size ≤ q := fun q h => by obtain ⟨k, hk, e1⟩ := h; rw [e1]; exact hAX k hk
  have hAMs : ∀ q, wA 20 ad2 q → s.heap.size ≤ q := fun q h => by obtain ⟨k, hk, e1⟩ := h; rw [e1]; exact hAM k hk
  refine lv_aload_n E.1 E.2.1 dL_law_590 rfl (lv_at hl 2 rfl) ?_
  refine g_VR (As := []) (rest := []) E hK hPX (z_X2_image l D cI cB ad) (cwV 0 E.2.2.2.2 gL_law_X2_image rfl rfl rfl (by decide +kernel) ⟨Nat.le_of_ble_eq_true rfl, Nat.le_of_ble_eq_true rfl⟩) (rx hK hPX) rfl hl.1 rfl (by decide) dL_law_591 ⟨Nat.le_of_ble_eq_true rfl, Nat.le_of_ble_eq_true rfl⟩ ?_
  refine lv_aload_n E.1 E.2.1 dL_law_594 rfl (lv_at hl 3 rfl) ?_
  refine g_VR (As := []) (rest := [.int (-103)]) E hK hPM (z_X3_image l D cI cB ad2 zL) (cwV 0 E.2.2.2.2 gL_law_X3_image rfl rfl rfl (by decide +kernel) ⟨Nat.le_of_ble_eq_true rfl, Nat.le_of_ble_eq_true rfl⟩) (rm0x hK hPM) rfl hl.1 rfl (Nat.le_of_ble_eq_true rfl) dL_law_595 ⟨Nat.le_of_ble_eq_true rfl, Nat.le_of_ble_eq_true rfl⟩ ?_
  refine lv_icmp_eq (x := (-103)) (y := (-103)) (tgt := 653) E.1 E.2.1 dL_law_598 (by decide) (fun _ => ?_) (fun h9 => absurd (rfl) h9)
  exact hend _ _ hS ls (lv_sub hl [0, 1] rfl)
set_option maxHeartbeats 4000000 in
set_option maxRecDepth 100000 in
/-- the law at restore -/
theorem law_19 {p : Program} {e : Env} {s : State} {m : MethodId} {below : List Frame} {meth : Method} {c : Code} (l : Launch) {b : Nat} {xs : Nat → Int32} {D : va_G} {cI cB : ClassId} {ad ad2 : Nat → Nat} {Q : State → Prop} (E : CallFix p m c cL_law 4 s #[Value.ref b] wsL_law RL) (hX : va_X b 4 xs s s.heap) (hbl : b < s.heap.size) (hK : wK D cI cB s) (hIX : wI 25 ad) (hIM : wI 20 ad2) (hAX : ∀ k : Nat, k < 25 → s.heap.size ≤ ad k) (hAM : ∀ k : Nat, k < 20 → s.heap.size ≤ ad2 k) (hXM : ∀ j k : Nat, j < 25 → k < 20 → ad j ≠ ad2 k) {H : Heap} {locs : List Loc} (hPX : va_P D vwCl (wX cI ad z0 zz) H) (hPM : va_P D vwCl (wM cI cB ad2 z0 zL zz) H) (hS : va_S (fun q : Nat => s.heap.size ≤ q) s.heap H locs) (hend : ∀ (H : Heap) (locs : List Loc), va_S (fun q : Nat => s.heap.size ≤ q) s.heap H locs → ∀ ls : Array Slot, lv_has ls 4 [(3, .int 0), (0, .ref b)] → W p l e room_1 s m #[Value.ref b] below meth c H locs 45 348 Q (F0 m 653 ls [])) (ls : Array Slot) (hl : lv_has ls 4 [(3, .int 0), (0, .ref b), (1, .ref (ad 0)), (2, .ref (ad2 0))]) : W p l e room_1 s m #[Value.ref b] below meth c H locs 45 348 Q (F0 m 603 ls []) := by
  have hbA : ¬ (fun q : Nat => s.heap.size ≤ q) b := Nat.not_le.mpr hbl
  have hAXs : ∀ q, wA 25 ad q → s.heap.size ≤ q := fun q h => by obtain ⟨k, hk, e1⟩ := h; rw [e1]; exact hAX k hk
  have hAMs : ∀ q, wA 20 ad2 q → s.heap.size ≤ q := fun q h => by obtain ⟨k, hk, e1⟩ := h; rw [e1]; exact hAM k hk
  refine lv_aload_n E.1 E.2.1 dL_law_603 rfl (lv_at hl 2 rfl) ?_
  refine g_VR (As := []) (rest := []) E hK hPX (z_X2_restore l D cI cB ad) (cwV 0 E.2.2.2.2 gL_law_X2_restore rfl rfl rfl (by decide +kernel) ⟨Nat.le_of_ble_eq_true rfl, Nat.le_of_ble_eq_true rfl⟩) (rx hK hPX) rfl hl.1 rfl (by decide) dL_law_604 ⟨Nat.le_of_ble_eq_true rfl, Nat.le_of_ble_eq_true rfl⟩ ?_
  refine lv_aload_n E.1 E.2.1 dL_law_607 rfl (lv_at hl 3 rfl) ?_
  refine g_VR (As := []) (rest := [.int (-103)]) E hK hPM (z_X3_restore l D cI cB ad2 zL) (cwV 0 E.2.2.2.2 gL_law_X3_restore rfl rfl rfl (by decide +kernel) ⟨Nat.le_of_ble_eq_true rfl, Nat.le_of_ble_eq_true rfl⟩) (rm0x hK hPM) rfl hl.1 rfl (Nat.le_of_ble_eq_true rfl) dL_law_608 ⟨Nat.le_of_ble_eq_true rfl, Nat.le_of_ble_eq_true rfl⟩ ?_
  refine lv_icmp_eq (x := (-103)) (y := (-103)) (tgt := 653) E.1 E.2.1 dL_law_611 (by decide) (fun _ => ?_) (fun h9 => absurd (rfl) h9)
  exact hend _ _ hS ls (lv_sub hl [0, 1] rfl)
set_option maxHeartbeats 4000000 in
set_option maxRecDepth 100000 in
/-- the law at count -/
theorem law_20 {p : Program} {e : Env} {s : State} {m : MethodId} {below : List Frame} {meth : Method} {c : Code} (l : Launch) {b : Nat} {xs : Nat → Int32} {D : va_G} {cI cB : ClassId} {ad ad2 : Nat → Nat} {Q : State → Prop} (E : CallFix p m c cL_law 4 s #[Value.ref b] wsL_law RL) (hX : va_X b 4 xs s s.heap) (hbl : b < s.heap.size) (hK : wK D cI cB s) (hIX : wI 25 ad) (hIM : wI 20 ad2) (hAX : ∀ k : Nat, k < 25 → s.heap.size ≤ ad k) (hAM : ∀ k : Nat, k < 20 → s.heap.size ≤ ad2 k) (hXM : ∀ j k : Nat, j < 25 → k < 20 → ad j ≠ ad2 k) {H : Heap} {locs : List Loc} (hPX : va_P D vwCl (wX cI ad z0 zz) H) (hPM : va_P D vwCl (wM cI cB ad2 z0 zL zz) H) (hS : va_S (fun q : Nat => s.heap.size ≤ q) s.heap H locs) (hend : ∀ (H : Heap) (locs : List Loc), va_S (fun q : Nat => s.heap.size ≤ q) s.heap H locs → ∀ ls : Array Slot, lv_has ls 4 [(3, .int 0), (0, .ref b)] → W p l e room_1 s m #[Value.ref b] below meth c H locs 45 348 Q (F0 m 653 ls [])) (ls : Array Slot) (hl : lv_has ls 4 [(3, .int 0), (0, .ref b), (1, .ref (ad 0)), (2, .ref (ad2 0))]) : W p l e room_1 s m #[Value.ref b] below meth c H locs 45 348 Q (F0 m 616 ls []) := by
  have hbA : ¬ (fun q : Nat => s.heap.size ≤ q) b := Nat.not_le.mpr hbl
  have hAXs : ∀ q, wA 25 ad q → s.heap.size ≤ q := fun q h => by obtain ⟨k, hk, e1⟩ := h; rw [e1]; exact hAX k hk
  have hAMs : ∀ q, wA 20 ad2 q → s.heap.size ≤ q := fun q h => by obtain ⟨k, hk, e1⟩ := h; rw [e1]; exact hAM k hk
  refine lv_aload_n E.1 E.2.1 dL_law_616 rfl (lv_at hl 2 rfl) ?_
  refine lv_aload_n E.1 E.2.1 dL_law_617 rfl (lv_at hl 1 rfl) ?_
  refine lv_iload_n E.1 E.2.1 dL_law_618 rfl (lv_at hl 0 rfl) ?_
  refine lv_iconst (v := 1) E.1 E.2.1 dL_law_619 (by decide) ?_
  refine lv_iadd E.1 E.2.1 dL_law_620 ?_
  refine lv_topi (fun y_1 ey_1 => ?_)
  obtain rfl : y_1 = 1 := ey_1.trans (by decide)
  refine va_sld (i := 1) E.1 E.2.1 hX hbl hbA hS (by unfold vp_in; decide) dL_law_621 ?_
  refine g_VR (As := [.int (xs (Int32.toNatClampNeg 1))]) (rest := []) E hK hPX (z_X2_count l D cI cB ad (xs (Int32.toNatClampNeg 1))) (cwV 1 E.2.2.2.2 gL_law_X2_count rfl rfl rfl (by decide +kernel) ⟨Nat.le_of_ble_eq_true rfl, Nat.le_of_ble_eq_true rfl⟩) (rx hK hPX) rfl hl.1 rfl (by decide) dL_law_622 ⟨Nat.le_of_ble_eq_true rfl, Nat.le_of_ble_eq_true rfl⟩ ?_
  refine lv_aload_n E.1 E.2.1 dL_law_625 rfl (lv_at hl 3 rfl) ?_
  refine lv_aload_n E.1 E.2.1 dL_law_626 rfl (lv_at hl 1 rfl) ?_
  refine lv_iload_n E.1 E.2.1 dL_law_627 rfl (lv_at hl 0 rfl) ?_
  refine lv_iconst (v := 1) E.1 E.2.1 dL_law_628 (by decide) ?_
  refine lv_iadd E.1 E.2.1 dL_law_629 ?_
  refine lv_topi (fun y_2 ey_2 => ?_)
  obtain rfl : y_2 = 1 := ey_2.trans (by decide)
  refine va_sld (i := 1) E.1 E.2.1 hX hbl hbA hS (by unfold vp_in; decide) dL_law_630 ?_
  refine g_VR (As := [.int (xs (Int32.toNatClampNeg 1))]) (rest := [.int (if 0 ≤ (xs (Int32.toNatClampNeg 1)) ∧ (xs (Int32.toNatClampNeg 1)) ≤ 9 then 0 else (-102))]) E hK hPM (z_X3_count l D cI cB ad2 zL (xs (Int32.toNatClampNeg 1))) (cwV 1 E.2.2.2.2 gL_law_X3_count rfl rfl rfl (by decide +kernel) ⟨Nat.le_of_ble_eq_true rfl, Nat.le_of_ble_eq_true rfl⟩) (rm0x hK hPM) rfl hl.1 rfl (Nat.le_of_ble_eq_true rfl) dL_law_631 ⟨Nat.le_of_ble_eq_true rfl, Nat.le_of_ble_eq_true rfl⟩ ?_
  refine lv_icmp_eq (x := if 0 ≤ (xs (Int32.toNatClampNeg 1)) ∧ (xs (Int32.toNatClampNeg 1)) ≤ 9 then 0 else (-102)) (y := if 0 ≤ (xs (Int32.toNatClampNeg 1)) ∧ (xs (Int32.toNatClampNeg 1)) ≤ 9 then 0 else (-102)) (tgt := 653) E.1 E.2.1 dL_law_634 (by decide) (fun _ => ?_) (fun h9 => absurd (rfl) h9)
  exact hend _ _ hS ls (lv_sub hl [0, 1] rfl)
set_option maxHeartbeats 4000000 in
set_option maxRecDepth 100000 in
/-- the law at digest -/
theorem law_21 {p : Program} {e : Env} {s : State} {m : MethodId} {below : List Frame} {meth : Method} {c : Code} (l : Launch) {b : Nat} {xs : Nat → Int32} {D : va_G} {cI cB : ClassId} {ad ad2 : Nat → Nat} {Q : State → Prop} (E : CallFix p m c cL_law 4 s #[Value.ref b] wsL_law RL) (hX : va_X b 4 xs s s.heap) (hbl : b < s.heap.size) (hK : wK D cI cB s) (hIX : wI 25 ad) (hIM : wI 20 ad2) (hAX : ∀ k : Nat, k < 25 → s.heap.size ≤ ad k) (hAM : ∀ k : Nat, k < 20 → s.heap.size ≤ ad2 k) (hXM : ∀ j k : Nat, j < 25 → k < 20 → ad j ≠ ad2 k) {H : Heap} {locs : List Loc} (hPX : va_P D vwCl (wX cI ad z0 zz) H) (hPM : va_P D vwCl (wM cI cB ad2 z0 zL zz) H) (hS : va_S (fun q : Nat => s.heap.size ≤ q) s.heap H locs) (hend : ∀ (H : Heap) (locs : List Loc), va_S (fun q : Nat => s.heap.size ≤ q) s.heap H locs → ∀ ls : Array Slot, lv_has ls 4 [(3, .int 0), (0, .ref b)] → W p l e room_1 s m #[Value.ref b] below meth c H locs 45 348 Q (F0 m 653 ls [])) (ls : Array Slot) (hl : lv_has ls 4 [(3, .int 0), (0, .ref b), (1, .ref (ad 0)), (2, .ref (ad2 0))]) : W p l e room_1 s m #[Value.ref b] below meth c H locs 45 348 Q (F0 m 639 ls []) := by
  have hbA : ¬ (fun q : Nat => s.heap.size ≤ q) b := Nat.not_le.mpr hbl
  have hAXs : ∀ q, wA 25 ad q → s.heap.size ≤ q := fun q h => by obtain ⟨k, hk, e1⟩ := h; rw [e1]; exact hAX k hk
  have hAMs : ∀ q, wA 20 ad2 q → s.heap.size ≤ q := fun q h => by obtain ⟨k, hk, e1⟩ := h; rw [e1]; exact hAM k hk
  refine lv_aload_n E.1 E.2.1 dL_law_639 rfl (lv_at hl 2 rfl) ?_
  refine g_VL (As := []) (rest := []) E hK hPX (z_X2_digest l D cI cB ad) (cwV 0 E.2.2.2.2 gL_law_X2_digest rfl rfl rfl (by decide +kernel) ⟨Nat.le_of_ble_eq_true rfl, Nat.le_of_ble_eq_true rfl⟩) (rx hK hPX) rfl hl.1 rfl (by decide) dL_law_640 ⟨Nat.le_of_ble_eq_true rfl, Nat.le_of_ble_eq_true rfl⟩ ?_
  refine lv_aload_n E.1 E.2.1 dL_law_643 rfl (lv_at hl 3 rfl) ?_
  refine g_VWl (As := []) (rest := [.long 869625612486629861]) E hK hPM hS hAMs (z_X3_digest l D cI cB ad2 zL hIM) (cwV 0 E.2.2.2.2 gL_law_X3_digest rfl rfl rfl (by decide +kernel) ⟨Nat.le_of_ble_eq_true rfl, Nat.le_of_ble_eq_true rfl⟩) (rm0x hK hPM) rfl hl.1 rfl (Nat.le_of_ble_eq_true rfl) dL_law_644 ⟨Nat.le_of_ble_eq_true rfl, Nat.le_of_ble_eq_true rfl⟩ (fun r_2 u_1 H1 locs hp_3 hP1 hk_4 hS => ?_)
  obtain rfl := hp_3
  generalize H1 = H at hS ⊢
  refine W.lcmp E.1 E.2.1 dL_law_647 ?_
  refine lv_if_eq (x := lg_cmp 869625612486629861 869625612486629861) (tgt := 653) E.1 E.2.1 dL_law_648 (by decide) (fun _ => ?_) (fun h9 => absurd (by decide) h9)
  exact hend _ _ hS ls (lv_sub hl [0, 1] rfl)
set_option maxHeartbeats 4000000 in
set_option maxRecDepth 100000 in
theorem law_sw {p : Program} {e : Env} {s : State} {m : MethodId} {below : List Frame} {meth : Method} {c : Code} (l : Launch) {b : Nat} {xs : Nat → Int32} {D : va_G} {cI cB : ClassId} {ad ad2 : Nat → Nat} {Q : State → Prop} (E : CallFix p m c cL_law 4 s #[Value.ref b] wsL_law RL) (hX : va_X b 4 xs s s.heap) (hbl : b < s.heap.size) (hK : wK D cI cB s) (hIX : wI 25 ad) (hIM : wI 20 ad2) (hAX : ∀ k : Nat, k < 25 → s.heap.size ≤ ad k) (hAM : ∀ k : Nat, k < 20 → s.heap.size ≤ ad2 k) (hXM : ∀ j k : Nat, j < 25 → k < 20 → ad j ≠ ad2 k) {H : Heap} {locs : List Loc} (hPX : va_P D vwCl (wX cI ad z0 zz) H) (hPM : va_P D vwCl (wM cI cB ad2 z0 zL zz) H) (hS : va_S (fun q : Nat => s.heap.size ≤ q) s.heap H locs) (hend : ∀ (H : Heap) (locs : List Loc), va_S (fun q : Nat => s.heap.size ≤ q) s.heap H locs → ∀ ls : Array Slot, lv_has ls 4 [(3, .int 0), (0, .ref b)] → W p l e room_1 s m #[Value.ref b] below meth c H locs 45 348 Q (F0 m 653 ls [])) (ls : Array Slot) (hl : lv_has ls 4 [(3, .int 0), (0, .ref b), (1, .ref (ad 0)), (2, .ref (ad2 0))]) : W p l e room_1 s m #[Value.ref b] below meth c H locs 45 348 Q (F0 m 26 ls []) := by
  have hbA : ¬ (fun q : Nat => s.heap.size ≤ q) b := Nat.not_le.mpr hbl
  have hAXs : ∀ q, wA 25 ad q → s.heap.size ≤ q := fun q h => by obtain ⟨k, hk, e1⟩ := h; rw [e1]; exact hAX k hk
  have hAMs : ∀ q, wA 20 ad2 q → s.heap.size ≤ q := fun q h => by obtain ⟨k, hk, e1⟩ := h; rw [e1]; exact hAM k hk
  refine lv_aload_n E.1 E.2.1 dL_law_26 rfl (lv_at hl 1 rfl) ?_
  refine lv_iload_n E.1 E.2.1 dL_law_27 rfl (lv_at hl 0 rfl) ?_
  refine va_sld (i := 0) E.1 E.2.1 hX hbl hbA hS (by unfold vp_in; decide) dL_law_28 ?_
  refine lv_bipush (v := 31) E.1 E.2.1 dL_law_29 (by decide) ?_
  refine lv_iand E.1 E.2.1 dL_law_31 ?_
  refine lv_topi (fun y ey => ?_)
  obtain ⟨j, hj, hjy⟩ := pk_andE (xs (Int32.toNatClampNeg 0)) (m := 31) 5 (by decide)
  rw [hjy] at ey
  subst ey
  by_cases h22 : j < 22
  · rcases (show j = 0 ∨ j = 1 ∨ j = 2 ∨ j = 3 ∨ j = 4 ∨ j = 5 ∨ j = 6 ∨ j = 7 ∨ j = 8 ∨ j = 9 ∨ j = 10 ∨ j = 11 ∨ j = 12 ∨ j = 13 ∨ j = 14 ∨ j = 15 ∨ j = 16 ∨ j = 17 ∨ j = 18 ∨ j = 19 ∨ j = 20 ∨ j = 21 by omega) with rfl | rfl | rfl | rfl | rfl | rfl | rfl | rfl | rfl | rfl | rfl | rfl | rfl | rfl | rfl | rfl | rfl | rfl | rfl | rfl | rfl | rfl
    · refine lv_tableIn (x := 0) (off := 104) (tgt := 136) E.1 E.2.1 dL_law_32 (by decide) (by decide) (by decide) (by decide) ?_
      exact law_0 l E hX hbl hK hIX hIM hAX hAM hXM hPX hPM hS hend ls hl
    · refine lv_tableIn (x := 1) (off := 127) (tgt := 159) E.1 E.2.1 dL_law_32 (by decide) (by decide) (by decide) (by decide) ?_
      exact law_1 l E hX hbl hK hIX hIM hAX hAM hXM hPX hPM hS hend ls hl
    · refine lv_tableIn (x := 2) (off := 140) (tgt := 172) E.1 E.2.1 dL_law_32 (by decide) (by decide) (by decide) (by decide) ?_
      exact law_2 l E hX hbl hK hIX hIM hAX hAM hXM hPX hPM hS hend ls hl
    · refine lv_tableIn (x := 3) (off := 153) (tgt := 185) E.1 E.2.1 dL_law_32 (by decide) (by decide) (by decide) (by decide) ?_
      exact law_3 l E hX hbl hK hIX hIM hAX hAM hXM hPX hPM hS hend ls hl
    · refine lv_tableIn (x := 4) (off := 166) (tgt := 198) E.1 E.2.1 dL_law_32 (by decide) (by decide) (by decide) (by decide) ?_
      exact law_4 l E hX hbl hK hIX hIM hAX hAM hXM hPX hPM hS hend ls hl
    · refine lv_tableIn (x := 5) (off := 199) (tgt := 231) E.1 E.2.1 dL_law_32 (by decide) (by decide) (by decide) (by decide) ?_
      exact law_5 l E hX hbl hK hIX hIM hAX hAM hXM hPX hPM hS hend ls hl
    · refine lv_tableIn (x := 6) (off := 232) (tgt := 264) E.1 E.2.1 dL_law_32 (by decide) (by decide) (by decide) (by decide) ?_
      exact law_6 l E hX hbl hK hIX hIM hAX hAM hXM hPX hPM hS hend ls hl
    · refine lv_tableIn (x := 7) (off := 265) (tgt := 297) E.1 E.2.1 dL_law_32 (by decide) (by decide) (by decide) (by decide) ?_
      exact law_7 l E hX hbl hK hIX hIM hAX hAM hXM hPX hPM hS hend ls hl
    · refine lv_tableIn (x := 8) (off := 298) (tgt := 330) E.1 E.2.1 dL_law_32 (by decide) (by decide) (by decide) (by decide) ?_
      exact law_8 l E hX hbl hK hIX hIM hAX hAM hXM hPX hPM hS hend ls hl
    · refine lv_tableIn (x := 9) (off := 321) (tgt := 353) E.1 E.2.1 dL_law_32 (by decide) (by decide) (by decide) (by decide) ?_
      exact law_9 l E hX hbl hK hIX hIM hAX hAM hXM hPX hPM hS hend ls hl
    · refine lv_tableIn (x := 10) (off := 334) (tgt := 366) E.1 E.2.1 dL_law_32 (by decide) (by decide) (by decide) (by decide) ?_
      exact law_10 l E hX hbl hK hIX hIM hAX hAM hXM hPX hPM hS hend ls hl
    · refine lv_tableIn (x := 11) (off := 367) (tgt := 399) E.1 E.2.1 dL_law_32 (by decide) (by decide) (by decide) (by decide) ?_
      exact law_11 l E hX hbl hK hIX hIM hAX hAM hXM hPX hPM hS hend ls hl
    · refine lv_tableIn (x := 12) (off := 410) (tgt := 442) E.1 E.2.1 dL_law_32 (by decide) (by decide) (by decide) (by decide) ?_
      exact law_12 l E hX hbl hK hIX hIM hAX hAM hXM hPX hPM hS hend ls hl
    · refine lv_tableIn (x := 13) (off := 433) (tgt := 465) E.1 E.2.1 dL_law_32 (by decide) (by decide) (by decide) (by decide) ?_
      exact law_13 l E hX hbl hK hIX hIM hAX hAM hXM hPX hPM hS hend ls hl
    · refine lv_tableIn (x := 14) (off := 476) (tgt := 508) E.1 E.2.1 dL_law_32 (by decide) (by decide) (by decide) (by decide) ?_
      exact law_14 l E hX hbl hK hIX hIM hAX hAM hXM hPX hPM hS hend ls hl
    · refine lv_tableIn (x := 15) (off := 489) (tgt := 521) E.1 E.2.1 dL_law_32 (by decide) (by decide) (by decide) (by decide) ?_
      exact law_15 l E hX hbl hK hIX hIM hAX hAM hXM hPX hPM hS hend ls hl
    · refine lv_tableIn (x := 16) (off := 502) (tgt := 534) E.1 E.2.1 dL_law_32 (by decide) (by decide) (by decide) (by decide) ?_
      exact law_16 l E hX hbl hK hIX hIM hAX hAM hXM hPX hPM hS hend ls hl
    · refine lv_tableIn (x := 17) (off := 515) (tgt := 547) E.1 E.2.1 dL_law_32 (by decide) (by decide) (by decide) (by decide) ?_
      exact law_17 l E hX hbl hK hIX hIM hAX hAM hXM hPX hPM hS hend ls hl
    · refine lv_tableIn (x := 18) (off := 558) (tgt := 590) E.1 E.2.1 dL_law_32 (by decide) (by decide) (by decide) (by decide) ?_
      exact law_18 l E hX hbl hK hIX hIM hAX hAM hXM hPX hPM hS hend ls hl
    · refine lv_tableIn (x := 19) (off := 571) (tgt := 603) E.1 E.2.1 dL_law_32 (by decide) (by decide) (by decide) (by decide) ?_
      exact law_19 l E hX hbl hK hIX hIM hAX hAM hXM hPX hPM hS hend ls hl
    · refine lv_tableIn (x := 20) (off := 584) (tgt := 616) E.1 E.2.1 dL_law_32 (by decide) (by decide) (by decide) (by decide) ?_
      exact law_20 l E hX hbl hK hIX hIM hAX hAM hXM hPX hPM hS hend ls hl
    · refine lv_tableIn (x := 21) (off := 607) (tgt := 639) E.1 E.2.1 dL_law_32 (by decide) (by decide) (by decide) (by decide) ?_
      exact law_21 l E hX hbl hK hIX hIM hAX hAM hXM hPX hPM hS hend ls hl
  · refine lv_tableOut (x := nI j) (tgt := 653) E.1 E.2.1 dL_law_32 (Or.inr (by rw [nI_toInt (by omega)]; omega)) (by decide) ?_
    exact hend _ _ hS ls (lv_sub hl [0, 1] rfl)
