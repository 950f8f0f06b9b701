theorem IM_n {n z c m : Nat} {g : Nat → Int32} {b : Nat → Nat → Int32} (h : IM n z c g b) (h2 : m ≤ 6) : IM m z c (upd g 1 (nI m)) b := by
  obtain ⟨h1, h2', h3, h4, h5, h6, h7⟩ := h
  exact ⟨pk_us, h2, by rw [pk_un (by omega)]; exact h3, h4, by rw [pk_un (by omega)]; exact h5, h6, h7⟩
theorem z_lt21 {z : Nat} (h : ¬ nI z = 21) (hz : z ≤ 21) : z < 21 := by
  rcases Nat.lt_or_ge z 21 with q | q
  · exact q
  · exact absurd (show nI z = 21 by rw [show z = 21 by omega]; rfl) h
theorem c_lt6 {c : Nat} (h : ¬ nI c = 6) (hc : c ≤ 6) : c < 6 := by
  rcases Nat.lt_or_ge c 6 with q | q
  · exact q
  · exact absurd (show nI c = 6 by rw [show c = 6 by omega]; rfl) h
def FX3_letter (g : Nat → Int32) (t : Nat → Int32) (gl : Nat → Int64) (b : Nat → Nat → Int32) (tb : Nat → Nat → Int32) (n : Nat) (z : Nat) (c : Nat) (p0 : Int32) : Int32 × SM := (if FX3_within p0 32 126 = 0 then ((-102), g, t, gl, b, tb) else (if nI z = 21 then ((-104), g, t, gl, b, tb) else (nI (z + 1), upd g 16 (nI (z + 1)), t, gl, uA b 10 (upd (b 10) z (vp_nar .byte p0.toInt8.toInt32)), tb)))
set_option maxHeartbeats 4000000 in
set_option maxRecDepth 100000 in
/-- a letter -/
theorem c_X3_letter (l : Launch) (D : va_G) (cI cB : ClassId) (ad : Nat → Nat) (g t : Nat → Int32) (gl : Nat → Int64) (b tb : Nat → Nat → Int32) (n z c : Nat) (hM : IM n z c g b) (hI : wI 20 ad) (p0 : Int32) : Met l yX3_letter wsX3_letter ({ frames := 1, cells := 0, slots := 0, locals := 22 }) (GPc D cI cB (wM cI cB ad g t gl b tb) [.ref (ad 0), .int p0]) (va_Qi (fun (r : Int32) (u : SM) => (r, u) = FX3_letter g t gl b tb n z c p0) (fun u t => va_P D vwCl (wM cI cB ad u.1 u.2.1 u.2.2.1 u.2.2.2.1 u.2.2.2.2) t.heap) (wA 20 ad)) 0 0 (wA 20 ad) := by
  refine Met.ofW (cc := cX3_letter) (maxL := 2) (ret := (some .int)) (by decide) rfl ?_
  intro p e s m args below meth cd s₁ B hml hv
  obtain ⟨rfl, hP, hK⟩ := hv
  have hts := atoms_spec (ws := wsX3_letter) B.pre
  have E : CallFix p m cd cX3_letter 2 s _ wsX3_letter RX3 := ⟨B.exec, B.bytes, hml, findClass_of_methodNamed B.named, hts⟩
  have hr := B.returns
  have hlocks := B.notSynchronized
  have h2n := pow6 (n := n) (by have := hM.2.1; omega)
  obtain ⟨hn, hn6, hz, hz21, hc, hc6, hfs⟩ := id hM
  have hS : va_S (wA 20 ad) s.heap s.heap [] := va_S.rf
  have in_3 : ∀ w ∈ wsX30, w ∈ wsX3_letter := fun _ h => List.mem_cons_of_mem _ (List.mem_append_right _ h)
  have w_0 : (Cond.fieldLink RX3 72 "SnowTermModel" "pageLength" "I").before _ s = true := hts _ (by decide +kernel)
  have w_1 : (Cond.fieldLink RX3 37 "SnowTermModel" "page" "[B").before _ s = true := hts _ (by decide +kernel)
  have hl := lv_entry ([.ref (ad 0), .int p0]) (n := 2) (Nat.le_of_ble_eq_true rfl)
  rw [lg_entry_eq]
  generalize (lg_sl ([.ref (ad 0), .int p0]) ++ List.replicate (2 - (lg_sl ([.ref (ad 0), .int p0])).length) Slot.unset).toArray = ls at hl ⊢
  have hl : lv_has ls 2 [(0, .ref (ad 0)), (1, .int p0)] := hl
  refine lv_iload_n E.1 E.2.1 dX3_letter_0 rfl (lv_at hl 1 rfl) ?_
  refine lv_bipush (v := 32) E.1 E.2.1 dX3_letter_1 (by decide) ?_
  refine lv_bipush (v := 126) E.1 E.2.1 dX3_letter_3 (by decide) ?_
  refine g_SR (As := [.int p0, .int 32, .int 126]) (rest := []) E hK (c_X3_within l D cI cB p0 32 126) (va_cwS 3 E.2.2.2.2 gX3_letter_X3_within rfl rfl rfl (by decide +kernel) ⟨Nat.le_of_ble_eq_true rfl, Nat.le_of_ble_eq_true rfl⟩) rfl hl.1 rfl (Nat.le_of_ble_eq_true rfl) dX3_letter_5 ⟨Nat.zero_le _, Nat.zero_le _⟩ ?_
  refine lv_if_ne (x := FX3_within p0 32 126) (tgt := 14) E.1 E.2.1 dX3_letter_8 (by decide) (fun h8 => ?_) (fun h8 => ?_)
  · have h8 := h8
    refine lv_aload_n E.1 E.2.1 dX3_letter_14 rfl (lv_at hl 0 rfl) ?_
    refine mg_0_16 E hK hP in_3 w_0 dX3_letter_15 ?_
    refine lv_topi (fun y_1 ey_1 => ?_)
    obtain rfl : y_1 = nI z := ey_1.trans (hz)
    refine lv_bipush (v := 21) E.1 E.2.1 dX3_letter_18 (by decide) ?_
    refine lv_icmp_ne (x := nI z) (y := 21) (tgt := 26) E.1 E.2.1 dX3_letter_20 (by decide) (fun h20 => ?_) (fun h20 => ?_)
    · have h20 := h20
      refine lv_aload_n E.1 E.2.1 dX3_letter_26 rfl (lv_at hl 0 rfl) ?_
      refine mg_0_17 E hK hP in_3 w_1 dX3_letter_27 ?_
      refine lv_aload_n E.1 E.2.1 dX3_letter_30 rfl (lv_at hl 0 rfl) ?_
      refine mg_0_16 E hK hP in_3 w_0 dX3_letter_31 ?_
      refine lv_topi (fun y_2 ey_2 => ?_)
      obtain rfl : y_2 = nI z := ey_2.trans (hz)
      refine lv_iload_n E.1 E.2.1 dX3_letter_34 rfl (lv_at hl 1 rfl) ?_
      refine lv_i2b E.1 E.2.1 dX3_letter_35 rfl ?_
      refine ms_10 (v := p0.toInt8.toInt32) (i := nI z) E hK hP hI hS (vp_in_nI (z_lt21 h20 hz21) (by omega)) dX3_letter_36 (fun H locs hP hS => ?_)
      rw [nI_clamp (show z < 2 ^ 31 by omega)] at hP
      have hP : va_P D vwCl (wM cI cB ad g t gl (uA b 10 (upd (b 10) z (vp_nar .byte p0.toInt8.toInt32))) tb) H := hP
      refine lv_aload_n E.1 E.2.1 dX3_letter_37 rfl (lv_at hl 0 rfl) ?_
      refine lv_dup E.1 E.2.1 dX3_letter_38 rfl ?_
      refine mg_0_16 E hK hP in_3 w_0 dX3_letter_39 ?_
      refine lv_topi (fun y_3 ey_3 => ?_)
      obtain rfl : y_3 = nI z := ey_3.trans (hz)
      refine lv_iconst (v := 1) E.1 E.2.1 dX3_letter_42 (by decide) ?_
      refine lv_iadd (x := nI z) (y := 1) E.1 E.2.1 dX3_letter_43 ?_
      refine lv_topi (fun y_4 ey_4 => ?_)
      obtain rfl : y_4 = nI (z + 1) := ey_4.trans (nI_1 z)
      refine mp_0_16 (v := nI (z + 1)) E hK hP in_3 w_0 hI hS dX3_letter_44 (fun H locs hP hS => ?_)
      refine lv_aload_n E.1 E.2.1 dX3_letter_47 rfl (lv_at hl 0 rfl) ?_
      refine mg_0_16 E hK hP in_3 w_0 dX3_letter_48 ?_
      refine lv_topi (fun y_5 ey_5 => ?_)
      obtain rfl : y_5 = nI (z + 1) := ey_5.trans (rfl)
      exact W.iret (v := nI (z + 1)) E.1 E.2.1 hr (fun tt ht _ => ⟨⟨nI (z + 1), (upd g 16 (nI (z + 1)), t, gl, uA b 10 (upd (b 10) z (vp_nar .byte p0.toInt8.toInt32)), tb), rfl, (by rw [FX3_letter, if_neg h8, if_neg h20]), (show va_P D vwCl (wM cI cB ad (upd g 16 (nI (z + 1))) t gl (uA b 10 (upd (b 10) z (vp_nar .byte p0.toInt8.toInt32))) tb) tt.heap from by rw [ht]; exact hP)⟩, hS.F ht⟩) hS.2.2 dX3_letter_51
    · have h20 := h20
      refine lv_bipush (v := (-104)) E.1 E.2.1 dX3_letter_23 (by decide) ?_
      exact W.iret (v := (-104)) E.1 E.2.1 hr (fun tt ht _ => ⟨⟨(-104), (g, t, gl, b, tb), rfl, (by rw [FX3_letter, if_neg h8, if_pos h20]), (show va_P D vwCl (wM cI cB ad g t gl b tb) tt.heap from by rw [ht]; exact hP)⟩, hS.F ht⟩) hS.2.2 dX3_letter_25
  · have h8 := h8
    refine lv_bipush (v := (-102)) E.1 E.2.1 dX3_letter_11 (by decide) ?_
    exact W.iret (v := (-102)) E.1 E.2.1 hr (fun tt ht _ => ⟨⟨(-102), (g, t, gl, b, tb), rfl, (by rw [FX3_letter, if_pos h8]), (show va_P D vwCl (wM cI cB ad g t gl b tb) tt.heap from by rw [ht]; exact hP)⟩, hS.F ht⟩) hS.2.2 dX3_letter_13
def FX3_blank (g : Nat → Int32) (t : Nat → Int32) (gl : Nat → Int64) (b : Nat → Nat → Int32) (tb : Nat → Nat → Int32) (n : Nat) (z : Nat) (c : Nat) : Int32 × SM := (nI z, upd g 16 0, t, gl, b, tb)
set_option maxHeartbeats 4000000 in
set_option maxRecDepth 100000 in
/-- no letter -/
theorem c_X3_blank (l : Launch) (D : va_G) (cI cB : ClassId) (ad : Nat → Nat) (g t : Nat → Int32) (gl : Nat → Int64) (b tb : Nat → Nat → Int32) (n z c : Nat) (hM : IM n z c g b) (hI : wI 20 ad)  : Met l yX3_blank wsX3_blank ({ frames := 0, cells := 0, slots := 0, locals := 0 }) (GPc D cI cB (wM cI cB ad g t gl b tb) [.ref (ad 0)]) (va_Qi (fun (r : Int32) (u : SM) => (r, u) = FX3_blank g t gl b tb n z c) (fun u t => va_P D vwCl (wM cI cB ad u.1 u.2.1 u.2.2.1 u.2.2.2.1 u.2.2.2.2) t.heap) (wA 20 ad)) 0 0 (wA 20 ad) := by
  refine Met.ofW (cc := cX3_blank) (maxL := 2) (ret := (some .int)) (by decide) rfl ?_
  intro p e s m args below meth cd s₁ B hml hv
  obtain ⟨rfl, hP, hK⟩ := hv
  have hts := atoms_spec (ws := wsX3_blank) B.pre
  have E : CallFix p m cd cX3_blank 2 s _ wsX3_blank RX3 := ⟨B.exec, B.bytes, hml, findClass_of_methodNamed B.named, hts⟩
  have hr := B.returns
  have hlocks := B.notSynchronized
  have h2n := pow6 (n := n) (by have := hM.2.1; omega)
  obtain ⟨hn, hn6, hz, hz21, hc, hc6, hfs⟩ := id hM
  have hS : va_S (wA 20 ad) s.heap s.heap [] := va_S.rf
  have in_3 : ∀ w ∈ wsX30, w ∈ wsX3_blank := fun _ h => List.mem_cons_of_mem _ (List.mem_append_right _ h)
  have w_0 : (Cond.fieldLink RX3 72 "SnowTermModel" "pageLength" "I").before _ s = true := hts _ (by decide +kernel)
  have hl := lv_entry ([.ref (ad 0)]) (n := 2) (Nat.le_of_ble_eq_true rfl)
  rw [lg_entry_eq]
  generalize (lg_sl ([.ref (ad 0)]) ++ List.replicate (2 - (lg_sl ([.ref (ad 0)])).length) Slot.unset).toArray = ls at hl ⊢
  have hl : lv_has ls 2 [(0, .ref (ad 0))] := hl
  refine lv_aload_n E.1 E.2.1 dX3_blank_0 rfl (lv_at hl 0 rfl) ?_
  refine mg_0_16 E hK hP in_3 w_0 dX3_blank_1 ?_
  refine lv_topi (fun y_1 ey_1 => ?_)
  obtain rfl : y_1 = nI z := ey_1.trans (hz)
  refine lv_istore_n (lv' := [(1, .int (nI z)), (0, .ref (ad 0))]) E.1 E.2.1 dX3_blank_4 rfl hl (by decide) rfl (fun ls hl => ?_)
  refine lv_aload_n E.1 E.2.1 dX3_blank_5 rfl (lv_at hl 1 rfl) ?_
  refine lv_iconst (v := 0) E.1 E.2.1 dX3_blank_6 (by decide) ?_
  refine mp_0_16 (v := 0) E hK hP in_3 w_0 hI hS dX3_blank_7 (fun H locs hP hS => ?_)
  refine lv_iload_n E.1 E.2.1 dX3_blank_10 rfl (lv_at hl 0 rfl) ?_
  exact W.iret (v := nI z) E.1 E.2.1 hr (fun tt ht _ => ⟨⟨nI z, (upd g 16 0, t, gl, b, tb), rfl, (by rw [FX3_blank]), (show va_P D vwCl (wM cI cB ad (upd g 16 0) t gl b tb) tt.heap from by rw [ht]; exact hP)⟩, hS.F ht⟩) hS.2.2 dX3_blank_11
def FX3_figure (g : Nat → Int32) (b : Nat → Nat → Int32) (tb : Nat → Nat → Int32) (n : Nat) (z : Nat) (c : Nat) (p0 : Nat) : Int32 := (if nI z ≤ nI p0 then (-1) else (b 10 p0) - 48)
set_option maxHeartbeats 4000000 in
set_option maxRecDepth 100000 in
/-- a figure of the page -/
theorem c_X3_figure (l : Launch) (D : va_G) (cI cB : ClassId) (ad : Nat → Nat) (g t : Nat → Int32) (gl : Nat → Int64) (b tb : Nat → Nat → Int32) (n z c : Nat) (hM : IM n z c g b) (p0 : Nat) (hq : p0 < 2 ^ 31) : Met l yX3_figure wsX3_figure ({ frames := 0, cells := 0, slots := 0, locals := 0 }) (GPc D cI cB (wM cI cB ad g t gl b tb) [.ref (ad 0), .int (nI p0)]) (QcRead (FX3_figure g b tb n z c p0)) 0 0 (fun _ => False) := by
  refine Met.ofW (cc := cX3_figure) (maxL := 2) (ret := (some .int)) (by decide) rfl ?_
  intro p e s m args below meth cd s₁ B hml hv
  obtain ⟨rfl, hP, hK⟩ := hv
  have hts := atoms_spec (ws := wsX3_figure) B.pre
  have E : CallFix p m cd cX3_figure 2 s _ wsX3_figure RX3 := ⟨B.exec, B.bytes, hml, findClass_of_methodNamed B.named, hts⟩
  have hr := B.returns
  have hlocks := B.notSynchronized
  have h2n := pow6 (n := n) (by have := hM.2.1; omega)
  obtain ⟨hn, hn6, hz, hz21, hc, hc6, hfs⟩ := id hM
  have in_3 : ∀ w ∈ wsX30, w ∈ wsX3_figure := fun _ h => List.mem_cons_of_mem _ (List.mem_append_right _ h)
  have w_0 : (Cond.fieldLink RX3 72 "SnowTermModel" "pageLength" "I").before _ s = true := hts _ (by decide +kernel)
  have w_1 : (Cond.fieldLink RX3 37 "SnowTermModel" "page" "[B").before _ s = true := hts _ (by decide +kernel)
  have hl := lv_entry ([.ref (ad 0), .int (nI p0)]) (n := 2) (Nat.le_of_ble_eq_true rfl)
  rw [lg_entry_eq]
  generalize (lg_sl ([.ref (ad 0), .int (nI p0)]) ++ List.replicate (2 - (lg_sl ([.ref (ad 0), .int (nI p0)])).length) Slot.unset).toArray = ls at hl ⊢
  have hl : lv_has ls 2 [(0, .ref (ad 0)), (1, .int (nI p0))] := hl
  refine lv_iload_n E.1 E.2.1 dX3_figure_0 rfl (lv_at hl 1 rfl) ?_
  refine lv_aload_n E.1 E.2.1 dX3_figure_1 rfl (lv_at hl 0 rfl) ?_
  refine mg_0_16 E hK hP in_3 w_0 dX3_figure_2 ?_
  refine lv_topi (fun y_1 ey_1 => ?_)
  obtain rfl : y_1 = nI z := ey_1.trans (hz)
  refine lv_icmp_ge (x := nI p0) (y := nI z) (tgt := 20) E.1 E.2.1 dX3_figure_5 (by decide) (fun h5 => ?_) (fun h5 => ?_)
  · have h5 := h5
    refine lv_iconst (v := (-1)) E.1 E.2.1 dX3_figure_20 (by decide) ?_
    exact W.iret (v := (-1)) E.1 E.2.1 hr (fun t ht _ => ⟨congrArg (fun z : Int32 => Outcome.returned (some (Value.int z))) (show (-1) = FX3_figure g b tb n z c p0 from by rw [FX3_figure, if_pos h5]), ht⟩) (fun q hq => by cases hq) dX3_figure_21
  · have h5 := h5
    refine lv_aload_n E.1 E.2.1 dX3_figure_8 rfl (lv_at hl 0 rfl) ?_
    refine mg_0_17 E hK hP in_3 w_1 dX3_figure_9 ?_
    refine lv_iload_n E.1 E.2.1 dX3_figure_12 rfl (lv_at hl 1 rfl) ?_
    refine ml_10 (i := nI p0) E hK hP (vp_in_nI (by rcases Nat.lt_or_ge p0 z with q9 | q9; (· omega); exact absurd (nI_le q9 hq) h5) (by omega)) dX3_figure_13 ?_
    refine lv_topi (fun y_2 ey_2 => ?_)
    obtain rfl : y_2 = b 10 p0 := ey_2.trans (by rw [nI_clamp (show p0 < 2 ^ 31 by omega)] <;> rfl)
    refine lv_bipush (v := 48) E.1 E.2.1 dX3_figure_14 (by decide) ?_
    refine lv_isub (x := b 10 p0) (y := 48) E.1 E.2.1 dX3_figure_16 ?_
    refine lv_goto (tgt := 21) E.1 E.2.1 dX3_figure_17 (by decide) ?_
    exact W.iret (v := (b 10 p0) - 48) E.1 E.2.1 hr (fun t ht _ => ⟨congrArg (fun z : Int32 => Outcome.returned (some (Value.int z))) (show (b 10 p0) - 48 = FX3_figure g b tb n z c p0 from by rw [FX3_figure, if_neg h5]), ht⟩) (fun q hq => by cases hq) dX3_figure_21
def FX3_read_L12 (g : Nat → Int32) (gl : Nat → Int64) (b : Nat → Nat → Int32) (tb : Nat → Nat → Int32) (n : Nat) (z : Nat) (c : Nat) : Nat → Nat → (Nat → Int32) → Int32 × SM
  | 0, k_2, t1 => (nI (3 * k_2), g, t1, gl, b, tb)
  | d_1 + 1, k_2, t1 => (if nI (3 * k_2) = nI z then (nI (3 * k_2), g, t1, gl, b, tb) else (if FX3_kindBy (b 10 (3 * k_2)) = (-1) then (nI (3 * k_2), g, t1, gl, b, tb) else (if FX3_within (FX3_figure g b tb n z c (3 * k_2 + 1)) 1 9 = 0 then (nI (3 * k_2 + 1), g, t1, gl, b, tb) else (if nI z ≤ nI (3 * k_2 + 2) then (if nI (3 * k_2 + 2) = nI z then (nI (3 * k_2 + 2), g, upd t1 19 (nI (k_2 + 1)), gl, b, tb) else (if nI (k_2 + 1) = 6 then (nI (3 * k_2 + 2), g, upd t1 19 (nI (k_2 + 1)), gl, b, tb) else (if b 10 (3 * k_2 + 2) = 44 then FX3_read_L12 g gl b tb n z c d_1 (k_2 + 1) (upd t1 19 (nI (k_2 + 1))) else (nI (3 * k_2 + 2), g, upd t1 19 (nI (k_2 + 1)), gl, b, tb)))) else (if b 10 (3 * k_2 + 2) = 59 then (if nI (k_2 + 1) ≤ 1 then (if nI (3 * k_2 + 2) = nI z then (nI (3 * k_2 + 2), g, upd t1 19 (nI (k_2 + 1)), gl, b, tb) else (if nI (k_2 + 1) = 6 then (nI (3 * k_2 + 2), g, upd t1 19 (nI (k_2 + 1)), gl, b, tb) else (if b 10 (3 * k_2 + 2) = 44 then FX3_read_L12 g gl b tb n z c d_1 (k_2 + 1) (upd t1 19 (nI (k_2 + 1))) else (nI (3 * k_2 + 2), g, upd t1 19 (nI (k_2 + 1)), gl, b, tb)))) else (if FX3_within (FX3_figure g b tb n z c (3 * k_2 + 2 + 1)) 0 9 = 0 then (if FX3_within (FX3_figure g b tb n z c (3 * k_2 + 2 + 1)) 0 9 = 0 then (nI (3 * k_2 + 2 + 1), g, upd (upd t1 19 (nI (k_2 + 1))) 18 0, gl, b, tb) else (nI (3 * k_2 + 2 + 2), g, upd (upd t1 19 (nI (k_2 + 1))) 18 0, gl, b, tb)) else (if nI (3 * k_2 + 2 + 2) = nI z then (if FX3_within (FX3_figure g b tb n z c (3 * k_2 + 2 + 1)) 0 9 = 0 then (nI (3 * k_2 + 2 + 1), g, upd (upd t1 19 (nI (k_2 + 1))) 18 1, gl, b, tb) else (nI (3 * k_2 + 2 + 2), g, upd (upd t1 19 (nI (k_2 + 1))) 18 1, gl, b, tb)) else (if FX3_within (FX3_figure g b tb n z c (3 * k_2 + 2 + 1)) 0 9 = 0 then (nI (3 * k_2 + 2 + 1), g, upd (upd t1 19 (nI (k_2 + 1))) 18 0, gl, b, tb) else (nI (3 * k_2 + 2 + 2), g, upd (upd t1 19 (nI (k_2 + 1))) 18 0, gl, b, tb))))) else (if nI (3 * k_2 + 2) = nI z then (nI (3 * k_2 + 2), g, upd t1 19 (nI (k_2 + 1)), gl, b, tb) else (if nI (k_2 + 1) = 6 then (nI (3 * k_2 + 2), g, upd t1 19 (nI (k_2 + 1)), gl, b, tb) else (if b 10 (3 * k_2 + 2) = 44 then FX3_read_L12 g gl b tb n z c d_1 (k_2 + 1) (upd t1 19 (nI (k_2 + 1))) else (nI (3 * k_2 + 2), g, upd t1 19 (nI (k_2 + 1)), gl, b, tb)))))))))
def FX3_read (g : Nat → Int32) (t : Nat → Int32) (gl : Nat → Int64) (b : Nat → Nat → Int32) (tb : Nat → Nat → Int32) (n : Nat) (z : Nat) (c : Nat) : Int32 × SM := FX3_read_L12 g gl b tb n z c 6 0 (upd (upd t 18 0) 19 0)
set_option maxHeartbeats 4000000 in
set_option maxRecDepth 100000 in
/-- the page is read -/
theorem c_X3_read (l : Launch) (D : va_G) (cI cB : ClassId) (ad : Nat → Nat) (g t : Nat → Int32) (gl : Nat → Int64) (b tb : Nat → Nat → Int32) (n z c : Nat) (hM : IM n z c g b) (hI : wI 20 ad)  : Met l yX3_read wsX3_read ({ frames := 1, cells := 0, slots := 0, locals := 22 }) (GPc D cI cB (wM cI cB ad g t gl b tb) [.ref (ad 0)]) (va_Qi (fun (r : Int32) (u : SM) => (r, u) = FX3_read g t gl b tb n z c) (fun u t => va_P D vwCl (wM cI cB ad u.1 u.2.1 u.2.2.1 u.2.2.2.1 u.2.2.2.2) t.heap) (wA 20 ad)) 0 0 (wA 20 ad) := by
  refine Met.ofW (cc := cX3_read) (maxL := 2) (ret := (some .int)) (by decide) rfl ?_
  intro p e s m args below meth cd s₁ B hml hv
  obtain ⟨rfl, hP, hK⟩ := hv
  have hts := atoms_spec (ws := wsX3_read) B.pre
  have E : CallFix p m cd cX3_read 2 s _ wsX3_read RX3 := ⟨B.exec, B.bytes, hml, findClass_of_methodNamed B.named, hts⟩
  have hr := B.returns
  have hlocks := B.notSynchronized
  have h2n := pow6 (n := n) (by have := hM.2.1; omega)
  obtain ⟨hn, hn6, hz, hz21, hc, hc6, hfs⟩ := id hM
  have hS : va_S (wA 20 ad) s.heap s.heap [] := va_S.rf
  have in_3 : ∀ w ∈ wsX30, w ∈ wsX3_read := fun _ h => List.mem_cons_of_mem _ (List.mem_append_right _ h)
  have w_0 : (Cond.fieldLink RX3 76 "SnowTermModel" "isWhole" "Z").before _ s = true := hts _ (by decide +kernel)
  have w_1 : (Cond.fieldLink RX3 80 "SnowTermModel" "newMany" "I").before _ s = true := hts _ (by decide +kernel)
  have w_2 : (Cond.fieldLink RX3 72 "SnowTermModel" "pageLength" "I").before _ s = true := hts _ (by decide +kernel)
  have w_3 : (Cond.fieldLink RX3 37 "SnowTermModel" "page" "[B").before _ s = true := hts _ (by decide +kernel)
  have hl := lv_entry ([.ref (ad 0)]) (n := 2) (Nat.le_of_ble_eq_true rfl)
  rw [lg_entry_eq]
  generalize (lg_sl ([.ref (ad 0)]) ++ List.replicate (2 - (lg_sl ([.ref (ad 0)])).length) Slot.unset).toArray = ls at hl ⊢
  have hl : lv_has ls 2 [(0, .ref (ad 0))] := hl
  refine lv_aload_n E.1 E.2.1 dX3_read_0 rfl (lv_at hl 0 rfl) ?_
  refine lv_iconst (v := 0) E.1 E.2.1 dX3_read_1 (by decide) ?_
  refine mp_0_18 (v := 0) E hK hP in_3 w_0 hI hS rfl rfl dX3_read_2 (fun H locs hP hS => ?_)
  refine lv_aload_n E.1 E.2.1 dX3_read_5 rfl (lv_at hl 0 rfl) ?_
  refine lv_iconst (v := 0) E.1 E.2.1 dX3_read_6 (by decide) ?_
  refine mp_0_19 (v := 0) E hK hP in_3 w_1 hI hS dX3_read_7 (fun H locs hP hS => ?_)
  refine lv_iconst (v := 0) E.1 E.2.1 dX3_read_10 (by decide) ?_
  refine lv_istore_n (lv' := [(1, .int 0), (0, .ref (ad 0))]) E.1 E.2.1 dX3_read_11 rfl hl (by decide) rfl (fun ls hl => ?_)
  have loop1 : ∀ (d_1 k_2 : Nat) (t1 : Nat → Int32) (H : Heap) (locs : List Loc) (ls : Array Slot), k_2 + d_1 = 6 → t1 18 = 0 ∧ t1 19 = nI k_2 → va_P D vwCl (wM cI cB ad g t1 gl b tb) H → va_S (wA 20 ad) s.heap H locs → lv_has ls 2 [(1, .int (nI (3 * k_2))), (0, .ref (ad 0))] → W p l e (headSpec wsX3_read { frames := 1, cells := 0, slots := 0, locals := 22 }).room s m ([.ref (ad 0)] : List Value).toArray below meth cd H locs 0 0 (MQ below (va_Qi (fun (r : Int32) (u : SM) => (r, u) = FX3_read_L12 g gl b tb n z c d_1 k_2 t1) (fun u t => va_P D vwCl (wM cI cB ad u.1 u.2.1 u.2.2.1 u.2.2.2.1 u.2.2.2.2) t.heap) (wA 20 ad)) ([.ref (ad 0)] : List Value).toArray s 0 0 (wA 20 ad)) (F0 m 12 ls []) := by
    intro d_1
    induction d_1 with
    | zero =>
      intro k_2 t1 H locs ls hk1 hinv hP hS hl
      refine lv_aload_n E.1 E.2.1 dX3_read_12 rfl (lv_at hl 1 rfl) ?_
      refine mg_0_19 E hK hP in_3 w_1 dX3_read_13 ?_
      refine lv_topi (fun y_3 ey_3 => ?_)
      obtain rfl : y_3 = nI k_2 := ey_3.trans (hinv.2)
      refine lv_bipush (v := 6) E.1 E.2.1 dX3_read_16 (by decide) ?_
      refine lv_icmp_ge (x := nI k_2) (y := 6) (tgt := 201) E.1 E.2.1 dX3_read_18 (by decide) (fun _ => ?_) (fun h9 => absurd (nI_le (a := 6) (b := k_2) (by omega) (by omega)) h9)
      refine lv_iload_n E.1 E.2.1 dX3_read_201 rfl (lv_at hl 0 rfl) ?_
      exact W.iret (v := nI (3 * k_2)) E.1 E.2.1 hr (fun tt ht _ => ⟨⟨nI (3 * k_2), (g, t1, gl, b, tb), rfl, (by rw [FX3_read_L12]), (show va_P D vwCl (wM cI cB ad g t1 gl b tb) tt.heap from by rw [ht]; exact hP)⟩, hS.F ht⟩) hS.2.2 dX3_read_202
    | succ d_1 ih1 =>
      intro k_2 t1 H locs ls hk1 hinv hP hS hl
      refine lv_aload_n E.1 E.2.1 dX3_read_12 rfl (lv_at hl 1 rfl) ?_
      refine mg_0_19 E hK hP in_3 w_1 dX3_read_13 ?_
      refine lv_topi (fun y_4 ey_4 => ?_)
      obtain rfl : y_4 = nI k_2 := ey_4.trans (hinv.2)
      refine lv_bipush (v := 6) E.1 E.2.1 dX3_read_16 (by decide) ?_
      refine lv_icmp_ge (x := nI k_2) (y := 6) (tgt := 201) E.1 E.2.1 dX3_read_18 (by decide) (fun h9 => absurd h9 (nI_ge (a := k_2) (b := 6) (by omega) (by omega))) (fun _ => ?_)
      refine lv_iload_n E.1 E.2.1 dX3_read_21 rfl (lv_at hl 0 rfl) ?_
      refine lv_aload_n E.1 E.2.1 dX3_read_22 rfl (lv_at hl 1 rfl) ?_
      refine mg_0_16 E hK hP in_3 w_2 dX3_read_23 ?_
      refine lv_topi (fun y_5 ey_5 => ?_)
      obtain rfl : y_5 = nI z := ey_5.trans (hz)
      refine lv_icmp_eq (x := nI (3 * k_2)) (y := nI z) (tgt := 42) E.1 E.2.1 dX3_read_26 (by decide) (fun h26 => ?_) (fun h26 => ?_)
      · have h26 := h26
        refine lv_iload_n E.1 E.2.1 dX3_read_42 rfl (lv_at hl 0 rfl) ?_
        exact W.iret (v := nI (3 * k_2)) E.1 E.2.1 hr (fun tt ht _ => ⟨⟨nI (3 * k_2), (g, t1, gl, b, tb), rfl, (by rw [FX3_read_L12, if_pos h26]), (show va_P D vwCl (wM cI cB ad g t1 gl b tb) tt.heap from by rw [ht]; exact hP)⟩, hS.F ht⟩) hS.2.2 dX3_read_43
      · have h26 := h26
        refine lv_aload_n E.1 E.2.1 dX3_read_29 rfl (lv_at hl 1 rfl) ?_
        refine mg_0_17 E hK hP in_3 w_3 dX3_read_30 ?_
        refine lv_iload_n E.1 E.2.1 dX3_read_33 rfl (lv_at hl 0 rfl) ?_
        refine ml_10 (i := nI (3 * k_2)) E hK hP (vp_in_nI (by omega) (by omega)) dX3_read_34 ?_
        refine lv_topi (fun y_6 ey_6 => ?_)
        obtain rfl : y_6 = b 10 (3 * k_2) := ey_6.trans (by rw [nI_clamp (show (3 * k_2) < 2 ^ 31 by omega)] <;> rfl)
        refine g_SR (As := [.int (b 10 (3 * k_2))]) (rest := []) E hK (c_X3_kindBy l D cI cB (b 10 (3 * k_2))) (va_cwS 1 E.2.2.2.2 gX3_read_X3_kindBy rfl rfl rfl (by decide +kernel) ⟨Nat.le_of_ble_eq_true rfl, Nat.le_of_ble_eq_true rfl⟩) rfl hl.1 rfl (Nat.le_of_ble_eq_true rfl) dX3_read_35 ⟨Nat.zero_le _, Nat.zero_le _⟩ ?_
        refine lv_iconst (v := (-1)) E.1 E.2.1 dX3_read_38 (by decide) ?_
        refine lv_icmp_ne (x := FX3_kindBy (b 10 (3 * k_2))) (y := (-1)) (tgt := 44) E.1 E.2.1 dX3_read_39 (by decide) (fun h39 => ?_) (fun h39 => ?_)
        · have h39 := h39
          refine lv_aload_n E.1 E.2.1 dX3_read_44 rfl (lv_at hl 1 rfl) ?_
          refine lv_iload_n E.1 E.2.1 dX3_read_45 rfl (lv_at hl 0 rfl) ?_
          refine lv_iconst (v := 1) E.1 E.2.1 dX3_read_46 (by decide) ?_
          refine lv_iadd (x := nI (3 * k_2)) (y := 1) E.1 E.2.1 dX3_read_47 ?_
          refine lv_topi (fun y_7 ey_7 => ?_)
          obtain rfl : y_7 = nI (3 * k_2 + 1) := ey_7.trans (nI_1 (3 * k_2))
          refine g_VR (As := [.int (nI (3 * k_2 + 1))]) (rest := []) E hK hP (c_X3_figure l D cI cB ad g t1 gl b tb n z c hM (3 * k_2 + 1) (by omega)) (cwV 1 E.2.2.2.2 gX3_read_X3_figure rfl rfl rfl (by decide +kernel) ⟨Nat.le_of_ble_eq_true rfl, Nat.le_of_ble_eq_true rfl⟩) (rm0x hK hP) rfl hl.1 rfl (Nat.le_of_ble_eq_true rfl) dX3_read_48 ⟨Nat.zero_le _, Nat.zero_le _⟩ ?_
          refine lv_iconst (v := 1) E.1 E.2.1 dX3_read_51 (by decide) ?_
          refine lv_bipush (v := 9) E.1 E.2.1 dX3_read_52 (by decide) ?_
          refine g_SR (As := [.int (FX3_figure g b tb n z c (3 * k_2 + 1)), .int 1, .int 9]) (rest := []) E hK (c_X3_within l D cI cB (FX3_figure g b tb n z c (3 * k_2 + 1)) 1 9) (va_cwS 3 E.2.2.2.2 gX3_read_X3_within rfl rfl rfl (by decide +kernel) ⟨Nat.le_of_ble_eq_true rfl, Nat.le_of_ble_eq_true rfl⟩) rfl hl.1 rfl (Nat.le_of_ble_eq_true rfl) dX3_read_54 ⟨Nat.zero_le _, Nat.zero_le _⟩ ?_
          refine lv_if_ne (x := FX3_within (FX3_figure g b tb n z c (3 * k_2 + 1)) 1 9) (tgt := 64) E.1 E.2.1 dX3_read_57 (by decide) (fun h57 => ?_) (fun h57 => ?_)
          · have h57 := h57
            refine lv_aload_n E.1 E.2.1 dX3_read_64 rfl (lv_at hl 1 rfl) ?_
            refine lv_dup E.1 E.2.1 dX3_read_65 rfl ?_
            refine mg_0_19 E hK hP in_3 w_1 dX3_read_66 ?_
            refine lv_topi (fun y_8 ey_8 => ?_)
            obtain rfl : y_8 = nI k_2 := ey_8.trans (hinv.2)
            refine lv_iconst (v := 1) E.1 E.2.1 dX3_read_69 (by decide) ?_
            refine lv_iadd (x := nI k_2) (y := 1) E.1 E.2.1 dX3_read_70 ?_
            refine lv_topi (fun y_9 ey_9 => ?_)
            obtain rfl : y_9 = nI (k_2 + 1) := ey_9.trans (nI_1 k_2)
            refine mp_0_19 (v := nI (k_2 + 1)) E hK hP in_3 w_1 hI hS dX3_read_71 (fun H locs hP hS => ?_)
            refine lv_iinc (v := nI (3 * k_2 + 2)) (k := 0) (lv' := [(1, .int (nI (3 * k_2 + 2))), (0, .ref (ad 0))]) E.1 E.2.1 dX3_read_74 hl rfl (nI_add (3 * k_2) 2) (by decide) rfl (fun ls hl => ?_)
            refine lv_iload_n E.1 E.2.1 dX3_read_77 rfl (lv_at hl 0 rfl) ?_
            refine lv_aload_n E.1 E.2.1 dX3_read_78 rfl (lv_at hl 1 rfl) ?_
            refine mg_0_16 E hK hP in_3 w_2 dX3_read_79 ?_
            refine lv_topi (fun y_10 ey_10 => ?_)
            obtain rfl : y_10 = nI z := ey_10.trans (hz)
            refine lv_icmp_ge (x := nI (3 * k_2 + 2)) (y := nI z) (tgt := 165) E.1 E.2.1 dX3_read_82 (by decide) (fun h82 => ?_) (fun h82 => ?_)
            · have h82 := h82
              refine lv_iload_n E.1 E.2.1 dX3_read_165 rfl (lv_at hl 0 rfl) ?_
              refine lv_aload_n E.1 E.2.1 dX3_read_166 rfl (lv_at hl 1 rfl) ?_
              refine mg_0_16 E hK hP in_3 w_2 dX3_read_167 ?_
              refine lv_topi (fun y_11 ey_11 => ?_)
              obtain rfl : y_11 = nI z := ey_11.trans (hz)
              refine lv_icmp_eq (x := nI (3 * k_2 + 2)) (y := nI z) (tgt := 193) E.1 E.2.1 dX3_read_170 (by decide) (fun h170 => ?_) (fun h170 => ?_)
              · have h170 := h170
                refine lv_iload_n E.1 E.2.1 dX3_read_193 rfl (lv_at hl 0 rfl) ?_
                exact W.iret (v := nI (3 * k_2 + 2)) E.1 E.2.1 hr (fun tt ht _ => ⟨⟨nI (3 * k_2 + 2), (g, upd t1 19 (nI (k_2 + 1)), gl, b, tb), rfl, (by rw [FX3_read_L12, if_neg h26, if_neg h39, if_neg h57, if_pos h82, if_pos h170]), (show va_P D vwCl (wM cI cB ad g (upd t1 19 (nI (k_2 + 1))) gl b tb) tt.heap from by rw [ht]; exact hP)⟩, hS.F ht⟩) hS.2.2 dX3_read_194
              · have h170 := h170
                refine lv_aload_n E.1 E.2.1 dX3_read_173 rfl (lv_at hl 1 rfl) ?_
                refine mg_0_19 E hK hP in_3 w_1 dX3_read_174 ?_
                refine lv_topi (fun y_12 ey_12 => ?_)
                obtain rfl : y_12 = nI (k_2 + 1) := ey_12.trans (rfl)
                refine lv_bipush (v := 6) E.1 E.2.1 dX3_read_177 (by decide) ?_
                refine lv_icmp_eq (x := nI (k_2 + 1)) (y := 6) (tgt := 193) E.1 E.2.1 dX3_read_179 (by decide) (fun h179 => ?_) (fun h179 => ?_)
                · have h179 := h179
                  refine lv_iload_n E.1 E.2.1 dX3_read_193 rfl (lv_at hl 0 rfl) ?_
                  exact W.iret (v := nI (3 * k_2 + 2)) E.1 E.2.1 hr (fun tt ht _ => ⟨⟨nI (3 * k_2 + 2), (g, upd t1 19 (nI (k_2 + 1)), gl, b, tb), rfl, (by rw [FX3_read_L12, if_neg h26, if_neg h39, if_neg h57, if_pos h82, if_neg h170, if_pos h179]), (show va_P D vwCl (wM cI cB ad g (upd t1 19 (nI (k_2 + 1))) gl b tb) tt.heap from by rw [ht]; exact hP)⟩, hS.F ht⟩) hS.2.2 dX3_read_194
                · have h179 := h179
                  refine lv_aload_n E.1 E.2.1 dX3_read_182 rfl (lv_at hl 1 rfl) ?_
                  refine mg_0_17 E hK hP in_3 w_3 dX3_read_183 ?_
                  refine lv_iload_n E.1 E.2.1 dX3_read_186 rfl (lv_at hl 0 rfl) ?_
                  refine ml_10 (i := nI (3 * k_2 + 2)) E hK hP (vp_in_nI (by omega) (by omega)) dX3_read_187 ?_
                  refine lv_topi (fun y_13 ey_13 => ?_)
                  obtain rfl : y_13 = b 10 (3 * k_2 + 2) := ey_13.trans (by rw [nI_clamp (show (3 * k_2 + 2) < 2 ^ 31 by omega)] <;> rfl)
                  refine lv_bipush (v := 44) E.1 E.2.1 dX3_read_188 (by decide) ?_
                  refine lv_icmp_eq (x := b 10 (3 * k_2 + 2)) (y := 44) (tgt := 195) E.1 E.2.1 dX3_read_190 (by decide) (fun h190 => ?_) (fun h190 => ?_)
                  · have h190 := h190
                    refine lv_iinc (v := nI (3 * k_2 + 2 + 1)) (k := 0) (lv' := [(1, .int (nI (3 * k_2 + 2 + 1))), (0, .ref (ad 0))]) E.1 E.2.1 dX3_read_195 hl rfl (nI_1 (3 * k_2 + 2)) (by decide) rfl (fun ls hl => ?_)
                    refine lv_goto (tgt := 12) E.1 E.2.1 dX3_read_198 (by decide) ?_
                    have e9 : 3 * k_2 + 2 + 1 = 3 * (k_2 + 1) := by omega
                    rw [e9] at hl
                    have hl : lv_has ls 2 [(1, .int (nI (3 * (k_2 + 1)))), (0, .ref (ad 0))] := hl
                    rw [show FX3_read_L12 g gl b tb n z c (d_1 + 1) k_2 t1 = FX3_read_L12 g gl b tb n z c d_1 (k_2 + 1) (upd t1 19 (nI (k_2 + 1))) from by rw [FX3_read_L12, if_neg h26, if_neg h39, if_neg h57, if_pos h82, if_neg h170, if_neg h179, if_pos h190]]
                    exact ih1 (k_2 + 1) (upd t1 19 (nI (k_2 + 1))) _ _ ls (by omega) (⟨hinv.1, rfl⟩) hP hS (lv_sub hl [0, 1] rfl)
                  · have h190 := h190
                    refine lv_iload_n E.1 E.2.1 dX3_read_193 rfl (lv_at hl 0 rfl) ?_
                    exact W.iret (v := nI (3 * k_2 + 2)) E.1 E.2.1 hr (fun tt ht _ => ⟨⟨nI (3 * k_2 + 2), (g, upd t1 19 (nI (k_2 + 1)), gl, b, tb), rfl, (by rw [FX3_read_L12, if_neg h26, if_neg h39, if_neg h57, if_pos h82, if_neg h170, if_neg h179, if_neg h190]), (show va_P D vwCl (wM cI cB ad g (upd t1 19 (nI (k_2 + 1))) gl b tb) tt.heap from by rw [ht]; exact hP)⟩, hS.F ht⟩) hS.2.2 dX3_read_194
            · have h82 := h82
              refine lv_aload_n E.1 E.2.1 dX3_read_85 rfl (lv_at hl 1 rfl) ?_
              refine mg_0_17 E hK hP in_3 w_3 dX3_read_86 ?_
              refine lv_iload_n E.1 E.2.1 dX3_read_89 rfl (lv_at hl 0 rfl) ?_
              refine ml_10 (i := nI (3 * k_2 + 2)) E hK hP (vp_in_nI (by omega) (by omega)) dX3_read_90 ?_
              refine lv_topi (fun y_14 ey_14 => ?_)
              obtain rfl : y_14 = b 10 (3 * k_2 + 2) := ey_14.trans (by rw [nI_clamp (show (3 * k_2 + 2) < 2 ^ 31 by omega)] <;> rfl)
              refine lv_bipush (v := 59) E.1 E.2.1 dX3_read_91 (by decide) ?_
              refine lv_icmp_ne (x := b 10 (3 * k_2 + 2)) (y := 59) (tgt := 165) E.1 E.2.1 dX3_read_93 (by decide) (fun h93 => ?_) (fun h93 => ?_)
              · have h93 := h93
                refine lv_iload_n E.1 E.2.1 dX3_read_165 rfl (lv_at hl 0 rfl) ?_
                refine lv_aload_n E.1 E.2.1 dX3_read_166 rfl (lv_at hl 1 rfl) ?_
                refine mg_0_16 E hK hP in_3 w_2 dX3_read_167 ?_
                refine lv_topi (fun y_15 ey_15 => ?_)
                obtain rfl : y_15 = nI z := ey_15.trans (hz)
                refine lv_icmp_eq (x := nI (3 * k_2 + 2)) (y := nI z) (tgt := 193) E.1 E.2.1 dX3_read_170 (by decide) (fun h170 => ?_) (fun h170 => ?_)
                · have h170 := h170
                  refine lv_iload_n E.1 E.2.1 dX3_read_193 rfl (lv_at hl 0 rfl) ?_
                  exact W.iret (v := nI (3 * k_2 + 2)) E.1 E.2.1 hr (fun tt ht _ => ⟨⟨nI (3 * k_2 + 2), (g, upd t1 19 (nI (k_2 + 1)), gl, b, tb), rfl, (by rw [FX3_read_L12, if_neg h26, if_neg h39, if_neg h57, if_neg h82, if_neg h93, if_pos h170]), (show va_P D vwCl (wM cI cB ad g (upd t1 19 (nI (k_2 + 1))) gl b tb) tt.heap from by rw [ht]; exact hP)⟩, hS.F ht⟩) hS.2.2 dX3_read_194
                · have h170 := h170
                  refine lv_aload_n E.1 E.2.1 dX3_read_173 rfl (lv_at hl 1 rfl) ?_
                  refine mg_0_19 E hK hP in_3 w_1 dX3_read_174 ?_
                  refine lv_topi (fun y_16 ey_16 => ?_)
                  obtain rfl : y_16 = nI (k_2 + 1) := ey_16.trans (rfl)
                  refine lv_bipush (v := 6) E.1 E.2.1 dX3_read_177 (by decide) ?_
                  refine lv_icmp_eq (x := nI (k_2 + 1)) (y := 6) (tgt := 193) E.1 E.2.1 dX3_read_179 (by decide) (fun h179 => ?_) (fun h179 => ?_)
                  · have h179 := h179
                    refine lv_iload_n E.1 E.2.1 dX3_read_193 rfl (lv_at hl 0 rfl) ?_
                    exact W.iret (v := nI (3 * k_2 + 2)) E.1 E.2.1 hr (fun tt ht _ => ⟨⟨nI (3 * k_2 + 2), (g, upd t1 19 (nI (k_2 + 1)), gl, b, tb), rfl, (by rw [FX3_read_L12, if_neg h26, if_neg h39, if_neg h57, if_neg h82, if_neg h93, if_neg h170, if_pos h179]), (show va_P D vwCl (wM cI cB ad g (upd t1 19 (nI (k_2 + 1))) gl b tb) tt.heap from by rw [ht]; exact hP)⟩, hS.F ht⟩) hS.2.2 dX3_read_194
                  · have h179 := h179
                    refine lv_aload_n E.1 E.2.1 dX3_read_182 rfl (lv_at hl 1 rfl) ?_
                    refine mg_0_17 E hK hP in_3 w_3 dX3_read_183 ?_
                    refine lv_iload_n E.1 E.2.1 dX3_read_186 rfl (lv_at hl 0 rfl) ?_
                    refine ml_10 (i := nI (3 * k_2 + 2)) E hK hP (vp_in_nI (by omega) (by omega)) dX3_read_187 ?_
                    refine lv_topi (fun y_17 ey_17 => ?_)
                    obtain rfl : y_17 = b 10 (3 * k_2 + 2) := ey_17.trans (by rw [nI_clamp (show (3 * k_2 + 2) < 2 ^ 31 by omega)] <;> rfl)
                    refine lv_bipush (v := 44) E.1 E.2.1 dX3_read_188 (by decide) ?_
                    refine lv_icmp_eq (x := b 10 (3 * k_2 + 2)) (y := 44) (tgt := 195) E.1 E.2.1 dX3_read_190 (by decide) (fun h190 => ?_) (fun h190 => ?_)
                    · have h190 := h190
                      refine lv_iinc (v := nI (3 * k_2 + 2 + 1)) (k := 0) (lv' := [(1, .int (nI (3 * k_2 + 2 + 1))), (0, .ref (ad 0))]) E.1 E.2.1 dX3_read_195 hl rfl (nI_1 (3 * k_2 + 2)) (by decide) rfl (fun ls hl => ?_)
                      refine lv_goto (tgt := 12) E.1 E.2.1 dX3_read_198 (by decide) ?_
                      have e9 : 3 * k_2 + 2 + 1 = 3 * (k_2 + 1) := by omega
                      rw [e9] at hl
                      have hl : lv_has ls 2 [(1, .int (nI (3 * (k_2 + 1)))), (0, .ref (ad 0))] := hl
                      rw [show FX3_read_L12 g gl b tb n z c (d_1 + 1) k_2 t1 = FX3_read_L12 g gl b tb n z c d_1 (k_2 + 1) (upd t1 19 (nI (k_2 + 1))) from by rw [FX3_read_L12, if_neg h26, if_neg h39, if_neg h57, if_neg h82, if_neg h93, if_neg h170, if_neg h179, if_pos h190]]
                      exact ih1 (k_2 + 1) (upd t1 19 (nI (k_2 + 1))) _ _ ls (by omega) (⟨hinv.1, rfl⟩) hP hS (lv_sub hl [0, 1] rfl)
                    · have h190 := h190
                      refine lv_iload_n E.1 E.2.1 dX3_read_193 rfl (lv_at hl 0 rfl) ?_
                      exact W.iret (v := nI (3 * k_2 + 2)) E.1 E.2.1 hr (fun tt ht _ => ⟨⟨nI (3 * k_2 + 2), (g, upd t1 19 (nI (k_2 + 1)), gl, b, tb), rfl, (by rw [FX3_read_L12, if_neg h26, if_neg h39, if_neg h57, if_neg h82, if_neg h93, if_neg h170, if_neg h179, if_neg h190]), (show va_P D vwCl (wM cI cB ad g (upd t1 19 (nI (k_2 + 1))) gl b tb) tt.heap from by rw [ht]; exact hP)⟩, hS.F ht⟩) hS.2.2 dX3_read_194
              · have h93 := h93
                refine lv_aload_n E.1 E.2.1 dX3_read_96 rfl (lv_at hl 1 rfl) ?_
                refine mg_0_19 E hK hP in_3 w_1 dX3_read_97 ?_
                refine lv_topi (fun y_18 ey_18 => ?_)
                obtain rfl : y_18 = nI (k_2 + 1) := ey_18.trans (rfl)
                refine lv_iconst (v := 1) E.1 E.2.1 dX3_read_100 (by decide) ?_
                refine lv_icmp_le (x := nI (k_2 + 1)) (y := 1) (tgt := 165) E.1 E.2.1 dX3_read_101 (by decide) (fun h101 => ?_) (fun h101 => ?_)
                · have h101 := h101
                  refine lv_iload_n E.1 E.2.1 dX3_read_165 rfl (lv_at hl 0 rfl) ?_
                  refine lv_aload_n E.1 E.2.1 dX3_read_166 rfl (lv_at hl 1 rfl) ?_
                  refine mg_0_16 E hK hP in_3 w_2 dX3_read_167 ?_
                  refine lv_topi (fun y_19 ey_19 => ?_)
                  obtain rfl : y_19 = nI z := ey_19.trans (hz)
                  refine lv_icmp_eq (x := nI (3 * k_2 + 2)) (y := nI z) (tgt := 193) E.1 E.2.1 dX3_read_170 (by decide) (fun h170 => ?_) (fun h170 => ?_)
                  · have h170 := h170
                    refine lv_iload_n E.1 E.2.1 dX3_read_193 rfl (lv_at hl 0 rfl) ?_
                    exact W.iret (v := nI (3 * k_2 + 2)) E.1 E.2.1 hr (fun tt ht _ => ⟨⟨nI (3 * k_2 + 2), (g, upd t1 19 (nI (k_2 + 1)), gl, b, tb), rfl, (by rw [FX3_read_L12, if_neg h26, if_neg h39, if_neg h57, if_neg h82, if_pos h93, if_pos h101, if_pos h170]), (show va_P D vwCl (wM cI cB ad g (upd t1 19 (nI (k_2 + 1))) gl b tb) tt.heap from by rw [ht]; exact hP)⟩, hS.F ht⟩) hS.2.2 dX3_read_194
                  · have h170 := h170
                    refine lv_aload_n E.1 E.2.1 dX3_read_173 rfl (lv_at hl 1 rfl) ?_
                    refine mg_0_19 E hK hP in_3 w_1 dX3_read_174 ?_
                    refine lv_topi (fun y_20 ey_20 => ?_)
                    obtain rfl : y_20 = nI (k_2 + 1) := ey_20.trans (rfl)
                    refine lv_bipush (v := 6) E.1 E.2.1 dX3_read_177 (by decide) ?_
                    refine lv_icmp_eq (x := nI (k_2 + 1)) (y := 6) (tgt := 193) E.1 E.2.1 dX3_read_179 (by decide) (fun h179 => ?_) (fun h179 => ?_)
                    · have h179 := h179
                      refine lv_iload_n E.1 E.2.1 dX3_read_193 rfl (lv_at hl 0 rfl) ?_
                      exact W.iret (v := nI (3 * k_2 + 2)) E.1 E.2.1 hr (fun tt ht _ => ⟨⟨nI (3 * k_2 + 2), (g, upd t1 19 (nI (k_2 + 1)), gl, b, tb), rfl, (by rw [FX3_read_L12, if_neg h26, if_neg h39, if_neg h57, if_neg h82, if_pos h93, if_pos h101, if_neg h170, if_pos h179]), (show va_P D vwCl (wM cI cB ad g (upd t1 19 (nI (k_2 + 1))) gl b tb) tt.heap from by rw [ht]; exact hP)⟩, hS.F ht⟩) hS.2.2 dX3_read_194
                    · have h179 := h179
                      refine lv_aload_n E.1 E.2.1 dX3_read_182 rfl (lv_at hl 1 rfl) ?_
                      refine mg_0_17 E hK hP in_3 w_3 dX3_read_183 ?_
                      refine lv_iload_n E.1 E.2.1 dX3_read_186 rfl (lv_at hl 0 rfl) ?_
                      refine ml_10 (i := nI (3 * k_2 + 2)) E hK hP (vp_in_nI (by omega) (by omega)) dX3_read_187 ?_
                      refine lv_topi (fun y_21 ey_21 => ?_)
                      obtain rfl : y_21 = b 10 (3 * k_2 + 2) := ey_21.trans (by rw [nI_clamp (show (3 * k_2 + 2) < 2 ^ 31 by omega)] <;> rfl)
                      refine lv_bipush (v := 44) E.1 E.2.1 dX3_read_188 (by decide) ?_
                      refine lv_icmp_eq (x := b 10 (3 * k_2 + 2)) (y := 44) (tgt := 195) E.1 E.2.1 dX3_read_190 (by decide) (fun h190 => ?_) (fun h190 => ?_)
                      · have h190 := h190
                        refine lv_iinc (v := nI (3 * k_2 + 2 + 1)) (k := 0) (lv' := [(1, .int (nI (3 * k_2 + 2 + 1))), (0, .ref (ad 0))]) E.1 E.2.1 dX3_read_195 hl rfl (nI_1 (3 * k_2 + 2)) (by decide) rfl (fun ls hl => ?_)
                        refine lv_goto (tgt := 12) E.1 E.2.1 dX3_read_198 (by decide) ?_
                        have e9 : 3 * k_2 + 2 + 1 = 3 * (k_2 + 1) := by omega
                        rw [e9] at hl
                        have hl : lv_has ls 2 [(1, .int (nI (3 * (k_2 + 1)))), (0, .ref (ad 0))] := hl
                        rw [show FX3_read_L12 g gl b tb n z c (d_1 + 1) k_2 t1 = FX3_read_L12 g gl b tb n z c d_1 (k_2 + 1) (upd t1 19 (nI (k_2 + 1))) from by rw [FX3_read_L12, if_neg h26, if_neg h39, if_neg h57, if_neg h82, if_pos h93, if_pos h101, if_neg h170, if_neg h179, if_pos h190]]
                        exact ih1 (k_2 + 1) (upd t1 19 (nI (k_2 + 1))) _ _ ls (by omega) (⟨hinv.1, rfl⟩) hP hS (lv_sub hl [0, 1] rfl)
                      · have h190 := h190
                        refine lv_iload_n E.1 E.2.1 dX3_read_193 rfl (lv_at hl 0 rfl) ?_
                        exact W.iret (v := nI (3 * k_2 + 2)) E.1 E.2.1 hr (fun tt ht _ => ⟨⟨nI (3 * k_2 + 2), (g, upd t1 19 (nI (k_2 + 1)), gl, b, tb), rfl, (by rw [FX3_read_L12, if_neg h26, if_neg h39, if_neg h57, if_neg h82, if_pos h93, if_pos h101, if_neg h170, if_neg h179, if_neg h190]), (show va_P D vwCl (wM cI cB ad g (upd t1 19 (nI (k_2 + 1))) gl b tb) tt.heap from by rw [ht]; exact hP)⟩, hS.F ht⟩) hS.2.2 dX3_read_194
                · have h101 := h101
                  refine lv_aload_n E.1 E.2.1 dX3_read_104 rfl (lv_at hl 1 rfl) ?_
                  refine lv_aload_n E.1 E.2.1 dX3_read_105 rfl (lv_at hl 1 rfl) ?_
                  refine lv_iload_n E.1 E.2.1 dX3_read_106 rfl (lv_at hl 0 rfl) ?_
                  refine lv_iconst (v := 1) E.1 E.2.1 dX3_read_107 (by decide) ?_
                  refine lv_iadd (x := nI (3 * k_2 + 2)) (y := 1) E.1 E.2.1 dX3_read_108 ?_
                  refine lv_topi (fun y_22 ey_22 => ?_)
                  obtain rfl : y_22 = nI (3 * k_2 + 2 + 1) := ey_22.trans (nI_1 (3 * k_2 + 2))
                  refine g_VR (As := [.int (nI (3 * k_2 + 2 + 1))]) (rest := [.ref (ad 0)]) E hK hP (c_X3_figure l D cI cB ad g (upd t1 19 (nI (k_2 + 1))) gl b tb n z c hM (3 * k_2 + 2 + 1) (by omega)) (cwV 1 E.2.2.2.2 gX3_read_X3_figure rfl rfl rfl (by decide +kernel) ⟨Nat.le_of_ble_eq_true rfl, Nat.le_of_ble_eq_true rfl⟩) (rm0x hK hP) rfl hl.1 rfl (Nat.le_of_ble_eq_true rfl) dX3_read_109 ⟨Nat.zero_le _, Nat.zero_le _⟩ ?_
                  refine lv_iconst (v := 0) E.1 E.2.1 dX3_read_112 (by decide) ?_
                  refine lv_bipush (v := 9) E.1 E.2.1 dX3_read_113 (by decide) ?_
                  refine g_SR (As := [.int (FX3_figure g b tb n z c (3 * k_2 + 2 + 1)), .int 0, .int 9]) (rest := [.ref (ad 0)]) E hK (c_X3_within l D cI cB (FX3_figure g b tb n z c (3 * k_2 + 2 + 1)) 0 9) (va_cwS 3 E.2.2.2.2 gX3_read_X3_within rfl rfl rfl (by decide +kernel) ⟨Nat.le_of_ble_eq_true rfl, Nat.le_of_ble_eq_true rfl⟩) rfl hl.1 rfl (Nat.le_of_ble_eq_true rfl) dX3_read_115 ⟨Nat.zero_le _, Nat.zero_le _⟩ ?_
                  refine lv_if_eq (x := FX3_within (FX3_figure g b tb n z c (3 * k_2 + 2 + 1)) 0 9) (tgt := 135) E.1 E.2.1 dX3_read_118 (by decide) (fun h118 => ?_) (fun h118 => ?_)
                  · have h118 := h118
                    refine lv_iconst (v := 0) E.1 E.2.1 dX3_read_135 (by decide) ?_
                    refine mp_0_18 (v := 0) E hK hP in_3 w_0 hI hS rfl rfl dX3_read_136 (fun H locs hP hS => ?_)
                    refine lv_aload_n E.1 E.2.1 dX3_read_139 rfl (lv_at hl 1 rfl) ?_
                    refine lv_iload_n E.1 E.2.1 dX3_read_140 rfl (lv_at hl 0 rfl) ?_
                    refine lv_iconst (v := 1) E.1 E.2.1 dX3_read_141 (by decide) ?_
                    refine lv_iadd (x := nI (3 * k_2 + 2)) (y := 1) E.1 E.2.1 dX3_read_142 ?_
                    refine lv_topi (fun y_23 ey_23 => ?_)
                    obtain rfl : y_23 = nI (3 * k_2 + 2 + 1) := ey_23.trans (nI_1 (3 * k_2 + 2))
                    refine g_VR (As := [.int (nI (3 * k_2 + 2 + 1))]) (rest := []) E hK hP (c_X3_figure l D cI cB ad g (upd (upd t1 19 (nI (k_2 + 1))) 18 0) gl b tb n z c hM (3 * k_2 + 2 + 1) (by omega)) (cwV 1 E.2.2.2.2 gX3_read_X3_figure rfl rfl rfl (by decide +kernel) ⟨Nat.le_of_ble_eq_true rfl, Nat.le_of_ble_eq_true rfl⟩) (rm0x hK hP) rfl hl.1 rfl (Nat.le_of_ble_eq_true rfl) dX3_read_143 ⟨Nat.zero_le _, Nat.zero_le _⟩ ?_
                    refine lv_iconst (v := 0) E.1 E.2.1 dX3_read_146 (by decide) ?_
                    refine lv_bipush (v := 9) E.1 E.2.1 dX3_read_147 (by decide) ?_
                    refine g_SR (As := [.int (FX3_figure g b tb n z c (3 * k_2 + 2 + 1)), .int 0, .int 9]) (rest := []) E hK (c_X3_within l D cI cB (FX3_figure g b tb n z c (3 * k_2 + 2 + 1)) 0 9) (va_cwS 3 E.2.2.2.2 gX3_read_X3_within rfl rfl rfl (by decide +kernel) ⟨Nat.le_of_ble_eq_true rfl, Nat.le_of_ble_eq_true rfl⟩) rfl hl.1 rfl (Nat.le_of_ble_eq_true rfl) dX3_read_149 ⟨Nat.zero_le _, Nat.zero_le _⟩ ?_
                    refine lv_if_eq (x := FX3_within (FX3_figure g b tb n z c (3 * k_2 + 2 + 1)) 0 9) (tgt := 161) E.1 E.2.1 dX3_read_152 (by decide) (fun h152 => ?_) (fun h152 => ?_)
                    · have h152 := h152
                      refine lv_iload_n E.1 E.2.1 dX3_read_161 rfl (lv_at hl 0 rfl) ?_
                      refine lv_iconst (v := 1) E.1 E.2.1 dX3_read_162 (by decide) ?_
                      refine lv_iadd (x := nI (3 * k_2 + 2)) (y := 1) E.1 E.2.1 dX3_read_163 ?_
                      refine lv_topi (fun y_24 ey_24 => ?_)
                      obtain rfl : y_24 = nI (3 * k_2 + 2 + 1) := ey_24.trans (nI_1 (3 * k_2 + 2))
                      exact W.iret (v := nI (3 * k_2 + 2 + 1)) E.1 E.2.1 hr (fun tt ht _ => ⟨⟨nI (3 * k_2 + 2 + 1), (g, upd (upd t1 19 (nI (k_2 + 1))) 18 0, gl, b, tb), rfl, (by rw [FX3_read_L12, if_neg h26, if_neg h39, if_neg h57, if_neg h82, if_pos h93, if_neg h101, if_pos h118, if_pos h152]), (show va_P D vwCl (wM cI cB ad g (upd (upd t1 19 (nI (k_2 + 1))) 18 0) gl b tb) tt.heap from by rw [ht]; exact hP)⟩, hS.F ht⟩) hS.2.2 dX3_read_164
                    · have h152 := h152
                      refine lv_iload_n E.1 E.2.1 dX3_read_155 rfl (lv_at hl 0 rfl) ?_
                      refine lv_iconst (v := 2) E.1 E.2.1 dX3_read_156 (by decide) ?_
                      refine lv_iadd (x := nI (3 * k_2 + 2)) (y := 2) E.1 E.2.1 dX3_read_157 ?_
                      refine lv_topi (fun y_25 ey_25 => ?_)
                      obtain rfl : y_25 = nI (3 * k_2 + 2 + 2) := ey_25.trans (nI_add (3 * k_2 + 2) 2)
                      refine lv_goto (tgt := 164) E.1 E.2.1 dX3_read_158 (by decide) ?_
                      exact W.iret (v := nI (3 * k_2 + 2 + 2)) E.1 E.2.1 hr (fun tt ht _ => ⟨⟨nI (3 * k_2 + 2 + 2), (g, upd (upd t1 19 (nI (k_2 + 1))) 18 0, gl, b, tb), rfl, (by rw [FX3_read_L12, if_neg h26, if_neg h39, if_neg h57, if_neg h82, if_pos h93, if_neg h101, if_pos h118, if_neg h152]), (show va_P D vwCl (wM cI cB ad g (upd (upd t1 19 (nI (k_2 + 1))) 18 0) gl b tb) tt.heap from by rw [ht]; exact hP)⟩, hS.F ht⟩) hS.2.2 dX3_read_164
                  · have h118 := h118
                    refine lv_iload_n E.1 E.2.1 dX3_read_121 rfl (lv_at hl 0 rfl) ?_
                    refine lv_iconst (v := 2) E.1 E.2.1 dX3_read_122 (by decide) ?_
                    refine lv_iadd (x := nI (3 * k_2 + 2)) (y := 2) E.1 E.2.1 dX3_read_123 ?_
                    refine lv_topi (fun y_26 ey_26 => ?_)
                    obtain rfl : y_26 = nI (3 * k_2 + 2 + 2) := ey_26.trans (nI_add (3 * k_2 + 2) 2)
                    refine lv_aload_n E.1 E.2.1 dX3_read_124 rfl (lv_at hl 1 rfl) ?_
                    refine mg_0_16 E hK hP in_3 w_2 dX3_read_125 ?_
                    refine lv_topi (fun y_27 ey_27 => ?_)
                    obtain rfl : y_27 = nI z := ey_27.trans (hz)
                    refine lv_icmp_ne (x := nI (3 * k_2 + 2 + 2)) (y := nI z) (tgt := 135) E.1 E.2.1 dX3_read_128 (by decide) (fun h128 => ?_) (fun h128 => ?_)
                    · have h128 := h128
                      refine lv_iconst (v := 0) E.1 E.2.1 dX3_read_135 (by decide) ?_
                      refine mp_0_18 (v := 0) E hK hP in_3 w_0 hI hS rfl rfl dX3_read_136 (fun H locs hP hS => ?_)
                      refine lv_aload_n E.1 E.2.1 dX3_read_139 rfl (lv_at hl 1 rfl) ?_
                      refine lv_iload_n E.1 E.2.1 dX3_read_140 rfl (lv_at hl 0 rfl) ?_
                      refine lv_iconst (v := 1) E.1 E.2.1 dX3_read_141 (by decide) ?_
                      refine lv_iadd (x := nI (3 * k_2 + 2)) (y := 1) E.1 E.2.1 dX3_read_142 ?_
                      refine lv_topi (fun y_28 ey_28 => ?_)
                      obtain rfl : y_28 = nI (3 * k_2 + 2 + 1) := ey_28.trans (nI_1 (3 * k_2 + 2))
                      refine g_VR (As := [.int (nI (3 * k_2 + 2 + 1))]) (rest := []) E hK hP (c_X3_figure l D cI cB ad g (upd (upd t1 19 (nI (k_2 + 1))) 18 0) gl b tb n z c hM (3 * k_2 + 2 + 1) (by omega)) (cwV 1 E.2.2.2.2 gX3_read_X3_figure rfl rfl rfl (by decide +kernel) ⟨Nat.le_of_ble_eq_true rfl, Nat.le_of_ble_eq_true rfl⟩) (rm0x hK hP) rfl hl.1 rfl (Nat.le_of_ble_eq_true rfl) dX3_read_143 ⟨Nat.zero_le _, Nat.zero_le _⟩ ?_
                      refine lv_iconst (v := 0) E.1 E.2.1 dX3_read_146 (by decide) ?_
                      refine lv_bipush (v := 9) E.1 E.2.1 dX3_read_147 (by decide) ?_
                      refine g_SR (As := [.int (FX3_figure g b tb n z c (3 * k_2 + 2 + 1)), .int 0, .int 9]) (rest := []) E hK (c_X3_within l D cI cB (FX3_figure g b tb n z c (3 * k_2 + 2 + 1)) 0 9) (va_cwS 3 E.2.2.2.2 gX3_read_X3_within rfl rfl rfl (by decide +kernel) ⟨Nat.le_of_ble_eq_true rfl, Nat.le_of_ble_eq_true rfl⟩) rfl hl.1 rfl (Nat.le_of_ble_eq_true rfl) dX3_read_149 ⟨Nat.zero_le _, Nat.zero_le _⟩ ?_
                      refine lv_if_eq (x := FX3_within (FX3_figure g b tb n z c (3 * k_2 + 2 + 1)) 0 9) (tgt := 161) E.1 E.2.1 dX3_read_152 (by decide) (fun h152 => ?_) (fun h152 => ?_)
                      · have h152 := h152
                        refine lv_iload_n E.1 E.2.1 dX3_read_161 rfl (lv_at hl 0 rfl) ?_
                        refine lv_iconst (v := 1) E.1 E.2.1 dX3_read_162 (by decide) ?_
                        refine lv_iadd (x := nI (3 * k_2 + 2)) (y := 1) E.1 E.2.1 dX3_read_163 ?_
                        refine lv_topi (fun y_29 ey_29 => ?_)
                        obtain rfl : y_29 = nI (3 * k_2 + 2 + 1) := ey_29.trans (nI_1 (3 * k_2 + 2))
                        exact W.iret (v := nI (3 * k_2 + 2 + 1)) E.1 E.2.1 hr (fun tt ht _ => ⟨⟨nI (3 * k_2 + 2 + 1), (g, upd (upd t1 19 (nI (k_2 + 1))) 18 0, gl, b, tb), rfl, (by rw [FX3_read_L12, if_neg h26, if_neg h39, if_neg h57, if_neg h82, if_pos h93, if_neg h101, if_neg h118, if_neg h128, if_pos h152]), (show va_P D vwCl (wM cI cB ad g (upd (upd t1 19 (nI (k_2 + 1))) 18 0) gl b tb) tt.heap from by rw [ht]; exact hP)⟩, hS.F ht⟩) hS.2.2 dX3_read_164
                      · have h152 := h152
                        refine lv_iload_n E.1 E.2.1 dX3_read_155 rfl (lv_at hl 0 rfl) ?_
                        refine lv_iconst (v := 2) E.1 E.2.1 dX3_read_156 (by decide) ?_
                        refine lv_iadd (x := nI (3 * k_2 + 2)) (y := 2) E.1 E.2.1 dX3_read_157 ?_
                        refine lv_topi (fun y_30 ey_30 => ?_)
                        obtain rfl : y_30 = nI (3 * k_2 + 2 + 2) := ey_30.trans (nI_add (3 * k_2 + 2) 2)
                        refine lv_goto (tgt := 164) E.1 E.2.1 dX3_read_158 (by decide) ?_
                        exact W.iret (v := nI (3 * k_2 + 2 + 2)) E.1 E.2.1 hr (fun tt ht _ => ⟨⟨nI (3 * k_2 + 2 + 2), (g, upd (upd t1 19 (nI (k_2 + 1))) 18 0, gl, b, tb), rfl, (by rw [FX3_read_L12, if_neg h26, if_neg h39, if_neg h57, if_neg h82, if_pos h93, if_neg h101, if_neg h118, if_neg h128, if_neg h152]), (show va_P D vwCl (wM cI cB ad g (upd (upd t1 19 (nI (k_2 + 1))) 18 0) gl b tb) tt.heap from by rw [ht]; exact hP)⟩, hS.F ht⟩) hS.2.2 dX3_read_164
                    · have h128 := h128
                      refine lv_iconst (v := 1) E.1 E.2.1 dX3_read_131 (by decide) ?_
                      refine lv_goto (tgt := 136) E.1 E.2.1 dX3_read_132 (by decide) ?_
                      refine mp_0_18 (v := 1) E hK hP in_3 w_0 hI hS rfl rfl dX3_read_136 (fun H locs hP hS => ?_)
                      refine lv_aload_n E.1 E.2.1 dX3_read_139 rfl (lv_at hl 1 rfl) ?_
                      refine lv_iload_n E.1 E.2.1 dX3_read_140 rfl (lv_at hl 0 rfl) ?_
                      refine lv_iconst (v := 1) E.1 E.2.1 dX3_read_141 (by decide) ?_
                      refine lv_iadd (x := nI (3 * k_2 + 2)) (y := 1) E.1 E.2.1 dX3_read_142 ?_
                      refine lv_topi (fun y_31 ey_31 => ?_)
                      obtain rfl : y_31 = nI (3 * k_2 + 2 + 1) := ey_31.trans (nI_1 (3 * k_2 + 2))
                      refine g_VR (As := [.int (nI (3 * k_2 + 2 + 1))]) (rest := []) E hK hP (c_X3_figure l D cI cB ad g (upd (upd t1 19 (nI (k_2 + 1))) 18 1) gl b tb n z c hM (3 * k_2 + 2 + 1) (by omega)) (cwV 1 E.2.2.2.2 gX3_read_X3_figure rfl rfl rfl (by decide +kernel) ⟨Nat.le_of_ble_eq_true rfl, Nat.le_of_ble_eq_true rfl⟩) (rm0x hK hP) rfl hl.1 rfl (Nat.le_of_ble_eq_true rfl) dX3_read_143 ⟨Nat.zero_le _, Nat.zero_le _⟩ ?_
                      refine lv_iconst (v := 0) E.1 E.2.1 dX3_read_146 (by decide) ?_
                      refine lv_bipush (v := 9) E.1 E.2.1 dX3_read_147 (by decide) ?_
                      refine g_SR (As := [.int (FX3_figure g b tb n z c (3 * k_2 + 2 + 1)), .int 0, .int 9]) (rest := []) E hK (c_X3_within l D cI cB (FX3_figure g b tb n z c (3 * k_2 + 2 + 1)) 0 9) (va_cwS 3 E.2.2.2.2 gX3_read_X3_within rfl rfl rfl (by decide +kernel) ⟨Nat.le_of_ble_eq_true rfl, Nat.le_of_ble_eq_true rfl⟩) rfl hl.1 rfl (Nat.le_of_ble_eq_true rfl) dX3_read_149 ⟨Nat.zero_le _, Nat.zero_le _⟩ ?_
                      refine lv_if_eq (x := FX3_within (FX3_figure g b tb n z c (3 * k_2 + 2 + 1)) 0 9) (tgt := 161) E.1 E.2.1 dX3_read_152 (by decide) (fun h152 => ?_) (fun h152 => ?_)
                      · have h152 := h152
                        refine lv_iload_n E.1 E.2.1 dX3_read_161 rfl (lv_at hl 0 rfl) ?_
                        refine lv_iconst (v := 1) E.1 E.2.1 dX3_read_162 (by decide) ?_
                        refine lv_iadd (x := nI (3 * k_2 + 2)) (y := 1) E.1 E.2.1 dX3_read_163 ?_
                        refine lv_topi (fun y_32 ey_32 => ?_)
                        obtain rfl : y_32 = nI (3 * k_2 + 2 + 1) := ey_32.trans (nI_1 (3 * k_2 + 2))
                        exact W.iret (v := nI (3 * k_2 + 2 + 1)) E.1 E.2.1 hr (fun tt ht _ => ⟨⟨nI (3 * k_2 + 2 + 1), (g, upd (upd t1 19 (nI (k_2 + 1))) 18 1, gl, b, tb), rfl, (by rw [FX3_read_L12, if_neg h26, if_neg h39, if_neg h57, if_neg h82, if_pos h93, if_neg h101, if_neg h118, if_pos h128, if_pos h152]), (show va_P D vwCl (wM cI cB ad g (upd (upd t1 19 (nI (k_2 + 1))) 18 1) gl b tb) tt.heap from by rw [ht]; exact hP)⟩, hS.F ht⟩) hS.2.2 dX3_read_164
                      · have h152 := h152
                        refine lv_iload_n E.1 E.2.1 dX3_read_155 rfl (lv_at hl 0 rfl) ?_
                        refine lv_iconst (v := 2) E.1 E.2.1 dX3_read_156 (by decide) ?_
                        refine lv_iadd (x := nI (3 * k_2 + 2)) (y := 2) E.1 E.2.1 dX3_read_157 ?_
                        refine lv_topi (fun y_33 ey_33 => ?_)
                        obtain rfl : y_33 = nI (3 * k_2 + 2 + 2) := ey_33.trans (nI_add (3 * k_2 + 2) 2)
                        refine lv_goto (tgt := 164) E.1 E.2.1 dX3_read_158 (by decide) ?_
                        exact W.iret (v := nI (3 * k_2 + 2 + 2)) E.1 E.2.1 hr (fun tt ht _ => ⟨⟨nI (3 * k_2 + 2 + 2), (g, upd (upd t1 19 (nI (k_2 + 1))) 18 1, gl, b, tb), rfl, (by rw [FX3_read_L12, if_neg h26, if_neg h39, if_neg h57, if_neg h82, if_pos h93, if_neg h101, if_neg h118, if_pos h128, if_neg h152]), (show va_P D vwCl (wM cI cB ad g (upd (upd t1 19 (nI (k_2 + 1))) 18 1) gl b tb) tt.heap from by rw [ht]; exact hP)⟩, hS.F ht⟩) hS.2.2 dX3_read_164
          · have h57 := h57
            refine lv_iload_n E.1 E.2.1 dX3_read_60 rfl (lv_at hl 0 rfl) ?_
            refine lv_iconst (v := 1) E.1 E.2.1 dX3_read_61 (by decide) ?_
            refine lv_iadd (x := nI (3 * k_2)) (y := 1) E.1 E.2.1 dX3_read_62 ?_
            refine lv_topi (fun y_34 ey_34 => ?_)
            obtain rfl : y_34 = nI (3 * k_2 + 1) := ey_34.trans (nI_1 (3 * k_2))
            exact W.iret (v := nI (3 * k_2 + 1)) E.1 E.2.1 hr (fun tt ht _ => ⟨⟨nI (3 * k_2 + 1), (g, t1, gl, b, tb), rfl, (by rw [FX3_read_L12, if_neg h26, if_neg h39, if_pos h57]), (show va_P D vwCl (wM cI cB ad g t1 gl b tb) tt.heap from by rw [ht]; exact hP)⟩, hS.F ht⟩) hS.2.2 dX3_read_63
        · have h39 := h39
          refine lv_iload_n E.1 E.2.1 dX3_read_42 rfl (lv_at hl 0 rfl) ?_
          exact W.iret (v := nI (3 * k_2)) E.1 E.2.1 hr (fun tt ht _ => ⟨⟨nI (3 * k_2), (g, t1, gl, b, tb), rfl, (by rw [FX3_read_L12, if_neg h26, if_pos h39]), (show va_P D vwCl (wM cI cB ad g t1 gl b tb) tt.heap from by rw [ht]; exact hP)⟩, hS.F ht⟩) hS.2.2 dX3_read_43
  rw [show FX3_read g t gl b tb n z c = FX3_read_L12 g gl b tb n z c 6 0 (upd (upd t 18 0) 19 0) from by rw [FX3_read]]
  have hl : lv_has ls 2 [(1, .int (nI (3 * 0))), (0, .ref (ad 0))] := lv_sub hl [0, 1] rfl
  exact loop1 _ _ (upd (upd t 18 0) 19 0) _ _ ls (by omega) (⟨rfl, rfl⟩) hP hS (lv_sub hl [0, 1] rfl)
theorem ite_P {α : Type} {P : α → Prop} {c : Prop} [Decidable c] {x y : α} (h1 : c → P x) (h2 : ¬ c → P y) : P (if c then x else y) := by
  by_cases h : c
  · rw [if_pos h]; exact h1 h
  · rw [if_neg h]; exact h2 h
def Kq (g : Nat → Int32) (gl : Nat → Int64) (b tb : Nat → Nat → Int32) (r : Int32 × SM) : Prop := r.2.1 = g ∧ r.2.2.2.1 = gl ∧ r.2.2.2.2.1 = b ∧ r.2.2.2.2.2 = tb
def Kr (g : Nat → Int32) (gl : Nat → Int64) (b : Nat → Nat → Int32) (r : Int32 × SM) : Prop := r.2.1 = g ∧ r.2.2.2.1 = gl ∧ r.2.2.2.2.1 = b
def Wh (z : Nat) (r : Int32 × SM) : Prop := ¬ r.2.2.1 18 = 0 → r.1 = nI z ∧ r.2.2.1 19 = nI ((z - 1) / 3) ∧ 7 ≤ z
theorem kp_read_L (g : Nat → Int32) (gl : Nat → Int64) (b tb : Nat → Nat → Int32) (n z c : Nat) : ∀ (d k : Nat) (t : Nat → Int32), Kq g gl b tb (FX3_read_L12 g gl b tb n z c d k t) := by
  intro d
  induction d with
  | zero => intro k t; exact ⟨rfl, rfl, rfl, rfl⟩
  | succ d ih =>
    intro k t
    rw [FX3_read_L12]
    repeat' first | refine ite_P (P := Kq g gl b tb) (fun _ => ?_) (fun _ => ?_) | exact ih _ _ | exact ⟨rfl, rfl, rfl, rfl⟩
theorem kp_read_g (g t : Nat → Int32) (gl : Nat → Int64) (b tb : Nat → Nat → Int32) (n z c : Nat) : (FX3_read g t gl b tb n z c).2.1 = g := (kp_read_L g gl b tb n z c 6 0 _).1
theorem kp_read_gl (g t : Nat → Int32) (gl : Nat → Int64) (b tb : Nat → Nat → Int32) (n z c : Nat) : (FX3_read g t gl b tb n z c).2.2.2.1 = gl := (kp_read_L g gl b tb n z c 6 0 _).2.1
theorem kp_read_b (g t : Nat → Int32) (gl : Nat → Int64) (b tb : Nat → Nat → Int32) (n z c : Nat) : (FX3_read g t gl b tb n z c).2.2.2.2.1 = b := (kp_read_L g gl b tb n z c 6 0 _).2.2.1
theorem kp_read_tb (g t : Nat → Int32) (gl : Nat → Int64) (b tb : Nat → Nat → Int32) (n z c : Nat) : (FX3_read g t gl b tb n z c).2.2.2.2.2 = tb := (kp_read_L g gl b tb n z c 6 0 _).2.2.2

def FX3_fault (g : Nat → Int32) (t : Nat → Int32) (gl : Nat → Int64) (b : Nat → Nat → Int32) (tb : Nat → Nat → Int32) (n : Nat) (z : Nat) (c : Nat) : Int32 × SM := ((FX3_read g t gl b tb n z c).1, (FX3_read g t gl b tb n z c).2.1, (FX3_read g t gl b tb n z c).2.2.1, (FX3_read g t gl b tb n z c).2.2.2.1, (FX3_read g t gl b tb n z c).2.2.2.2.1, (FX3_read g t gl b tb n z c).2.2.2.2.2)
set_option maxHeartbeats 4000000 in
set_option maxRecDepth 100000 in
/-- fault -/
theorem c_X3_fault (l : Launch) (D : va_G) (cI cB : ClassId) (ad : Nat → Nat) (g t : Nat → Int32) (gl : Nat → Int64) (b tb : Nat → Nat → Int32) (n z c : Nat) (hM : IM n z c g b) (hI : wI 20 ad)  : Met l yX3_fault wsX3_fault ({ frames := 2, cells := 0, slots := 0, locals := 43 }) (GPc D cI cB (wM cI cB ad g t gl b tb) [.ref (ad 0)]) (va_Qi (fun (r : Int32) (u : SM) => (r, u) = FX3_fault g t gl b tb n z c) (fun u t => va_P D vwCl (wM cI cB ad u.1 u.2.1 u.2.2.1 u.2.2.2.1 u.2.2.2.2) t.heap) (wA 20 ad)) 0 0 (wA 20 ad) := by
  refine Met.ofW (cc := cX3_fault) (maxL := 1) (ret := (some .int)) (by decide) rfl ?_
  intro p e s m args below meth cd s₁ B hml hv
  obtain ⟨rfl, hP, hK⟩ := hv
  have hts := atoms_spec (ws := wsX3_fault) B.pre
  have E : CallFix p m cd cX3_fault 1 s _ wsX3_fault RX3 := ⟨B.exec, B.bytes, hml, findClass_of_methodNamed B.named, hts⟩
  have hr := B.returns
  have hlocks := B.notSynchronized
  have h2n := pow6 (n := n) (by have := hM.2.1; omega)
  obtain ⟨hn, hn6, hz, hz21, hc, hc6, hfs⟩ := id hM
  have hS : va_S (wA 20 ad) s.heap s.heap [] := va_S.rf
  have hl := lv_entry ([.ref (ad 0)]) (n := 1) (Nat.le_of_ble_eq_true rfl)
  rw [lg_entry_eq]
  generalize (lg_sl ([.ref (ad 0)]) ++ List.replicate (1 - (lg_sl ([.ref (ad 0)])).length) Slot.unset).toArray = ls at hl ⊢
  have hl : lv_has ls 1 [(0, .ref (ad 0))] := hl
  refine lv_aload_n E.1 E.2.1 dX3_fault_0 rfl (lv_at hl 0 rfl) ?_
  refine g_VWi (As := []) (rest := []) E hK hP hS (fun q h => h) (c_X3_read l D cI cB ad g t gl b tb n z c hM hI) (cwV 0 E.2.2.2.2 gX3_fault_X3_read rfl rfl rfl (by decide +kernel) ⟨Nat.le_of_ble_eq_true rfl, Nat.le_of_ble_eq_true rfl⟩) (rm0x hK hP) rfl hl.1 rfl (Nat.le_of_ble_eq_true rfl) dX3_fault_1 ⟨Nat.zero_le _, Nat.zero_le _⟩ (fun r_2 u_1 H1 locs hp_3 hP1 hq_4 hS => ?_)
  obtain rfl : r_2 = (FX3_read g t gl b tb n z c).1 := congrArg Prod.fst hp_3
  obtain rfl : u_1 = (FX3_read g t gl b tb n z c).2 := congrArg Prod.snd hp_3
  have hP : va_P D vwCl (wM cI cB ad ((FX3_read g t gl b tb n z c).2.1) ((FX3_read g t gl b tb n z c).2.2.1) ((FX3_read g t gl b tb n z c).2.2.2.1) ((FX3_read g t gl b tb n z c).2.2.2.2.1) ((FX3_read g t gl b tb n z c).2.2.2.2.2)) H1 := hP1
  clear hP1
  generalize H1 = H at hP hS ⊢
  exact W.iret (v := (FX3_read g t gl b tb n z c).1) E.1 E.2.1 hr (fun tt ht _ => ⟨⟨(FX3_read g t gl b tb n z c).1, ((FX3_read g t gl b tb n z c).2.1, (FX3_read g t gl b tb n z c).2.2.1, (FX3_read g t gl b tb n z c).2.2.2.1, (FX3_read g t gl b tb n z c).2.2.2.2.1, (FX3_read g t gl b tb n z c).2.2.2.2.2), rfl, (by rw [FX3_fault]), (show va_P D vwCl (wM cI cB ad ((FX3_read g t gl b tb n z c).2.1) ((FX3_read g t gl b tb n z c).2.2.1) ((FX3_read g t gl b tb n z c).2.2.2.1) ((FX3_read g t gl b tb n z c).2.2.2.2.1) ((FX3_read g t gl b tb n z c).2.2.2.2.2)) tt.heap from by rw [ht]; exact hP)⟩, hS.F ht⟩) hS.2.2 dX3_fault_4
theorem read_whole_L (g : Nat → Int32) (gl : Nat → Int64) (b tb : Nat → Nat → Int32) (n z c : Nat) (hz : z ≤ 21) : ∀ (d k : Nat) (t : Nat → Int32), k + d = 6 → t 18 = 0 → Wh z (FX3_read_L12 g gl b tb n z c d k t) := by
  intro d
  induction d with
  | zero => intro k t hk ht h; exact absurd ht h
  | succ d ih =>
    intro k t hk ht
    rw [FX3_read_L12]
    by_cases hC : nI (3 * k + 2 + 2) = nI z
    · have hzk : 3 * k + 2 + 2 = z := (nI_eq (by omega) (by omega)).mp hC
      by_cases hW : FX3_within (FX3_figure g b tb n z c (3 * k + 2 + 1)) 0 9 = 0
      · simp only [if_pos hW]
        repeat' first | refine ite_P (P := Wh z) (fun _ => ?_) (fun _ => ?_) | exact ih (k + 1) _ (by omega) ht | exact fun h => absurd ht h | exact fun h => absurd rfl h
      · by_cases hD : nI (k + 1) ≤ 1
        · simp only [if_pos hD]
          repeat' first | refine ite_P (P := Wh z) (fun _ => ?_) (fun _ => ?_) | exact ih (k + 1) _ (by omega) ht | exact fun h => absurd ht h | exact fun h => absurd rfl h
        · have hk1 : 1 ≤ k := by
            rcases Nat.eq_zero_or_pos k with q | q
            · subst q; exact absurd (show nI (0 + 1) ≤ 1 by decide) hD
            · exact q
          have hg : nI (3 * k + 2 + 2) = nI z ∧ nI (k + 1) = nI ((z - 1) / 3) ∧ 7 ≤ z := ⟨hC, by rw [show (z - 1) / 3 = k + 1 by omega], by omega⟩
          simp only [if_pos hC, if_neg hW, if_neg hD]
          repeat' first | refine ite_P (P := Wh z) (fun _ => ?_) (fun _ => ?_) | exact ih (k + 1) _ (by omega) ht | exact fun h => absurd ht h | exact fun h => absurd rfl h | exact fun _ => hg
    · simp only [if_neg hC]
      repeat' first | refine ite_P (P := Wh z) (fun _ => ?_) (fun _ => ?_) | exact ih (k + 1) _ (by omega) ht | exact fun h => absurd ht h | exact fun h => absurd rfl h
theorem read_whole {g t : Nat → Int32} {gl : Nat → Int64} {b tb : Nat → Nat → Int32} {n z c : Nat} (hz : z ≤ 21) (h : ¬ (FX3_read g t gl b tb n z c).2.2.1 18 = 0) : (FX3_read g t gl b tb n z c).1 = nI z ∧ (FX3_read g t gl b tb n z c).2.2.1 19 = nI ((z - 1) / 3) ∧ 7 ≤ z := read_whole_L g gl b tb n z c hz 6 0 _ rfl rfl h

def FX3_city_L25 (gl : Nat → Int64) (tb : Nat → Nat → Int32) (n : Nat) (z : Nat) (c : Nat) : Nat → Nat → (Nat → Int32) → (Nat → Int32) → (Nat → Nat → Int32) → Int32 × SM
  | 0, k_7, g6, t6, b6 => (nI ((z - 1) / 3), upd (upd (upd (upd (upd (upd (upd g6 8 ((b6 10 (z - 1)) - 48)) 0 ((g6 0) + 1)) 9 0) 10 0) 11 0) 12 0) 16 0, t6, gl, b6, tb)
  | d_6 + 1, k_7, g6, t6, b6 => FX3_city_L25 gl tb n z c d_6 (k_7 + 1) g6 t6 (uA (uA (uA (uA (uA (uA b6 1 (upd (b6 1) k_7 (FX3_kindBy (b6 10 (3 * k_7))))) 2 (upd (b6 2) k_7 ((b6 10 (3 * k_7 + 1)) - 48))) 3 (upd (b6 3) k_7 0)) 4 (upd (b6 4) k_7 0)) 5 (upd (b6 5) k_7 0)) 6 (upd (b6 6) k_7 0))
def FX3_city (g : Nat → Int32) (t : Nat → Int32) (gl : Nat → Int64) (b : Nat → Nat → Int32) (tb : Nat → Nat → Int32) (n : Nat) (z : Nat) (c : Nat) : Int32 × SM := (if ((FX3_read g t gl b tb n z c).2.2.1) 18 = 0 then ((-103), g, (FX3_read g t gl b tb n z c).2.2.1, gl, b, tb) else FX3_city_L25 gl tb n z c ((z - 1) / 3) 0 (upd g 1 (nI ((z - 1) / 3))) ((FX3_read g t gl b tb n z c).2.2.1) b)
set_option maxHeartbeats 4000000 in
set_option maxRecDepth 100000 in
/-- city -/
theorem c_X3_city (l : Launch) (D : va_G) (cI cB : ClassId) (ad : Nat → Nat) (g t : Nat → Int32) (gl : Nat → Int64) (b tb : Nat → Nat → Int32) (n z c : Nat) (hM : IM n z c g b) (hI : wI 20 ad)  : Met l yX3_city wsX3_city ({ frames := 2, cells := 0, slots := 0, locals := 43 }) (GPc D cI cB (wM cI cB ad g t gl b tb) [.ref (ad 0)]) (va_Qi (fun (r : Int32) (u : SM) => (r, u) = FX3_city g t gl b tb n z c) (fun u t => va_P D vwCl (wM cI cB ad u.1 u.2.1 u.2.2.1 u.2.2.2.1 u.2.2.2.2) t.heap) (wA 20 ad)) 0 0 (wA 20 ad) := by
  refine Met.ofW (cc := cX3_city) (maxL := 3) (ret := (some .int)) (by decide) rfl ?_
  intro p e s m args below meth cd s₁ B hml hv
  obtain ⟨rfl, hP, hK⟩ := hv
  have hts := atoms_spec (ws := wsX3_city) B.pre
  have E : CallFix p m cd cX3_city 3 s _ wsX3_city RX3 := ⟨B.exec, B.bytes, hml, findClass_of_methodNamed B.named, hts⟩
  have hr := B.returns
  have hlocks := B.notSynchronized
  have h2n := pow6 (n := n) (by have := hM.2.1; omega)
  obtain ⟨hn, hn6, hz, hz21, hc, hc6, hfs⟩ := id hM
  have hS : va_S (wA 20 ad) s.heap s.heap [] := va_S.rf
  have in_3 : ∀ w ∈ wsX30, w ∈ wsX3_city := fun _ h => List.mem_cons_of_mem _ (List.mem_append_right _ h)
  have w_0 : (Cond.fieldLink RX3 76 "SnowTermModel" "isWhole" "Z").before _ s = true := hts _ (by decide +kernel)
  have w_1 : (Cond.fieldLink RX3 80 "SnowTermModel" "newMany" "I").before _ s = true := hts _ (by decide +kernel)
  have w_2 : (Cond.fieldLink RX3 94 "SnowTermModel" "sites" "I").before _ s = true := hts _ (by decide +kernel)
  have w_3 : (Cond.fieldLink RX3 37 "SnowTermModel" "page" "[B").before _ s = true := hts _ (by decide +kernel)
  have w_4 : (Cond.fieldLink RX3 97 "SnowTermModel" "sunNow" "I").before _ s = true := hts _ (by decide +kernel)
  have w_5 : (Cond.fieldLink RX3 100 "SnowTermModel" "cities" "I").before _ s = true := hts _ (by decide +kernel)
  have w_6 : (Cond.fieldLink RX3 103 "SnowTermModel" "days" "I").before _ s = true := hts _ (by decide +kernel)
  have w_7 : (Cond.fieldLink RX3 106 "SnowTermModel" "praise" "I").before _ s = true := hts _ (by decide +kernel)
  have w_8 : (Cond.fieldLink RX3 109 "SnowTermModel" "cost" "I").before _ s = true := hts _ (by decide +kernel)
  have w_9 : (Cond.fieldLink RX3 112 "SnowTermModel" "found" "I").before _ s = true := hts _ (by decide +kernel)
  have w_10 : (Cond.fieldLink RX3 72 "SnowTermModel" "pageLength" "I").before _ s = true := hts _ (by decide +kernel)
  have w_11 : (Cond.fieldLink RX3 7 "SnowTermModel" "kindOf" "[I").before _ s = true := hts _ (by decide +kernel)
  have w_12 : (Cond.fieldLink RX3 13 "SnowTermModel" "wantOf" "[I").before _ s = true := hts _ (by decide +kernel)
  have w_13 : (Cond.fieldLink RX3 16 "SnowTermModel" "deepOf" "[I").before _ s = true := hts _ (by decide +kernel)
  have w_14 : (Cond.fieldLink RX3 19 "SnowTermModel" "startOf" "[I").before _ s = true := hts _ (by decide +kernel)
  have w_15 : (Cond.fieldLink RX3 22 "SnowTermModel" "broughtTo" "[I").before _ s = true := hts _ (by decide +kernel)
  have w_16 : (Cond.fieldLink RX3 25 "SnowTermModel" "feetOf" "[I").before _ s = true := hts _ (by decide +kernel)
  have hl := lv_entry ([.ref (ad 0)]) (n := 3) (Nat.le_of_ble_eq_true rfl)
  rw [lg_entry_eq]
  generalize (lg_sl ([.ref (ad 0)]) ++ List.replicate (3 - (lg_sl ([.ref (ad 0)])).length) Slot.unset).toArray = ls at hl ⊢
  have hl : lv_has ls 3 [(0, .ref (ad 0))] := hl
  refine lv_aload_n E.1 E.2.1 dX3_city_0 rfl (lv_at hl 0 rfl) ?_
  refine g_VWi (As := []) (rest := []) E hK hP hS (fun q h => h) (c_X3_read l D cI cB ad g t gl b tb n z c hM hI) (cwV 0 E.2.2.2.2 gX3_city_X3_read rfl rfl rfl (by decide +kernel) ⟨Nat.le_of_ble_eq_true rfl, Nat.le_of_ble_eq_true rfl⟩) (rm0x hK hP) rfl hl.1 rfl (Nat.le_of_ble_eq_true rfl) dX3_city_1 ⟨Nat.zero_le _, Nat.zero_le _⟩ (fun r_2 u_1 H1 locs hp_3 hP1 hq_4 hS => ?_)
  obtain rfl : r_2 = (FX3_read g t gl b tb n z c).1 := congrArg Prod.fst hp_3
  obtain rfl : u_1 = (FX3_read g t gl b tb n z c).2 := congrArg Prod.snd hp_3
  have hP : va_P D vwCl (wM cI cB ad ((FX3_read g t gl b tb n z c).2.1) ((FX3_read g t gl b tb n z c).2.2.1) ((FX3_read g t gl b tb n z c).2.2.2.1) ((FX3_read g t gl b tb n z c).2.2.2.2.1) ((FX3_read g t gl b tb n z c).2.2.2.2.2)) H1 := hP1
  clear hP1
  generalize H1 = H at hP hS ⊢
  rw [show (FX3_read g t gl b tb n z c).2.1 = g from kp_read_g ..] at hP
  rw [show (FX3_read g t gl b tb n z c).2.2.2.1 = gl from kp_read_gl ..] at hP
  rw [show (FX3_read g t gl b tb n z c).2.2.2.2.1 = b from kp_read_b ..] at hP
  rw [show (FX3_read g t gl b tb n z c).2.2.2.2.2 = tb from kp_read_tb ..] at hP
  have hP : va_P D vwCl (wM cI cB ad g ((FX3_read g t gl b tb n z c).2.2.1) gl b tb) H := hP
  refine lv_istore_n (lv' := [(1, .int ((FX3_read g t gl b tb n z c).1)), (0, .ref (ad 0))]) E.1 E.2.1 dX3_city_4 rfl hl (by decide) rfl (fun ls hl => ?_)
  refine lv_aload_n E.1 E.2.1 dX3_city_5 rfl (lv_at hl 1 rfl) ?_
  refine mg_0_18 E hK hP in_3 w_0 dX3_city_6 ?_
  refine lv_if_ne (x := ((FX3_read g t gl b tb n z c).2.2.1) 18) (tgt := 15) E.1 E.2.1 dX3_city_9 (by decide) (fun h9 => ?_) (fun h9 => ?_)
  · have h9 := h9
    obtain ⟨hr1, hr2, hr3⟩ := read_whole hz21 h9
    rw [hr1] at hl
    have hl : lv_has ls 3 [(1, .int (nI z)), (0, .ref (ad 0))] := hl
    refine lv_aload_n E.1 E.2.1 dX3_city_15 rfl (lv_at hl 1 rfl) ?_
    refine lv_aload_n E.1 E.2.1 dX3_city_16 rfl (lv_at hl 1 rfl) ?_
    refine mg_0_19 E hK hP in_3 w_1 dX3_city_17 ?_
    refine lv_topi (fun y_5 ey_5 => ?_)
    obtain rfl : y_5 = nI ((z - 1) / 3) := ey_5.trans (hr2)
    refine mp_0_1 (v := nI ((z - 1) / 3)) E hK hP in_3 w_2 hI hS dX3_city_20 (fun H locs hP hS => ?_)
    refine lv_iconst (v := 0) E.1 E.2.1 dX3_city_23 (by decide) ?_
    refine lv_istore_n (lv' := [(2, .int 0), (1, .int (nI z)), (0, .ref (ad 0))]) E.1 E.2.1 dX3_city_24 rfl hl (by decide) rfl (fun ls hl => ?_)
    have loop6 : ∀ (d_6 k_7 : Nat) (g6 : Nat → Int32) (t6 : Nat → Int32) (b6 : Nat → Nat → Int32) (H : Heap) (locs : List Loc) (ls : Array Slot), k_7 + d_6 = (z - 1) / 3 → g6 1 = nI ((z - 1) / 3) → va_P D vwCl (wM cI cB ad g6 t6 gl b6 tb) H → va_S (wA 20 ad) s.heap H locs → lv_has ls 3 [(2, .int (nI k_7)), (1, .int (nI z)), (0, .ref (ad 0))] → W p l e (headSpec wsX3_city { frames := 2, cells := 0, slots := 0, locals := 43 }).room s m ([.ref (ad 0)] : List Value).toArray below meth cd H locs 0 0 (MQ below (va_Qi (fun (r : Int32) (u : SM) => (r, u) = FX3_city_L25 gl tb n z c d_6 k_7 g6 t6 b6) (fun u t => va_P D vwCl (wM cI cB ad u.1 u.2.1 u.2.2.1 u.2.2.2.1 u.2.2.2.2) t.heap) (wA 20 ad)) ([.ref (ad 0)] : List Value).toArray s 0 0 (wA 20 ad)) (F0 m 25 ls []) := by
      intro d_6
      induction d_6 with
      | zero =>
        intro k_7 g6 t6 b6 H locs ls hk6 hinv hP hS hl
        refine lv_iload_n E.1 E.2.1 dX3_city_25 rfl (lv_at hl 0 rfl) ?_
        refine lv_aload_n E.1 E.2.1 dX3_city_26 rfl (lv_at hl 2 rfl) ?_
        refine mg_0_1 E hK hP in_3 w_2 dX3_city_27 ?_
        refine lv_topi (fun y_8 ey_8 => ?_)
        obtain rfl : y_8 = nI ((z - 1) / 3) := ey_8.trans (hinv)
        refine lv_icmp_ge (x := nI k_7) (y := nI ((z - 1) / 3)) (tgt := 103) E.1 E.2.1 dX3_city_30 (by decide) (fun _ => ?_) (fun h9 => absurd (nI_le (a := ((z - 1) / 3)) (b := k_7) (by omega) (by omega)) h9)
        refine lv_aload_n E.1 E.2.1 dX3_city_103 rfl (lv_at hl 2 rfl) ?_
        refine lv_aload_n E.1 E.2.1 dX3_city_104 rfl (lv_at hl 2 rfl) ?_
        refine mg_0_17 E hK hP in_3 w_3 dX3_city_105 ?_
        refine lv_iload_n E.1 E.2.1 dX3_city_108 rfl (lv_at hl 1 rfl) ?_
        refine lv_iconst (v := 1) E.1 E.2.1 dX3_city_109 (by decide) ?_
        refine lv_isub (x := nI z) (y := 1) E.1 E.2.1 dX3_city_110 ?_
        refine lv_topi (fun y_9 ey_9 => ?_)
        obtain rfl : y_9 = nI (z - 1) := ey_9.trans (pk_sub (a := z) (b := 1) (by omega))
        refine ml_10 (i := nI (z - 1)) E hK hP (vp_in_nI (by omega) (by omega)) dX3_city_111 ?_
        refine lv_topi (fun y_10 ey_10 => ?_)
        obtain rfl : y_10 = b6 10 (z - 1) := ey_10.trans (by rw [nI_clamp (show (z - 1) < 2 ^ 31 by omega)] <;> rfl)
        refine lv_bipush (v := 48) E.1 E.2.1 dX3_city_112 (by decide) ?_
        refine lv_isub (x := b6 10 (z - 1)) (y := 48) E.1 E.2.1 dX3_city_114 ?_
        refine mp_0_8 (v := (b6 10 (z - 1)) - 48) E hK hP in_3 w_4 hI hS dX3_city_115 (fun H locs hP hS => ?_)
        refine lv_aload_n E.1 E.2.1 dX3_city_118 rfl (lv_at hl 2 rfl) ?_
        refine lv_dup E.1 E.2.1 dX3_city_119 rfl ?_
        refine mg_0_0 E hK hP in_3 w_5 dX3_city_120 ?_
        refine lv_topi (fun y_11 ey_11 => ?_)
        obtain rfl : y_11 = g6 0 := ey_11.trans (rfl)
        refine lv_iconst (v := 1) E.1 E.2.1 dX3_city_123 (by decide) ?_
        refine lv_iadd (x := g6 0) (y := 1) E.1 E.2.1 dX3_city_124 ?_
        refine mp_0_0 (v := (g6 0) + 1) E hK hP in_3 w_5 hI hS dX3_city_125 (fun H locs hP hS => ?_)
        refine lv_aload_n E.1 E.2.1 dX3_city_128 rfl (lv_at hl 2 rfl) ?_
        refine lv_iconst (v := 0) E.1 E.2.1 dX3_city_129 (by decide) ?_
        refine mp_0_9 (v := 0) E hK hP in_3 w_6 hI hS dX3_city_130 (fun H locs hP hS => ?_)
        refine lv_aload_n E.1 E.2.1 dX3_city_133 rfl (lv_at hl 2 rfl) ?_
        refine lv_iconst (v := 0) E.1 E.2.1 dX3_city_134 (by decide) ?_
        refine mp_0_10 (v := 0) E hK hP in_3 w_7 hI hS dX3_city_135 (fun H locs hP hS => ?_)
        refine lv_aload_n E.1 E.2.1 dX3_city_138 rfl (lv_at hl 2 rfl) ?_
        refine lv_iconst (v := 0) E.1 E.2.1 dX3_city_139 (by decide) ?_
        refine mp_0_11 (v := 0) E hK hP in_3 w_8 hI hS dX3_city_140 (fun H locs hP hS => ?_)
        refine lv_aload_n E.1 E.2.1 dX3_city_143 rfl (lv_at hl 2 rfl) ?_
        refine lv_iconst (v := 0) E.1 E.2.1 dX3_city_144 (by decide) ?_
        refine mp_0_12 (v := 0) E hK hP in_3 w_9 hI hS dX3_city_145 (fun H locs hP hS => ?_)
        refine lv_aload_n E.1 E.2.1 dX3_city_148 rfl (lv_at hl 2 rfl) ?_
        refine lv_iconst (v := 0) E.1 E.2.1 dX3_city_149 (by decide) ?_
        refine mp_0_16 (v := 0) E hK hP in_3 w_10 hI hS dX3_city_150 (fun H locs hP hS => ?_)
        refine lv_aload_n E.1 E.2.1 dX3_city_153 rfl (lv_at hl 2 rfl) ?_
        refine mg_0_1 E hK hP in_3 w_2 dX3_city_154 ?_
        refine lv_topi (fun y_12 ey_12 => ?_)
        obtain rfl : y_12 = nI ((z - 1) / 3) := ey_12.trans (hinv)
        exact W.iret (v := nI ((z - 1) / 3)) E.1 E.2.1 hr (fun tt ht _ => ⟨⟨nI ((z - 1) / 3), (upd (upd (upd (upd (upd (upd (upd g6 8 ((b6 10 (z - 1)) - 48)) 0 ((g6 0) + 1)) 9 0) 10 0) 11 0) 12 0) 16 0, t6, gl, b6, tb), rfl, (by rw [FX3_city_L25]), (show va_P D vwCl (wM cI cB ad (upd (upd (upd (upd (upd (upd (upd g6 8 ((b6 10 (z - 1)) - 48)) 0 ((g6 0) + 1)) 9 0) 10 0) 11 0) 12 0) 16 0) t6 gl b6 tb) tt.heap from by rw [ht]; exact hP)⟩, hS.F ht⟩) hS.2.2 dX3_city_157
      | succ d_6 ih6 =>
        intro k_7 g6 t6 b6 H locs ls hk6 hinv hP hS hl
        refine lv_iload_n E.1 E.2.1 dX3_city_25 rfl (lv_at hl 0 rfl) ?_
        refine lv_aload_n E.1 E.2.1 dX3_city_26 rfl (lv_at hl 2 rfl) ?_
        refine mg_0_1 E hK hP in_3 w_2 dX3_city_27 ?_
        refine lv_topi (fun y_13 ey_13 => ?_)
        obtain rfl : y_13 = nI ((z - 1) / 3) := ey_13.trans (hinv)
        refine lv_icmp_ge (x := nI k_7) (y := nI ((z - 1) / 3)) (tgt := 103) E.1 E.2.1 dX3_city_30 (by decide) (fun h9 => absurd h9 (nI_ge (a := k_7) (b := ((z - 1) / 3)) (by omega) (by omega))) (fun _ => ?_)
        refine lv_aload_n E.1 E.2.1 dX3_city_33 rfl (lv_at hl 2 rfl) ?_
        refine mg_0_2 E hK hP in_3 w_11 dX3_city_34 ?_
        refine lv_iload_n E.1 E.2.1 dX3_city_37 rfl (lv_at hl 0 rfl) ?_
        refine lv_aload_n E.1 E.2.1 dX3_city_38 rfl (lv_at hl 2 rfl) ?_
        refine mg_0_17 E hK hP in_3 w_3 dX3_city_39 ?_
        refine lv_iconst (v := 3) E.1 E.2.1 dX3_city_42 (by decide) ?_
        refine lv_iload_n E.1 E.2.1 dX3_city_43 rfl (lv_at hl 0 rfl) ?_
        refine lv_imul (x := 3) (y := nI k_7) E.1 E.2.1 dX3_city_44 ?_
        refine lv_topi (fun y_14 ey_14 => ?_)
        obtain rfl : y_14 = nI (3 * k_7) := ey_14.trans (pk_mul 3 k_7)
        refine ml_10 (i := nI (3 * k_7)) E hK hP (vp_in_nI (by omega) (by omega)) dX3_city_45 ?_
        refine lv_topi (fun y_15 ey_15 => ?_)
        obtain rfl : y_15 = b6 10 (3 * k_7) := ey_15.trans (by rw [nI_clamp (show (3 * k_7) < 2 ^ 31 by omega)] <;> rfl)
        refine g_SR (As := [.int (b6 10 (3 * k_7))]) (rest := [.int (nI k_7), .ref (ad 1)]) E hK (c_X3_kindBy l D cI cB (b6 10 (3 * k_7))) (va_cwS 1 E.2.2.2.2 gX3_city_X3_kindBy rfl rfl rfl (by decide +kernel) ⟨Nat.le_of_ble_eq_true rfl, Nat.le_of_ble_eq_true rfl⟩) rfl hl.1 rfl (Nat.le_of_ble_eq_true rfl) dX3_city_46 ⟨Nat.zero_le _, Nat.zero_le _⟩ ?_
        refine ms_1 (v := FX3_kindBy (b6 10 (3 * k_7))) (i := nI k_7) E hK hP hI hS (vp_in_nI (by omega) (by omega)) dX3_city_49 (fun H locs hP hS => ?_)
        rw [nI_clamp (show k_7 < 2 ^ 31 by omega)] at hP
        have hP : va_P D vwCl (wM cI cB ad g6 t6 gl (uA b6 1 (upd (b6 1) k_7 (FX3_kindBy (b6 10 (3 * k_7))))) tb) H := hP
        refine lv_aload_n E.1 E.2.1 dX3_city_50 rfl (lv_at hl 2 rfl) ?_
        refine mg_0_3 E hK hP in_3 w_12 dX3_city_51 ?_
        refine lv_iload_n E.1 E.2.1 dX3_city_54 rfl (lv_at hl 0 rfl) ?_
        refine lv_aload_n E.1 E.2.1 dX3_city_55 rfl (lv_at hl 2 rfl) ?_
        refine mg_0_17 E hK hP in_3 w_3 dX3_city_56 ?_
        refine lv_iconst (v := 3) E.1 E.2.1 dX3_city_59 (by decide) ?_
        refine lv_iload_n E.1 E.2.1 dX3_city_60 rfl (lv_at hl 0 rfl) ?_
        refine lv_imul (x := 3) (y := nI k_7) E.1 E.2.1 dX3_city_61 ?_
        refine lv_topi (fun y_16 ey_16 => ?_)
        obtain rfl : y_16 = nI (3 * k_7) := ey_16.trans (pk_mul 3 k_7)
        refine lv_iconst (v := 1) E.1 E.2.1 dX3_city_62 (by decide) ?_
        refine lv_iadd (x := nI (3 * k_7)) (y := 1) E.1 E.2.1 dX3_city_63 ?_
        refine lv_topi (fun y_17 ey_17 => ?_)
        obtain rfl : y_17 = nI (3 * k_7 + 1) := ey_17.trans (nI_1 (3 * k_7))
        refine ml_10 (i := nI (3 * k_7 + 1)) E hK hP (vp_in_nI (by omega) (by omega)) dX3_city_64 ?_
        refine lv_topi (fun y_18 ey_18 => ?_)
        obtain rfl : y_18 = b6 10 (3 * k_7 + 1) := ey_18.trans (by rw [nI_clamp (show (3 * k_7 + 1) < 2 ^ 31 by omega)] <;> rfl)
        refine lv_bipush (v := 48) E.1 E.2.1 dX3_city_65 (by decide) ?_
        refine lv_isub (x := b6 10 (3 * k_7 + 1)) (y := 48) E.1 E.2.1 dX3_city_67 ?_
        refine ms_2 (v := (b6 10 (3 * k_7 + 1)) - 48) (i := nI k_7) E hK hP hI hS (vp_in_nI (by omega) (by omega)) dX3_city_68 (fun H locs hP hS => ?_)
        rw [nI_clamp (show k_7 < 2 ^ 31 by omega)] at hP
        have hP : va_P D vwCl (wM cI cB ad g6 t6 gl (uA (uA b6 1 (upd (b6 1) k_7 (FX3_kindBy (b6 10 (3 * k_7))))) 2 (upd (b6 2) k_7 ((b6 10 (3 * k_7 + 1)) - 48))) tb) H := hP
        refine lv_aload_n E.1 E.2.1 dX3_city_69 rfl (lv_at hl 2 rfl) ?_
        refine mg_0_4 E hK hP in_3 w_13 dX3_city_70 ?_
        refine lv_iload_n E.1 E.2.1 dX3_city_73 rfl (lv_at hl 0 rfl) ?_
        refine lv_iconst (v := 0) E.1 E.2.1 dX3_city_74 (by decide) ?_
        refine ms_3 (v := 0) (i := nI k_7) E hK hP hI hS (vp_in_nI (by omega) (by omega)) dX3_city_75 (fun H locs hP hS => ?_)
        rw [nI_clamp (show k_7 < 2 ^ 31 by omega)] at hP
        have hP : va_P D vwCl (wM cI cB ad g6 t6 gl (uA (uA (uA b6 1 (upd (b6 1) k_7 (FX3_kindBy (b6 10 (3 * k_7))))) 2 (upd (b6 2) k_7 ((b6 10 (3 * k_7 + 1)) - 48))) 3 (upd (b6 3) k_7 0)) tb) H := hP
        refine lv_aload_n E.1 E.2.1 dX3_city_76 rfl (lv_at hl 2 rfl) ?_
        refine mg_0_5 E hK hP in_3 w_14 dX3_city_77 ?_
        refine lv_iload_n E.1 E.2.1 dX3_city_80 rfl (lv_at hl 0 rfl) ?_
        refine lv_iconst (v := 0) E.1 E.2.1 dX3_city_81 (by decide) ?_
        refine ms_4 (v := 0) (i := nI k_7) E hK hP hI hS (vp_in_nI (by omega) (by omega)) dX3_city_82 (fun H locs hP hS => ?_)
        rw [nI_clamp (show k_7 < 2 ^ 31 by omega)] at hP
        have hP : va_P D vwCl (wM cI cB ad g6 t6 gl (uA (uA (uA (uA b6 1 (upd (b6 1) k_7 (FX3_kindBy (b6 10 (3 * k_7))))) 2 (upd (b6 2) k_7 ((b6 10 (3 * k_7 + 1)) - 48))) 3 (upd (b6 3) k_7 0)) 4 (upd (b6 4) k_7 0)) tb) H := hP
        refine lv_aload_n E.1 E.2.1 dX3_city_83 rfl (lv_at hl 2 rfl) ?_
        refine mg_0_6 E hK hP in_3 w_15 dX3_city_84 ?_
        refine lv_iload_n E.1 E.2.1 dX3_city_87 rfl (lv_at hl 0 rfl) ?_
        refine lv_iconst (v := 0) E.1 E.2.1 dX3_city_88 (by decide) ?_
        refine ms_5 (v := 0) (i := nI k_7) E hK hP hI hS (vp_in_nI (by omega) (by omega)) dX3_city_89 (fun H locs hP hS => ?_)
        rw [nI_clamp (show k_7 < 2 ^ 31 by omega)] at hP
        have hP : va_P D vwCl (wM cI cB ad g6 t6 gl (uA (uA (uA (uA (uA b6 1 (upd (b6 1) k_7 (FX3_kindBy (b6 10 (3 * k_7))))) 2 (upd (b6 2) k_7 ((b6 10 (3 * k_7 + 1)) - 48))) 3 (upd (b6 3) k_7 0)) 4 (upd (b6 4) k_7 0)) 5 (upd (b6 5) k_7 0)) tb) H := hP
        refine lv_aload_n E.1 E.2.1 dX3_city_90 rfl (lv_at hl 2 rfl) ?_
        refine mg_0_7 E hK hP in_3 w_16 dX3_city_91 ?_
        refine lv_iload_n E.1 E.2.1 dX3_city_94 rfl (lv_at hl 0 rfl) ?_
        refine lv_iconst (v := 0) E.1 E.2.1 dX3_city_95 (by decide) ?_
        refine ms_6 (v := 0) (i := nI k_7) E hK hP hI hS (vp_in_nI (by omega) (by omega)) dX3_city_96 (fun H locs hP hS => ?_)
        rw [nI_clamp (show k_7 < 2 ^ 31 by omega)] at hP
        have hP : va_P D vwCl (wM cI cB ad g6 t6 gl (uA (uA (uA (uA (uA (uA b6 1 (upd (b6 1) k_7 (FX3_kindBy (b6 10 (3 * k_7))))) 2 (upd (b6 2) k_7 ((b6 10 (3 * k_7 + 1)) - 48))) 3 (upd (b6 3) k_7 0)) 4 (upd (b6 4) k_7 0)) 5 (upd (b6 5) k_7 0)) 6 (upd (b6 6) k_7 0)) tb) H := hP
        refine lv_iinc (v := nI (k_7 + 1)) (k := 0) (lv' := [(2, .int (nI (k_7 + 1))), (1, .int (nI z)), (0, .ref (ad 0))]) E.1 E.2.1 dX3_city_97 hl rfl (nI_1 k_7) (by decide) rfl (fun ls hl => ?_)
        refine lv_goto (tgt := 25) E.1 E.2.1 dX3_city_100 (by decide) ?_
        rw [show FX3_city_L25 gl tb n z c (d_6 + 1) k_7 g6 t6 b6 = FX3_city_L25 gl tb n z c d_6 (k_7 + 1) g6 t6 (uA (uA (uA (uA (uA (uA b6 1 (upd (b6 1) k_7 (FX3_kindBy (b6 10 (3 * k_7))))) 2 (upd (b6 2) k_7 ((b6 10 (3 * k_7 + 1)) - 48))) 3 (upd (b6 3) k_7 0)) 4 (upd (b6 4) k_7 0)) 5 (upd (b6 5) k_7 0)) 6 (upd (b6 6) k_7 0)) from by rw [FX3_city_L25]]
        exact ih6 (k_7 + 1) g6 t6 (uA (uA (uA (uA (uA (uA b6 1 (upd (b6 1) k_7 (FX3_kindBy (b6 10 (3 * k_7))))) 2 (upd (b6 2) k_7 ((b6 10 (3 * k_7 + 1)) - 48))) 3 (upd (b6 3) k_7 0)) 4 (upd (b6 4) k_7 0)) 5 (upd (b6 5) k_7 0)) 6 (upd (b6 6) k_7 0)) _ _ ls (by omega) (hinv) hP hS (lv_sub hl [0, 1, 2] rfl)
    rw [show FX3_city g t gl b tb n z c = FX3_city_L25 gl tb n z c ((z - 1) / 3) 0 (upd g 1 (nI ((z - 1) / 3))) ((FX3_read g t gl b tb n z c).2.2.1) b from by rw [FX3_city, if_neg h9]]
    have hl : lv_has ls 3 [(2, .int (nI 0)), (1, .int (nI z)), (0, .ref (ad 0))] := lv_sub hl [0, 1, 2] rfl
    exact loop6 _ _ (upd g 1 (nI ((z - 1) / 3))) ((FX3_read g t gl b tb n z c).2.2.1) b _ _ ls (by omega) (rfl) hP hS (lv_sub hl [0, 1, 2] rfl)
  · have h9 := h9
    refine lv_bipush (v := (-103)) E.1 E.2.1 dX3_city_12 (by decide) ?_
    exact W.iret (v := (-103)) E.1 E.2.1 hr (fun tt ht _ => ⟨⟨(-103), (g, (FX3_read g t gl b tb n z c).2.2.1, gl, b, tb), rfl, (by rw [FX3_city, if_pos h9]), (show va_P D vwCl (wM cI cB ad g ((FX3_read g t gl b tb n z c).2.2.1) gl b tb) tt.heap from by rw [ht]; exact hP)⟩, hS.F ht⟩) hS.2.2 dX3_city_14
def FX3_tread (g : Nat → Int32) (t : Nat → Int32) (gl : Nat → Int64) (b : Nat → Nat → Int32) (tb : Nat → Nat → Int32) (n : Nat) (z : Nat) (c : Nat) (p0 : Int32) (p1 : Int32) : Int32 × SM := (if FX3_isSite g b tb n z c p0 = 0 then ((-101), g, t, gl, b, tb) else (if FX3_within p1 0 9 = 0 then ((-102), g, t, gl, b, tb) else (b 6 p0.toNatClampNeg, g, t, gl, uA b 6 (upd (b 6) p0.toNatClampNeg p1), tb)))
set_option maxHeartbeats 4000000 in
set_option maxRecDepth 100000 in
/-- feet -/
theorem c_X3_tread (l : Launch) (D : va_G) (cI cB : ClassId) (ad : Nat → Nat) (g t : Nat → Int32) (gl : Nat → Int64) (b tb : Nat → Nat → Int32) (n z c : Nat) (hM : IM n z c g b) (hI : wI 20 ad) (p0 : Int32) (p1 : Int32) : Met l yX3_tread wsX3_tread ({ frames := 2, cells := 0, slots := 0, locals := 43 }) (GPc D cI cB (wM cI cB ad g t gl b tb) [.ref (ad 0), .int p0, .int p1]) (va_Qi (fun (r : Int32) (u : SM) => (r, u) = FX3_tread g t gl b tb n z c p0 p1) (fun u t => va_P D vwCl (wM cI cB ad u.1 u.2.1 u.2.2.1 u.2.2.2.1 u.2.2.2.2) t.heap) (wA 20 ad)) 0 0 (wA 20 ad) := by
  refine Met.ofW (cc := cX3_tread) (maxL := 4) (ret := (some .int)) (by decide) rfl ?_
  intro p e s m args below meth cd s₁ B hml hv
  obtain ⟨rfl, hP, hK⟩ := hv
  have hts := atoms_spec (ws := wsX3_tread) B.pre
  have E : CallFix p m cd cX3_tread 4 s _ wsX3_tread RX3 := ⟨B.exec, B.bytes, hml, findClass_of_methodNamed B.named, hts⟩
  have hr := B.returns
  have hlocks := B.notSynchronized
  have h2n := pow6 (n := n) (by have := hM.2.1; omega)
  obtain ⟨hn, hn6, hz, hz21, hc, hc6, hfs⟩ := id hM
  have hS : va_S (wA 20 ad) s.heap s.heap [] := va_S.rf
  have in_3 : ∀ w ∈ wsX30, w ∈ wsX3_tread := fun _ h => List.mem_cons_of_mem _ (List.mem_append_right _ h)
  have w_0 : (Cond.fieldLink RX3 25 "SnowTermModel" "feetOf" "[I").before _ s = true := hts _ (by decide +kernel)
  have hl := lv_entry ([.ref (ad 0), .int p0, .int p1]) (n := 4) (Nat.le_of_ble_eq_true rfl)
  rw [lg_entry_eq]
  generalize (lg_sl ([.ref (ad 0), .int p0, .int p1]) ++ List.replicate (4 - (lg_sl ([.ref (ad 0), .int p0, .int p1])).length) Slot.unset).toArray = ls at hl ⊢
  have hl : lv_has ls 4 [(0, .ref (ad 0)), (1, .int p0), (2, .int p1)] := hl
  refine lv_aload_n E.1 E.2.1 dX3_tread_0 rfl (lv_at hl 0 rfl) ?_
  refine lv_iload_n E.1 E.2.1 dX3_tread_1 rfl (lv_at hl 1 rfl) ?_
  refine g_VR (As := [.int p0]) (rest := []) E hK hP (c_X3_isSite l D cI cB ad g t gl b tb n z c hM p0) (cwV 1 E.2.2.2.2 gX3_tread_X3_isSite rfl rfl rfl (by decide +kernel) ⟨Nat.le_of_ble_eq_true rfl, Nat.le_of_ble_eq_true rfl⟩) (rm0x hK hP) rfl hl.1 rfl (Nat.le_of_ble_eq_true rfl) dX3_tread_2 ⟨Nat.zero_le _, Nat.zero_le _⟩ ?_
  refine lv_if_ne (x := FX3_isSite g b tb n z c p0) (tgt := 11) E.1 E.2.1 dX3_tread_5 (by decide) (fun h5 => ?_) (fun h5 => ?_)
  · have h5 := h5
    refine lv_iload_n E.1 E.2.1 dX3_tread_11 rfl (lv_at hl 2 rfl) ?_
    refine lv_iconst (v := 0) E.1 E.2.1 dX3_tread_12 (by decide) ?_
    refine lv_bipush (v := 9) E.1 E.2.1 dX3_tread_13 (by decide) ?_
    refine g_SR (As := [.int p1, .int 0, .int 9]) (rest := []) E hK (c_X3_within l D cI cB p1 0 9) (va_cwS 3 E.2.2.2.2 gX3_tread_X3_within rfl rfl rfl (by decide +kernel) ⟨Nat.le_of_ble_eq_true rfl, Nat.le_of_ble_eq_true rfl⟩) rfl hl.1 rfl (Nat.le_of_ble_eq_true rfl) dX3_tread_15 ⟨Nat.zero_le _, Nat.zero_le _⟩ ?_
    refine lv_if_ne (x := FX3_within p1 0 9) (tgt := 24) E.1 E.2.1 dX3_tread_18 (by decide) (fun h18 => ?_) (fun h18 => ?_)
    · have h18 := h18
      refine lv_aload_n E.1 E.2.1 dX3_tread_24 rfl (lv_at hl 0 rfl) ?_
      refine mg_0_7 E hK hP in_3 w_0 dX3_tread_25 ?_
      refine lv_iload_n E.1 E.2.1 dX3_tread_28 rfl (lv_at hl 1 rfl) ?_
      refine ml_6 (i := p0) E hK hP (site_M hM h5) dX3_tread_29 ?_
      refine lv_istore_n (lv' := [(3, .int (b 6 p0.toNatClampNeg)), (0, .ref (ad 0)), (1, .int p0), (2, .int p1)]) E.1 E.2.1 dX3_tread_30 rfl hl (by decide) rfl (fun ls hl => ?_)
      refine lv_aload_n E.1 E.2.1 dX3_tread_31 rfl (lv_at hl 1 rfl) ?_
      refine mg_0_7 E hK hP in_3 w_0 dX3_tread_32 ?_
      refine lv_iload_n E.1 E.2.1 dX3_tread_35 rfl (lv_at hl 2 rfl) ?_
      refine lv_iload_n E.1 E.2.1 dX3_tread_36 rfl (lv_at hl 3 rfl) ?_
      refine ms_6 (v := p1) (i := p0) E hK hP hI hS (site_M hM h5) dX3_tread_37 (fun H locs hP hS => ?_)
      have hP : va_P D vwCl (wM cI cB ad g t gl (uA b 6 (upd (b 6) p0.toNatClampNeg p1)) tb) H := hP
      refine lv_iload_n E.1 E.2.1 dX3_tread_38 rfl (lv_at hl 0 rfl) ?_
      exact W.iret (v := b 6 p0.toNatClampNeg) E.1 E.2.1 hr (fun tt ht _ => ⟨⟨b 6 p0.toNatClampNeg, (g, t, gl, uA b 6 (upd (b 6) p0.toNatClampNeg p1), tb), rfl, (by rw [FX3_tread, if_neg h5, if_neg h18]), (show va_P D vwCl (wM cI cB ad g t gl (uA b 6 (upd (b 6) p0.toNatClampNeg p1)) tb) tt.heap from by rw [ht]; exact hP)⟩, hS.F ht⟩) hS.2.2 dX3_tread_39
    · have h18 := h18
      refine lv_bipush (v := (-102)) E.1 E.2.1 dX3_tread_21 (by decide) ?_
      exact W.iret (v := (-102)) E.1 E.2.1 hr (fun tt ht _ => ⟨⟨(-102), (g, t, gl, b, tb), rfl, (by rw [FX3_tread, if_neg h5, if_pos h18]), (show va_P D vwCl (wM cI cB ad g t gl b tb) tt.heap from by rw [ht]; exact hP)⟩, hS.F ht⟩) hS.2.2 dX3_tread_23
  · have h5 := h5
    refine lv_bipush (v := (-101)) E.1 E.2.1 dX3_tread_8 (by decide) ?_
    exact W.iret (v := (-101)) E.1 E.2.1 hr (fun tt ht _ => ⟨⟨(-101), (g, t, gl, b, tb), rfl, (by rw [FX3_tread, if_pos h5]), (show va_P D vwCl (wM cI cB ad g t gl b tb) tt.heap from by rw [ht]; exact hP)⟩, hS.F ht⟩) hS.2.2 dX3_tread_10
def FX3_sun (g : Nat → Int32) (t : Nat → Int32) (gl : Nat → Int64) (b : Nat → Nat → Int32) (tb : Nat → Nat → Int32) (n : Nat) (z : Nat) (c : Nat) (p0 : Int32) : Int32 × SM := (if FX3_within p0 0 9 = 0 then ((-102), g, t, gl, b, tb) else (if nI n = 0 then ((-103), g, t, gl, b, tb) else (g 8, upd g 8 p0, t, gl, b, tb)))
set_option maxHeartbeats 4000000 in
set_option maxRecDepth 100000 in
/-- the sun -/
theorem c_X3_sun (l : Launch) (D : va_G) (cI cB : ClassId) (ad : Nat → Nat) (g t : Nat → Int32) (gl : Nat → Int64) (b tb : Nat → Nat → Int32) (n z c : Nat) (hM : IM n z c g b) (hI : wI 20 ad) (p0 : Int32) : Met l yX3_sun wsX3_sun ({ frames := 1, cells := 0, slots := 0, locals := 22 }) (GPc D cI cB (wM cI cB ad g t gl b tb) [.ref (ad 0), .int p0]) (va_Qi (fun (r : Int32) (u : SM) => (r, u) = FX3_sun g t gl b tb n z c p0) (fun u t => va_P D vwCl (wM cI cB ad u.1 u.2.1 u.2.2.1 u.2.2.2.1 u.2.2.2.2) t.heap) (wA 20 ad)) 0 0 (wA 20 ad) := by
  refine Met.ofW (cc := cX3_sun) (maxL := 3) (ret := (some .int)) (by decide) rfl ?_
  intro p e s m args below meth cd s₁ B hml hv
  obtain ⟨rfl, hP, hK⟩ := hv
  have hts := atoms_spec (ws := wsX3_sun) B.pre
  have E : CallFix p m cd cX3_sun 3 s _ wsX3_sun RX3 := ⟨B.exec, B.bytes, hml, findClass_of_methodNamed B.named, hts⟩
  have hr := B.returns
  have hlocks := B.notSynchronized
  have h2n := pow6 (n := n) (by have := hM.2.1; omega)
  obtain ⟨hn, hn6, hz, hz21, hc, hc6, hfs⟩ := id hM
  have hS : va_S (wA 20 ad) s.heap s.heap [] := va_S.rf
  have in_3 : ∀ w ∈ wsX30, w ∈ wsX3_sun := fun _ h => List.mem_cons_of_mem _ (List.mem_append_right _ h)
  have w_0 : (Cond.fieldLink RX3 94 "SnowTermModel" "sites" "I").before _ s = true := hts _ (by decide +kernel)
  have w_1 : (Cond.fieldLink RX3 97 "SnowTermModel" "sunNow" "I").before _ s = true := hts _ (by decide +kernel)
  have hl := lv_entry ([.ref (ad 0), .int p0]) (n := 3) (Nat.le_of_ble_eq_true rfl)
  rw [lg_entry_eq]
  generalize (lg_sl ([.ref (ad 0), .int p0]) ++ List.replicate (3 - (lg_sl ([.ref (ad 0), .int p0])).length) Slot.unset).toArray = ls at hl ⊢
  have hl : lv_has ls 3 [(0, .ref (ad 0)), (1, .int p0)] := hl
  refine lv_iload_n E.1 E.2.1 dX3_sun_0 rfl (lv_at hl 1 rfl) ?_
  refine lv_iconst (v := 0) E.1 E.2.1 dX3_sun_1 (by decide) ?_
  refine lv_bipush (v := 9) E.1 E.2.1 dX3_sun_2 (by decide) ?_
  refine g_SR (As := [.int p0, .int 0, .int 9]) (rest := []) E hK (c_X3_within l D cI cB p0 0 9) (va_cwS 3 E.2.2.2.2 gX3_sun_X3_within rfl rfl rfl (by decide +kernel) ⟨Nat.le_of_ble_eq_true rfl, Nat.le_of_ble_eq_true rfl⟩) rfl hl.1 rfl (Nat.le_of_ble_eq_true rfl) dX3_sun_4 ⟨Nat.zero_le _, Nat.zero_le _⟩ ?_
  refine lv_if_ne (x := FX3_within p0 0 9) (tgt := 13) E.1 E.2.1 dX3_sun_7 (by decide) (fun h7 => ?_) (fun h7 => ?_)
  · have h7 := h7
    refine lv_aload_n E.1 E.2.1 dX3_sun_13 rfl (lv_at hl 0 rfl) ?_
    refine mg_0_1 E hK hP in_3 w_0 dX3_sun_14 ?_
    refine lv_topi (fun y_1 ey_1 => ?_)
    obtain rfl : y_1 = nI n := ey_1.trans (hn)
    refine lv_if_ne (x := nI n) (tgt := 23) E.1 E.2.1 dX3_sun_17 (by decide) (fun h17 => ?_) (fun h17 => ?_)
    · have h17 := h17
      refine lv_aload_n E.1 E.2.1 dX3_sun_23 rfl (lv_at hl 0 rfl) ?_
      refine mg_0_8 E hK hP in_3 w_1 dX3_sun_24 ?_
      refine lv_istore_n (lv' := [(2, .int (g 8)), (0, .ref (ad 0)), (1, .int p0)]) E.1 E.2.1 dX3_sun_27 rfl hl (by decide) rfl (fun ls hl => ?_)
      refine lv_aload_n E.1 E.2.1 dX3_sun_28 rfl (lv_at hl 1 rfl) ?_
      refine lv_iload_n E.1 E.2.1 dX3_sun_29 rfl (lv_at hl 2 rfl) ?_
      refine mp_0_8 (v := p0) E hK hP in_3 w_1 hI hS dX3_sun_30 (fun H locs hP hS => ?_)
      refine lv_iload_n E.1 E.2.1 dX3_sun_33 rfl (lv_at hl 0 rfl) ?_
      exact W.iret (v := g 8) E.1 E.2.1 hr (fun tt ht _ => ⟨⟨g 8, (upd g 8 p0, t, gl, b, tb), rfl, (by rw [FX3_sun, if_neg h7, if_neg h17]), (show va_P D vwCl (wM cI cB ad (upd g 8 p0) t gl b tb) tt.heap from by rw [ht]; exact hP)⟩, hS.F ht⟩) hS.2.2 dX3_sun_34
    · have h17 := h17
      refine lv_bipush (v := (-103)) E.1 E.2.1 dX3_sun_20 (by decide) ?_
      exact W.iret (v := (-103)) E.1 E.2.1 hr (fun tt ht _ => ⟨⟨(-103), (g, t, gl, b, tb), rfl, (by rw [FX3_sun, if_neg h7, if_pos h17]), (show va_P D vwCl (wM cI cB ad g t gl b tb) tt.heap from by rw [ht]; exact hP)⟩, hS.F ht⟩) hS.2.2 dX3_sun_22
  · have h7 := h7
    refine lv_bipush (v := (-102)) E.1 E.2.1 dX3_sun_10 (by decide) ?_
    exact W.iret (v := (-102)) E.1 E.2.1 hr (fun tt ht _ => ⟨⟨(-102), (g, t, gl, b, tb), rfl, (by rw [FX3_sun, if_pos h7]), (show va_P D vwCl (wM cI cB ad g t gl b tb) tt.heap from by rw [ht]; exact hP)⟩, hS.F ht⟩) hS.2.2 dX3_sun_12
def FX3_bring (g : Nat → Int32) (t : Nat → Int32) (gl : Nat → Int64) (b : Nat → Nat → Int32) (tb : Nat → Nat → Int32) (n : Nat) (z : Nat) (c : Nat) (p0 : Int32) (p1 : Int32) : Int32 × SM := (if FX3_isSite g b tb n z c p0 = 0 then ((-101), g, t, gl, b, tb) else (if FX3_within p1 1 9 = 0 then ((-102), g, t, gl, b, tb) else (if (b 5 p0.toNatClampNeg) + p1 ≤ 99 then ((upd (b 3) p0.toNatClampNeg (FX3_atMost ((b 3 p0.toNatClampNeg) + p1))) p0.toNatClampNeg, upd g 11 ((g 11) + (p1 * (p0 + 1))), t, gl, uA (uA b 5 (upd (b 5) p0.toNatClampNeg ((b 5 p0.toNatClampNeg) + p1))) 3 (upd (b 3) p0.toNatClampNeg (FX3_atMost ((b 3 p0.toNatClampNeg) + p1))), tb) else ((-104), g, t, gl, b, tb))))
set_option maxHeartbeats 4000000 in
set_option maxRecDepth 100000 in
/-- loads -/
theorem c_X3_bring (l : Launch) (D : va_G) (cI cB : ClassId) (ad : Nat → Nat) (g t : Nat → Int32) (gl : Nat → Int64) (b tb : Nat → Nat → Int32) (n z c : Nat) (hM : IM n z c g b) (hI : wI 20 ad) (p0 : Int32) (p1 : Int32) : Met l yX3_bring wsX3_bring ({ frames := 2, cells := 0, slots := 0, locals := 43 }) (GPc D cI cB (wM cI cB ad g t gl b tb) [.ref (ad 0), .int p0, .int p1]) (va_Qi (fun (r : Int32) (u : SM) => (r, u) = FX3_bring g t gl b tb n z c p0 p1) (fun u t => va_P D vwCl (wM cI cB ad u.1 u.2.1 u.2.2.1 u.2.2.2.1 u.2.2.2.2) t.heap) (wA 20 ad)) 0 0 (wA 20 ad) := by
  refine Met.ofW (cc := cX3_bring) (maxL := 3) (ret := (some .int)) (by decide) rfl ?_
  intro p e s m args below meth cd s₁ B hml hv
  obtain ⟨rfl, hP, hK⟩ := hv
  have hts := atoms_spec (ws := wsX3_bring) B.pre
  have E : CallFix p m cd cX3_bring 3 s _ wsX3_bring RX3 := ⟨B.exec, B.bytes, hml, findClass_of_methodNamed B.named, hts⟩
  have hr := B.returns
  have hlocks := B.notSynchronized
  have h2n := pow6 (n := n) (by have := hM.2.1; omega)
  obtain ⟨hn, hn6, hz, hz21, hc, hc6, hfs⟩ := id hM
  have hS : va_S (wA 20 ad) s.heap s.heap [] := va_S.rf
  have in_3 : ∀ w ∈ wsX30, w ∈ wsX3_bring := fun _ h => List.mem_cons_of_mem _ (List.mem_append_right _ h)
  have w_0 : (Cond.fieldLink RX3 22 "SnowTermModel" "broughtTo" "[I").before _ s = true := hts _ (by decide +kernel)
  have w_1 : (Cond.fieldLink RX3 16 "SnowTermModel" "deepOf" "[I").before _ s = true := hts _ (by decide +kernel)
  have w_2 : (Cond.fieldLink RX3 109 "SnowTermModel" "cost" "I").before _ s = true := hts _ (by decide +kernel)
  have hl := lv_entry ([.ref (ad 0), .int p0, .int p1]) (n := 3) (Nat.le_of_ble_eq_true rfl)
  rw [lg_entry_eq]
  generalize (lg_sl ([.ref (ad 0), .int p0, .int p1]) ++ List.replicate (3 - (lg_sl ([.ref (ad 0), .int p0, .int p1])).length) Slot.unset).toArray = ls at hl ⊢
  have hl : lv_has ls 3 [(0, .ref (ad 0)), (1, .int p0), (2, .int p1)] := hl
  refine lv_aload_n E.1 E.2.1 dX3_bring_0 rfl (lv_at hl 0 rfl) ?_
  refine lv_iload_n E.1 E.2.1 dX3_bring_1 rfl (lv_at hl 1 rfl) ?_
  refine g_VR (As := [.int p0]) (rest := []) E hK hP (c_X3_isSite l D cI cB ad g t gl b tb n z c hM p0) (cwV 1 E.2.2.2.2 gX3_bring_X3_isSite rfl rfl rfl (by decide +kernel) ⟨Nat.le_of_ble_eq_true rfl, Nat.le_of_ble_eq_true rfl⟩) (rm0x hK hP) rfl hl.1 rfl (Nat.le_of_ble_eq_true rfl) dX3_bring_2 ⟨Nat.zero_le _, Nat.zero_le _⟩ ?_
  refine lv_if_ne (x := FX3_isSite g b tb n z c p0) (tgt := 11) E.1 E.2.1 dX3_bring_5 (by decide) (fun h5 => ?_) (fun h5 => ?_)
  · have h5 := h5
    refine lv_iload_n E.1 E.2.1 dX3_bring_11 rfl (lv_at hl 2 rfl) ?_
    refine lv_iconst (v := 1) E.1 E.2.1 dX3_bring_12 (by decide) ?_
    refine lv_bipush (v := 9) E.1 E.2.1 dX3_bring_13 (by decide) ?_
    refine g_SR (As := [.int p1, .int 1, .int 9]) (rest := []) E hK (c_X3_within l D cI cB p1 1 9) (va_cwS 3 E.2.2.2.2 gX3_bring_X3_within rfl rfl rfl (by decide +kernel) ⟨Nat.le_of_ble_eq_true rfl, Nat.le_of_ble_eq_true rfl⟩) rfl hl.1 rfl (Nat.le_of_ble_eq_true rfl) dX3_bring_15 ⟨Nat.zero_le _, Nat.zero_le _⟩ ?_
    refine lv_if_ne (x := FX3_within p1 1 9) (tgt := 24) E.1 E.2.1 dX3_bring_18 (by decide) (fun h18 => ?_) (fun h18 => ?_)
    · have h18 := h18
      refine lv_aload_n E.1 E.2.1 dX3_bring_24 rfl (lv_at hl 0 rfl) ?_
      refine mg_0_6 E hK hP in_3 w_0 dX3_bring_25 ?_
      refine lv_iload_n E.1 E.2.1 dX3_bring_28 rfl (lv_at hl 1 rfl) ?_
      refine ml_5 (i := p0) E hK hP (site_M hM h5) dX3_bring_29 ?_
      refine lv_iload_n E.1 E.2.1 dX3_bring_30 rfl (lv_at hl 2 rfl) ?_
      refine lv_iadd (x := b 5 p0.toNatClampNeg) (y := p1) E.1 E.2.1 dX3_bring_31 ?_
      refine lv_bipush (v := 99) E.1 E.2.1 dX3_bring_32 (by decide) ?_
      refine lv_icmp_le (x := (b 5 p0.toNatClampNeg) + p1) (y := 99) (tgt := 40) E.1 E.2.1 dX3_bring_34 (by decide) (fun h34 => ?_) (fun h34 => ?_)
      · have h34 := h34
        refine lv_aload_n E.1 E.2.1 dX3_bring_40 rfl (lv_at hl 0 rfl) ?_
        refine mg_0_6 E hK hP in_3 w_0 dX3_bring_41 ?_
        refine lv_iload_n E.1 E.2.1 dX3_bring_44 rfl (lv_at hl 1 rfl) ?_
        refine lv_dup2_11 E.1 E.2.1 dX3_bring_45 rfl rfl ?_
        refine ml_5 (i := p0) E hK hP (site_M hM h5) dX3_bring_46 ?_
        refine lv_iload_n E.1 E.2.1 dX3_bring_47 rfl (lv_at hl 2 rfl) ?_
        refine lv_iadd (x := b 5 p0.toNatClampNeg) (y := p1) E.1 E.2.1 dX3_bring_48 ?_
        refine ms_5 (v := (b 5 p0.toNatClampNeg) + p1) (i := p0) E hK hP hI hS (site_M hM h5) dX3_bring_49 (fun H locs hP hS => ?_)
        have hP : va_P D vwCl (wM cI cB ad g t gl (uA b 5 (upd (b 5) p0.toNatClampNeg ((b 5 p0.toNatClampNeg) + p1))) tb) H := hP
        refine lv_aload_n E.1 E.2.1 dX3_bring_50 rfl (lv_at hl 0 rfl) ?_
        refine mg_0_4 E hK hP in_3 w_1 dX3_bring_51 ?_
        refine lv_iload_n E.1 E.2.1 dX3_bring_54 rfl (lv_at hl 1 rfl) ?_
        refine lv_aload_n E.1 E.2.1 dX3_bring_55 rfl (lv_at hl 0 rfl) ?_
        refine mg_0_4 E hK hP in_3 w_1 dX3_bring_56 ?_
        refine lv_iload_n E.1 E.2.1 dX3_bring_59 rfl (lv_at hl 1 rfl) ?_
        refine ml_3 (i := p0) E hK hP (site_M hM h5) dX3_bring_60 ?_
        refine lv_topi (fun y_1 ey_1 => ?_)
        obtain rfl : y_1 = b 3 p0.toNatClampNeg := ey_1.trans (rfl)
        refine lv_iload_n E.1 E.2.1 dX3_bring_61 rfl (lv_at hl 2 rfl) ?_
        refine lv_iadd (x := b 3 p0.toNatClampNeg) (y := p1) E.1 E.2.1 dX3_bring_62 ?_
        refine g_SR (As := [.int ((b 3 p0.toNatClampNeg) + p1)]) (rest := [.int p0, .ref (ad 3)]) E hK (c_X3_atMost l D cI cB ((b 3 p0.toNatClampNeg) + p1)) (va_cwS 1 E.2.2.2.2 gX3_bring_X3_atMost rfl rfl rfl (by decide +kernel) ⟨Nat.le_of_ble_eq_true rfl, Nat.le_of_ble_eq_true rfl⟩) rfl hl.1 rfl (Nat.le_of_ble_eq_true rfl) dX3_bring_63 ⟨Nat.zero_le _, Nat.zero_le _⟩ ?_
        refine ms_3 (v := FX3_atMost ((b 3 p0.toNatClampNeg) + p1)) (i := p0) E hK hP hI hS (site_M hM h5) dX3_bring_66 (fun H locs hP hS => ?_)
        have hP : va_P D vwCl (wM cI cB ad g t gl (uA (uA b 5 (upd (b 5) p0.toNatClampNeg ((b 5 p0.toNatClampNeg) + p1))) 3 (upd (b 3) p0.toNatClampNeg (FX3_atMost ((b 3 p0.toNatClampNeg) + p1)))) tb) H := hP
        refine lv_aload_n E.1 E.2.1 dX3_bring_67 rfl (lv_at hl 0 rfl) ?_
        refine lv_dup E.1 E.2.1 dX3_bring_68 rfl ?_
        refine mg_0_11 E hK hP in_3 w_2 dX3_bring_69 ?_
        refine lv_iload_n E.1 E.2.1 dX3_bring_72 rfl (lv_at hl 2 rfl) ?_
        refine lv_iload_n E.1 E.2.1 dX3_bring_73 rfl (lv_at hl 1 rfl) ?_
        refine lv_iconst (v := 1) E.1 E.2.1 dX3_bring_74 (by decide) ?_
        refine lv_iadd (x := p0) (y := 1) E.1 E.2.1 dX3_bring_75 ?_
        refine lv_imul (x := p1) (y := p0 + 1) E.1 E.2.1 dX3_bring_76 ?_
        refine lv_iadd (x := g 11) (y := p1 * (p0 + 1)) E.1 E.2.1 dX3_bring_77 ?_
        refine mp_0_11 (v := (g 11) + (p1 * (p0 + 1))) E hK hP in_3 w_2 hI hS dX3_bring_78 (fun H locs hP hS => ?_)
        refine lv_aload_n E.1 E.2.1 dX3_bring_81 rfl (lv_at hl 0 rfl) ?_
        refine mg_0_4 E hK hP in_3 w_1 dX3_bring_82 ?_
        refine lv_iload_n E.1 E.2.1 dX3_bring_85 rfl (lv_at hl 1 rfl) ?_
        refine ml_3 (i := p0) E hK hP (site_M hM h5) dX3_bring_86 ?_
        refine lv_topi (fun y_2 ey_2 => ?_)
        obtain rfl : y_2 = (upd (b 3) p0.toNatClampNeg (FX3_atMost ((b 3 p0.toNatClampNeg) + p1))) p0.toNatClampNeg := ey_2.trans (rfl)
        exact W.iret (v := (upd (b 3) p0.toNatClampNeg (FX3_atMost ((b 3 p0.toNatClampNeg) + p1))) p0.toNatClampNeg) E.1 E.2.1 hr (fun tt ht _ => ⟨⟨(upd (b 3) p0.toNatClampNeg (FX3_atMost ((b 3 p0.toNatClampNeg) + p1))) p0.toNatClampNeg, (upd g 11 ((g 11) + (p1 * (p0 + 1))), t, gl, uA (uA b 5 (upd (b 5) p0.toNatClampNeg ((b 5 p0.toNatClampNeg) + p1))) 3 (upd (b 3) p0.toNatClampNeg (FX3_atMost ((b 3 p0.toNatClampNeg) + p1))), tb), rfl, (by rw [FX3_bring, if_neg h5, if_neg h18, if_pos h34]), (show va_P D vwCl (wM cI cB ad (upd g 11 ((g 11) + (p1 * (p0 + 1)))) t gl (uA (uA b 5 (upd (b 5) p0.toNatClampNeg ((b 5 p0.toNatClampNeg) + p1))) 3 (upd (b 3) p0.toNatClampNeg (FX3_atMost ((b 3 p0.toNatClampNeg) + p1)))) tb) tt.heap from by rw [ht]; exact hP)⟩, hS.F ht⟩) hS.2.2 dX3_bring_87
      · have h34 := h34
        refine lv_bipush (v := (-104)) E.1 E.2.1 dX3_bring_37 (by decide) ?_
        exact W.iret (v := (-104)) E.1 E.2.1 hr (fun tt ht _ => ⟨⟨(-104), (g, t, gl, b, tb), rfl, (by rw [FX3_bring, if_neg h5, if_neg h18, if_neg h34]), (show va_P D vwCl (wM cI cB ad g t gl b tb) tt.heap from by rw [ht]; exact hP)⟩, hS.F ht⟩) hS.2.2 dX3_bring_39
    · have h18 := h18
      refine lv_bipush (v := (-102)) E.1 E.2.1 dX3_bring_21 (by decide) ?_
      exact W.iret (v := (-102)) E.1 E.2.1 hr (fun tt ht _ => ⟨⟨(-102), (g, t, gl, b, tb), rfl, (by rw [FX3_bring, if_neg h5, if_pos h18]), (show va_P D vwCl (wM cI cB ad g t gl b tb) tt.heap from by rw [ht]; exact hP)⟩, hS.F ht⟩) hS.2.2 dX3_bring_23
  · have h5 := h5
    refine lv_bipush (v := (-101)) E.1 E.2.1 dX3_bring_8 (by decide) ?_
    exact W.iret (v := (-101)) E.1 E.2.1 hr (fun tt ht _ => ⟨⟨(-101), (g, t, gl, b, tb), rfl, (by rw [FX3_bring, if_pos h5]), (show va_P D vwCl (wM cI cB ad g t gl b tb) tt.heap from by rw [ht]; exact hP)⟩, hS.F ht⟩) hS.2.2 dX3_bring_10
def FX3_forget (g : Nat → Int32) (t : Nat → Int32) (gl : Nat → Int64) (b : Nat → Nat → Int32) (tb : Nat → Nat → Int32) (n : Nat) (z : Nat) (c : Nat) : Int32 × SM := (nI c, upd g 12 0, t, gl, b, tb)
set_option maxHeartbeats 4000000 in
set_option maxRecDepth 100000 in
/-- nothing found -/
theorem c_X3_forget (l : Launch) (D : va_G) (cI cB : ClassId) (ad : Nat → Nat) (g t : Nat → Int32) (gl : Nat → Int64) (b tb : Nat → Nat → Int32) (n z c : Nat) (hM : IM n z c g b) (hI : wI 20 ad)  : Met l yX3_forget wsX3_forget ({ frames := 0, cells := 0, slots := 0, locals := 0 }) (GPc D cI cB (wM cI cB ad g t gl b tb) [.ref (ad 0)]) (va_Qi (fun (r : Int32) (u : SM) => (r, u) = FX3_forget g t gl b tb n z c) (fun u t => va_P D vwCl (wM cI cB ad u.1 u.2.1 u.2.2.1 u.2.2.2.1 u.2.2.2.2) t.heap) (wA 20 ad)) 0 0 (wA 20 ad) := by
  refine Met.ofW (cc := cX3_forget) (maxL := 2) (ret := (some .int)) (by decide) rfl ?_
  intro p e s m args below meth cd s₁ B hml hv
  obtain ⟨rfl, hP, hK⟩ := hv
  have hts := atoms_spec (ws := wsX3_forget) B.pre
  have E : CallFix p m cd cX3_forget 2 s _ wsX3_forget RX3 := ⟨B.exec, B.bytes, hml, findClass_of_methodNamed B.named, hts⟩
  have hr := B.returns
  have hlocks := B.notSynchronized
  have h2n := pow6 (n := n) (by have := hM.2.1; omega)
  obtain ⟨hn, hn6, hz, hz21, hc, hc6, hfs⟩ := id hM
  have hS : va_S (wA 20 ad) s.heap s.heap [] := va_S.rf
  have in_3 : ∀ w ∈ wsX30, w ∈ wsX3_forget := fun _ h => List.mem_cons_of_mem _ (List.mem_append_right _ h)
  have w_0 : (Cond.fieldLink RX3 112 "SnowTermModel" "found" "I").before _ s = true := hts _ (by decide +kernel)
  have hl := lv_entry ([.ref (ad 0)]) (n := 2) (Nat.le_of_ble_eq_true rfl)
  rw [lg_entry_eq]
  generalize (lg_sl ([.ref (ad 0)]) ++ List.replicate (2 - (lg_sl ([.ref (ad 0)])).length) Slot.unset).toArray = ls at hl ⊢
  have hl : lv_has ls 2 [(0, .ref (ad 0))] := hl
  refine lv_aload_n E.1 E.2.1 dX3_forget_0 rfl (lv_at hl 0 rfl) ?_
  refine mg_0_12 E hK hP in_3 w_0 dX3_forget_1 ?_
  refine lv_topi (fun y_1 ey_1 => ?_)
  obtain rfl : y_1 = nI c := ey_1.trans (hc)
  refine lv_istore_n (lv' := [(1, .int (nI c)), (0, .ref (ad 0))]) E.1 E.2.1 dX3_forget_4 rfl hl (by decide) rfl (fun ls hl => ?_)
  refine lv_aload_n E.1 E.2.1 dX3_forget_5 rfl (lv_at hl 1 rfl) ?_
  refine lv_iconst (v := 0) E.1 E.2.1 dX3_forget_6 (by decide) ?_
  refine mp_0_12 (v := 0) E hK hP in_3 w_0 hI hS dX3_forget_7 (fun H locs hP hS => ?_)
  refine lv_iload_n E.1 E.2.1 dX3_forget_10 rfl (lv_at hl 0 rfl) ?_
  exact W.iret (v := nI c) E.1 E.2.1 hr (fun tt ht _ => ⟨⟨nI c, (upd g 12 0, t, gl, b, tb), rfl, (by rw [FX3_forget]), (show va_P D vwCl (wM cI cB ad (upd g 12 0) t gl b tb) tt.heap from by rw [ht]; exact hP)⟩, hS.F ht⟩) hS.2.2 dX3_forget_11
def FX3_found (g : Nat → Int32) (t : Nat → Int32) (gl : Nat → Int64) (b : Nat → Nat → Int32) (tb : Nat → Nat → Int32) (n : Nat) (z : Nat) (c : Nat) (p0 : Int32) (p1 : Int32) (p2 : Int32) : Int32 × SM := (if FX3_isSite g b tb n z c p0 = 0 then ((-101), g, t, gl, b, tb) else (if FX3_within p1 0 30 = 0 then ((-102), g, t, gl, b, tb) else (if FX3_within p2 0 30 = 0 then ((-102), g, t, gl, b, tb) else (if nI c = 6 then ((-104), g, t, gl, b, tb) else (nI (c + 1), upd g 12 (nI (c + 1)), t, gl, uA (uA (uA b 7 (upd (b 7) c p0)) 8 (upd (b 8) c p1)) 9 (upd (b 9) c p2), tb)))))
set_option maxHeartbeats 4000000 in
set_option maxRecDepth 100000 in
/-- found -/
theorem c_X3_found (l : Launch) (D : va_G) (cI cB : ClassId) (ad : Nat → Nat) (g t : Nat → Int32) (gl : Nat → Int64) (b tb : Nat → Nat → Int32) (n z c : Nat) (hM : IM n z c g b) (hI : wI 20 ad) (p0 : Int32) (p1 : Int32) (p2 : Int32) : Met l yX3_found wsX3_found ({ frames := 2, cells := 0, slots := 0, locals := 43 }) (GPc D cI cB (wM cI cB ad g t gl b tb) [.ref (ad 0), .int p0, .int p1, .int p2]) (va_Qi (fun (r : Int32) (u : SM) => (r, u) = FX3_found g t gl b tb n z c p0 p1 p2) (fun u t => va_P D vwCl (wM cI cB ad u.1 u.2.1 u.2.2.1 u.2.2.2.1 u.2.2.2.2) t.heap) (wA 20 ad)) 0 0 (wA 20 ad) := by
  refine Met.ofW (cc := cX3_found) (maxL := 4) (ret := (some .int)) (by decide) rfl ?_
  intro p e s m args below meth cd s₁ B hml hv
  obtain ⟨rfl, hP, hK⟩ := hv
  have hts := atoms_spec (ws := wsX3_found) B.pre
  have E : CallFix p m cd cX3_found 4 s _ wsX3_found RX3 := ⟨B.exec, B.bytes, hml, findClass_of_methodNamed B.named, hts⟩
  have hr := B.returns
  have hlocks := B.notSynchronized
  have h2n := pow6 (n := n) (by have := hM.2.1; omega)
  obtain ⟨hn, hn6, hz, hz21, hc, hc6, hfs⟩ := id hM
  have hS : va_S (wA 20 ad) s.heap s.heap [] := va_S.rf
  have in_3 : ∀ w ∈ wsX30, w ∈ wsX3_found := fun _ h => List.mem_cons_of_mem _ (List.mem_append_right _ h)
  have w_0 : (Cond.fieldLink RX3 112 "SnowTermModel" "found" "I").before _ s = true := hts _ (by decide +kernel)
  have w_1 : (Cond.fieldLink RX3 28 "SnowTermModel" "foundSite" "[I").before _ s = true := hts _ (by decide +kernel)
  have w_2 : (Cond.fieldLink RX3 31 "SnowTermModel" "foundDeep" "[I").before _ s = true := hts _ (by decide +kernel)
  have w_3 : (Cond.fieldLink RX3 34 "SnowTermModel" "foundLeft" "[I").before _ s = true := hts _ (by decide +kernel)
  have hl := lv_entry ([.ref (ad 0), .int p0, .int p1, .int p2]) (n := 4) (Nat.le_of_ble_eq_true rfl)
  rw [lg_entry_eq]
  generalize (lg_sl ([.ref (ad 0), .int p0, .int p1, .int p2]) ++ List.replicate (4 - (lg_sl ([.ref (ad 0), .int p0, .int p1, .int p2])).length) Slot.unset).toArray = ls at hl ⊢
  have hl : lv_has ls 4 [(0, .ref (ad 0)), (1, .int p0), (2, .int p1), (3, .int p2)] := hl
  refine lv_aload_n E.1 E.2.1 dX3_found_0 rfl (lv_at hl 0 rfl) ?_
  refine lv_iload_n E.1 E.2.1 dX3_found_1 rfl (lv_at hl 1 rfl) ?_
  refine g_VR (As := [.int p0]) (rest := []) E hK hP (c_X3_isSite l D cI cB ad g t gl b tb n z c hM p0) (cwV 1 E.2.2.2.2 gX3_found_X3_isSite rfl rfl rfl (by decide +kernel) ⟨Nat.le_of_ble_eq_true rfl, Nat.le_of_ble_eq_true rfl⟩) (rm0x hK hP) rfl hl.1 rfl (Nat.le_of_ble_eq_true rfl) dX3_found_2 ⟨Nat.zero_le _, Nat.zero_le _⟩ ?_
  refine lv_if_ne (x := FX3_isSite g b tb n z c p0) (tgt := 11) E.1 E.2.1 dX3_found_5 (by decide) (fun h5 => ?_) (fun h5 => ?_)
  · have h5 := h5
    refine lv_iload_n E.1 E.2.1 dX3_found_11 rfl (lv_at hl 2 rfl) ?_
    refine lv_iconst (v := 0) E.1 E.2.1 dX3_found_12 (by decide) ?_
    refine lv_bipush (v := 30) E.1 E.2.1 dX3_found_13 (by decide) ?_
    refine g_SR (As := [.int p1, .int 0, .int 30]) (rest := []) E hK (c_X3_within l D cI cB p1 0 30) (va_cwS 3 E.2.2.2.2 gX3_found_X3_within rfl rfl rfl (by decide +kernel) ⟨Nat.le_of_ble_eq_true rfl, Nat.le_of_ble_eq_true rfl⟩) rfl hl.1 rfl (Nat.le_of_ble_eq_true rfl) dX3_found_15 ⟨Nat.zero_le _, Nat.zero_le _⟩ ?_
    refine lv_if_eq (x := FX3_within p1 0 30) (tgt := 31) E.1 E.2.1 dX3_found_18 (by decide) (fun h18 => ?_) (fun h18 => ?_)
    · have h18 := h18
      refine lv_bipush (v := (-102)) E.1 E.2.1 dX3_found_31 (by decide) ?_
      exact W.iret (v := (-102)) E.1 E.2.1 hr (fun tt ht _ => ⟨⟨(-102), (g, t, gl, b, tb), rfl, (by rw [FX3_found, if_neg h5, if_pos h18]), (show va_P D vwCl (wM cI cB ad g t gl b tb) tt.heap from by rw [ht]; exact hP)⟩, hS.F ht⟩) hS.2.2 dX3_found_33
    · have h18 := h18
      refine lv_iload_n E.1 E.2.1 dX3_found_21 rfl (lv_at hl 3 rfl) ?_
      refine lv_iconst (v := 0) E.1 E.2.1 dX3_found_22 (by decide) ?_
      refine lv_bipush (v := 30) E.1 E.2.1 dX3_found_23 (by decide) ?_
      refine g_SR (As := [.int p2, .int 0, .int 30]) (rest := []) E hK (c_X3_within l D cI cB p2 0 30) (va_cwS 3 E.2.2.2.2 gX3_found_X3_within rfl rfl rfl (by decide +kernel) ⟨Nat.le_of_ble_eq_true rfl, Nat.le_of_ble_eq_true rfl⟩) rfl hl.1 rfl (Nat.le_of_ble_eq_true rfl) dX3_found_25 ⟨Nat.zero_le _, Nat.zero_le _⟩ ?_
      refine lv_if_ne (x := FX3_within p2 0 30) (tgt := 34) E.1 E.2.1 dX3_found_28 (by decide) (fun h28 => ?_) (fun h28 => ?_)
      · have h28 := h28
        refine lv_aload_n E.1 E.2.1 dX3_found_34 rfl (lv_at hl 0 rfl) ?_
        refine mg_0_12 E hK hP in_3 w_0 dX3_found_35 ?_
        refine lv_topi (fun y_1 ey_1 => ?_)
        obtain rfl : y_1 = nI c := ey_1.trans (hc)
        refine lv_bipush (v := 6) E.1 E.2.1 dX3_found_38 (by decide) ?_
        refine lv_icmp_ne (x := nI c) (y := 6) (tgt := 46) E.1 E.2.1 dX3_found_40 (by decide) (fun h40 => ?_) (fun h40 => ?_)
        · have h40 := h40
          refine lv_aload_n E.1 E.2.1 dX3_found_46 rfl (lv_at hl 0 rfl) ?_
          refine mg_0_13 E hK hP in_3 w_1 dX3_found_47 ?_
          refine lv_aload_n E.1 E.2.1 dX3_found_50 rfl (lv_at hl 0 rfl) ?_
          refine mg_0_12 E hK hP in_3 w_0 dX3_found_51 ?_
          refine lv_topi (fun y_2 ey_2 => ?_)
          obtain rfl : y_2 = nI c := ey_2.trans (hc)
          refine lv_iload_n E.1 E.2.1 dX3_found_54 rfl (lv_at hl 1 rfl) ?_
          refine ms_7 (v := p0) (i := nI c) E hK hP hI hS (vp_in_nI (c_lt6 h40 hc6) (by omega)) dX3_found_55 (fun H locs hP hS => ?_)
          rw [nI_clamp (show c < 2 ^ 31 by omega)] at hP
          have hP : va_P D vwCl (wM cI cB ad g t gl (uA b 7 (upd (b 7) c p0)) tb) H := hP
          refine lv_aload_n E.1 E.2.1 dX3_found_56 rfl (lv_at hl 0 rfl) ?_
          refine mg_0_14 E hK hP in_3 w_2 dX3_found_57 ?_
          refine lv_aload_n E.1 E.2.1 dX3_found_60 rfl (lv_at hl 0 rfl) ?_
          refine mg_0_12 E hK hP in_3 w_0 dX3_found_61 ?_
          refine lv_topi (fun y_3 ey_3 => ?_)
          obtain rfl : y_3 = nI c := ey_3.trans (hc)
          refine lv_iload_n E.1 E.2.1 dX3_found_64 rfl (lv_at hl 2 rfl) ?_
          refine ms_8 (v := p1) (i := nI c) E hK hP hI hS (vp_in_nI (c_lt6 h40 hc6) (by omega)) dX3_found_65 (fun H locs hP hS => ?_)
          rw [nI_clamp (show c < 2 ^ 31 by omega)] at hP
          have hP : va_P D vwCl (wM cI cB ad g t gl (uA (uA b 7 (upd (b 7) c p0)) 8 (upd (b 8) c p1)) tb) H := hP
          refine lv_aload_n E.1 E.2.1 dX3_found_66 rfl (lv_at hl 0 rfl) ?_
          refine mg_0_15 E hK hP in_3 w_3 dX3_found_67 ?_
          refine lv_aload_n E.1 E.2.1 dX3_found_70 rfl (lv_at hl 0 rfl) ?_
          refine mg_0_12 E hK hP in_3 w_0 dX3_found_71 ?_
          refine lv_topi (fun y_4 ey_4 => ?_)
          obtain rfl : y_4 = nI c := ey_4.trans (hc)
          refine lv_iload_n E.1 E.2.1 dX3_found_74 rfl (lv_at hl 3 rfl) ?_
          refine ms_9 (v := p2) (i := nI c) E hK hP hI hS (vp_in_nI (c_lt6 h40 hc6) (by omega)) dX3_found_75 (fun H locs hP hS => ?_)
          rw [nI_clamp (show c < 2 ^ 31 by omega)] at hP
          have hP : va_P D vwCl (wM cI cB ad g t gl (uA (uA (uA b 7 (upd (b 7) c p0)) 8 (upd (b 8) c p1)) 9 (upd (b 9) c p2)) tb) H := hP
          refine lv_aload_n E.1 E.2.1 dX3_found_76 rfl (lv_at hl 0 rfl) ?_
          refine lv_dup E.1 E.2.1 dX3_found_77 rfl ?_
          refine mg_0_12 E hK hP in_3 w_0 dX3_found_78 ?_
          refine lv_topi (fun y_5 ey_5 => ?_)
          obtain rfl : y_5 = nI c := ey_5.trans (hc)
          refine lv_iconst (v := 1) E.1 E.2.1 dX3_found_81 (by decide) ?_
          refine lv_iadd (x := nI c) (y := 1) E.1 E.2.1 dX3_found_82 ?_
          refine lv_topi (fun y_6 ey_6 => ?_)
          obtain rfl : y_6 = nI (c + 1) := ey_6.trans (nI_1 c)
          refine mp_0_12 (v := nI (c + 1)) E hK hP in_3 w_0 hI hS dX3_found_83 (fun H locs hP hS => ?_)
          refine lv_aload_n E.1 E.2.1 dX3_found_86 rfl (lv_at hl 0 rfl) ?_
          refine mg_0_12 E hK hP in_3 w_0 dX3_found_87 ?_
          refine lv_topi (fun y_7 ey_7 => ?_)
          obtain rfl : y_7 = nI (c + 1) := ey_7.trans (rfl)
          exact W.iret (v := nI (c + 1)) E.1 E.2.1 hr (fun tt ht _ => ⟨⟨nI (c + 1), (upd g 12 (nI (c + 1)), t, gl, uA (uA (uA b 7 (upd (b 7) c p0)) 8 (upd (b 8) c p1)) 9 (upd (b 9) c p2), tb), rfl, (by rw [FX3_found, if_neg h5, if_neg h18, if_neg h28, if_neg h40]), (show va_P D vwCl (wM cI cB ad (upd g 12 (nI (c + 1))) t gl (uA (uA (uA b 7 (upd (b 7) c p0)) 8 (upd (b 8) c p1)) 9 (upd (b 9) c p2)) tb) tt.heap from by rw [ht]; exact hP)⟩, hS.F ht⟩) hS.2.2 dX3_found_90
        · have h40 := h40
          refine lv_bipush (v := (-104)) E.1 E.2.1 dX3_found_43 (by decide) ?_
          exact W.iret (v := (-104)) E.1 E.2.1 hr (fun tt ht _ => ⟨⟨(-104), (g, t, gl, b, tb), rfl, (by rw [FX3_found, if_neg h5, if_neg h18, if_neg h28, if_pos h40]), (show va_P D vwCl (wM cI cB ad g t gl b tb) tt.heap from by rw [ht]; exact hP)⟩, hS.F ht⟩) hS.2.2 dX3_found_45
      · have h28 := h28
        refine lv_bipush (v := (-102)) E.1 E.2.1 dX3_found_31 (by decide) ?_
        exact W.iret (v := (-102)) E.1 E.2.1 hr (fun tt ht _ => ⟨⟨(-102), (g, t, gl, b, tb), rfl, (by rw [FX3_found, if_neg h5, if_neg h18, if_pos h28]), (show va_P D vwCl (wM cI cB ad g t gl b tb) tt.heap from by rw [ht]; exact hP)⟩, hS.F ht⟩) hS.2.2 dX3_found_33
  · have h5 := h5
    refine lv_bipush (v := (-101)) E.1 E.2.1 dX3_found_8 (by decide) ?_
    exact W.iret (v := (-101)) E.1 E.2.1 hr (fun tt ht _ => ⟨⟨(-101), (g, t, gl, b, tb), rfl, (by rw [FX3_found, if_pos h5]), (show va_P D vwCl (wM cI cB ad g t gl b tb) tt.heap from by rw [ht]; exact hP)⟩, hS.F ht⟩) hS.2.2 dX3_found_10
def FX3_melt_L2 (g : Nat → Int32) (t : Nat → Int32) (gl : Nat → Int64) (tb : Nat → Nat → Int32) (n : Nat) (z : Nat) (c : Nat) (p0 : Int32) : Nat → Nat → (Nat → Nat → Int32) → SM
  | 0, k_2, b1 => (g, t, gl, b1, tb)
  | d_1 + 1, k_2, b1 => FX3_melt_L2 g t gl tb n z c p0 d_1 (k_2 + 1) (uA b1 3 (upd (b1 3) k_2 (FX3_notBelow ((b1 3 k_2) - (FX3_meltsBy g b1 tb n z c (nI k_2) p0)))))
def FX3_melt (g : Nat → Int32) (t : Nat → Int32) (gl : Nat → Int64) (b : Nat → Nat → Int32) (tb : Nat → Nat → Int32) (n : Nat) (z : Nat) (c : Nat) (p0 : Int32) : SM := FX3_melt_L2 g t gl tb n z c p0 n 0 b
set_option maxHeartbeats 4000000 in
set_option maxRecDepth 100000 in
/-- snow melts -/
theorem c_X3_melt (l : Launch) (D : va_G) (cI cB : ClassId) (ad : Nat → Nat) (g t : Nat → Int32) (gl : Nat → Int64) (b tb : Nat → Nat → Int32) (n z c : Nat) (hM : IM n z c g b) (hI : wI 20 ad) (p0 : Int32) : Met l yX3_melt wsX3_melt ({ frames := 2, cells := 0, slots := 0, locals := 43 }) (GPc D cI cB (wM cI cB ad g t gl b tb) [.ref (ad 0), .int p0]) (va_Qv (fun u : SM => u = FX3_melt g t gl b tb n z c p0) (fun u t => va_P D vwCl (wM cI cB ad u.1 u.2.1 u.2.2.1 u.2.2.2.1 u.2.2.2.2) t.heap) (wA 20 ad)) 0 0 (wA 20 ad) := by
  refine Met.ofW (cc := cX3_melt) (maxL := 3) (ret := none) (by decide) rfl ?_
  intro p e s m args below meth cd s₁ B hml hv
  obtain ⟨rfl, hP, hK⟩ := hv
  have hts := atoms_spec (ws := wsX3_melt) B.pre
  have E : CallFix p m cd cX3_melt 3 s _ wsX3_melt RX3 := ⟨B.exec, B.bytes, hml, findClass_of_methodNamed B.named, hts⟩
  have hr := B.returns
  have hlocks := B.notSynchronized
  have h2n := pow6 (n := n) (by have := hM.2.1; omega)
  obtain ⟨hn, hn6, hz, hz21, hc, hc6, hfs⟩ := id hM
  have hS : va_S (wA 20 ad) s.heap s.heap [] := va_S.rf
  have in_3 : ∀ w ∈ wsX30, w ∈ wsX3_melt := fun _ h => List.mem_cons_of_mem _ (List.mem_append_right _ h)
  have w_0 : (Cond.fieldLink RX3 94 "SnowTermModel" "sites" "I").before _ s = true := hts _ (by decide +kernel)
  have w_1 : (Cond.fieldLink RX3 16 "SnowTermModel" "deepOf" "[I").before _ s = true := hts _ (by decide +kernel)
  have hl := lv_entry ([.ref (ad 0), .int p0]) (n := 3) (Nat.le_of_ble_eq_true rfl)
  rw [lg_entry_eq]
  generalize (lg_sl ([.ref (ad 0), .int p0]) ++ List.replicate (3 - (lg_sl ([.ref (ad 0), .int p0])).length) Slot.unset).toArray = ls at hl ⊢
  have hl : lv_has ls 3 [(0, .ref (ad 0)), (1, .int p0)] := hl
  refine lv_iconst (v := 0) E.1 E.2.1 dX3_melt_0 (by decide) ?_
  refine lv_istore_n (lv' := [(2, .int 0), (0, .ref (ad 0)), (1, .int p0)]) E.1 E.2.1 dX3_melt_1 rfl hl (by decide) rfl (fun ls hl => ?_)
  have loop1 : ∀ (d_1 k_2 : Nat) (b1 : Nat → Nat → Int32) (H : Heap) (locs : List Loc) (ls : Array Slot), k_2 + d_1 = n → IM n z c g b1 → va_P D vwCl (wM cI cB ad g t gl b1 tb) H → va_S (wA 20 ad) s.heap H locs → lv_has ls 3 [(2, .int (nI k_2)), (0, .ref (ad 0)), (1, .int p0)] → W p l e (headSpec wsX3_melt { frames := 2, cells := 0, slots := 0, locals := 43 }).room s m ([.ref (ad 0), .int p0] : List Value).toArray below meth cd H locs 0 0 (MQ below (va_Qv (fun u : SM => u = FX3_melt_L2 g t gl tb n z c p0 d_1 k_2 b1) (fun u t => va_P D vwCl (wM cI cB ad u.1 u.2.1 u.2.2.1 u.2.2.2.1 u.2.2.2.2) t.heap) (wA 20 ad)) ([.ref (ad 0), .int p0] : List Value).toArray s 0 0 (wA 20 ad)) (F0 m 2 ls []) := by
    intro d_1
    induction d_1 with
    | zero =>
      intro k_2 b1 H locs ls hk1 hinv hP hS hl
      refine lv_iload_n E.1 E.2.1 dX3_melt_2 rfl (lv_at hl 0 rfl) ?_
      refine lv_aload_n E.1 E.2.1 dX3_melt_3 rfl (lv_at hl 1 rfl) ?_
      refine mg_0_1 E hK hP in_3 w_0 dX3_melt_4 ?_
      refine lv_topi (fun y_3 ey_3 => ?_)
      obtain rfl : y_3 = nI n := ey_3.trans (hn)
      refine lv_icmp_ge (x := nI k_2) (y := nI n) (tgt := 38) E.1 E.2.1 dX3_melt_7 (by decide) (fun _ => ?_) (fun h9 => absurd (nI_le (a := n) (b := k_2) (by omega) (by omega)) h9)
      exact W.vret E.1 E.2.1 hr (fun tt ht _ => ⟨⟨(g, t, gl, b1, tb), rfl, (by rw [FX3_melt_L2]), (show va_P D vwCl (wM cI cB ad g t gl b1 tb) tt.heap from by rw [ht]; exact hP)⟩, hS.F ht⟩) hS.2.2 dX3_melt_38
    | succ d_1 ih1 =>
      intro k_2 b1 H locs ls hk1 hinv hP hS hl
      refine lv_iload_n E.1 E.2.1 dX3_melt_2 rfl (lv_at hl 0 rfl) ?_
      refine lv_aload_n E.1 E.2.1 dX3_melt_3 rfl (lv_at hl 1 rfl) ?_
      refine mg_0_1 E hK hP in_3 w_0 dX3_melt_4 ?_
      refine lv_topi (fun y_4 ey_4 => ?_)
      obtain rfl : y_4 = nI n := ey_4.trans (hn)
      refine lv_icmp_ge (x := nI k_2) (y := nI n) (tgt := 38) E.1 E.2.1 dX3_melt_7 (by decide) (fun h9 => absurd h9 (nI_ge (a := k_2) (b := n) (by omega) (by omega))) (fun _ => ?_)
      refine lv_aload_n E.1 E.2.1 dX3_melt_10 rfl (lv_at hl 1 rfl) ?_
      refine mg_0_4 E hK hP in_3 w_1 dX3_melt_11 ?_
      refine lv_iload_n E.1 E.2.1 dX3_melt_14 rfl (lv_at hl 0 rfl) ?_
      refine lv_aload_n E.1 E.2.1 dX3_melt_15 rfl (lv_at hl 1 rfl) ?_
      refine mg_0_4 E hK hP in_3 w_1 dX3_melt_16 ?_
      refine lv_iload_n E.1 E.2.1 dX3_melt_19 rfl (lv_at hl 0 rfl) ?_
      refine ml_3 (i := nI k_2) E hK hP (vp_in_nI (by omega) (by omega)) dX3_melt_20 ?_
      refine lv_topi (fun y_5 ey_5 => ?_)
      obtain rfl : y_5 = b1 3 k_2 := ey_5.trans (by rw [nI_clamp (show k_2 < 2 ^ 31 by omega)] <;> rfl)
      refine lv_aload_n E.1 E.2.1 dX3_melt_21 rfl (lv_at hl 1 rfl) ?_
      refine lv_iload_n E.1 E.2.1 dX3_melt_22 rfl (lv_at hl 0 rfl) ?_
      refine lv_iload_n E.1 E.2.1 dX3_melt_23 rfl (lv_at hl 2 rfl) ?_
      refine g_VR (As := [.int (nI k_2), .int p0]) (rest := [.int (b1 3 k_2), .int (nI k_2), .ref (ad 3)]) E hK hP (c_X3_meltsBy l D cI cB ad g t gl b1 tb n z c hinv (nI k_2) p0 (vp_in_nI (by omega) (by omega))) (cwV 2 E.2.2.2.2 gX3_melt_X3_meltsBy rfl rfl rfl (by decide +kernel) ⟨Nat.le_of_ble_eq_true rfl, Nat.le_of_ble_eq_true rfl⟩) (rm0x hK hP) rfl hl.1 rfl (Nat.le_of_ble_eq_true rfl) dX3_melt_24 ⟨Nat.zero_le _, Nat.zero_le _⟩ ?_
      refine lv_isub (x := b1 3 k_2) (y := FX3_meltsBy g b1 tb n z c (nI k_2) p0) E.1 E.2.1 dX3_melt_27 ?_
      refine g_SR (As := [.int ((b1 3 k_2) - (FX3_meltsBy g b1 tb n z c (nI k_2) p0))]) (rest := [.int (nI k_2), .ref (ad 3)]) E hK (c_X3_notBelow l D cI cB ((b1 3 k_2) - (FX3_meltsBy g b1 tb n z c (nI k_2) p0))) (va_cwS 1 E.2.2.2.2 gX3_melt_X3_notBelow rfl rfl rfl (by decide +kernel) ⟨Nat.le_of_ble_eq_true rfl, Nat.le_of_ble_eq_true rfl⟩) rfl hl.1 rfl (Nat.le_of_ble_eq_true rfl) dX3_melt_28 ⟨Nat.zero_le _, Nat.zero_le _⟩ ?_
      refine ms_3 (v := FX3_notBelow ((b1 3 k_2) - (FX3_meltsBy g b1 tb n z c (nI k_2) p0))) (i := nI k_2) E hK hP hI hS (vp_in_nI (by omega) (by omega)) dX3_melt_31 (fun H locs hP hS => ?_)
      rw [nI_clamp (show k_2 < 2 ^ 31 by omega)] at hP
      have hP : va_P D vwCl (wM cI cB ad g t gl (uA b1 3 (upd (b1 3) k_2 (FX3_notBelow ((b1 3 k_2) - (FX3_meltsBy g b1 tb n z c (nI k_2) p0))))) tb) H := hP
      refine lv_iinc (v := nI (k_2 + 1)) (k := 0) (lv' := [(2, .int (nI (k_2 + 1))), (0, .ref (ad 0)), (1, .int p0)]) E.1 E.2.1 dX3_melt_32 hl rfl (nI_1 k_2) (by decide) rfl (fun ls hl => ?_)
      refine lv_goto (tgt := 2) E.1 E.2.1 dX3_melt_35 (by decide) ?_
      rw [show FX3_melt_L2 g t gl tb n z c p0 (d_1 + 1) k_2 b1 = FX3_melt_L2 g t gl tb n z c p0 d_1 (k_2 + 1) (uA b1 3 (upd (b1 3) k_2 (FX3_notBelow ((b1 3 k_2) - (FX3_meltsBy g b1 tb n z c (nI k_2) p0))))) from by rw [FX3_melt_L2]]
      exact ih1 (k_2 + 1) (uA b1 3 (upd (b1 3) k_2 (FX3_notBelow ((b1 3 k_2) - (FX3_meltsBy g b1 tb n z c (nI k_2) p0))))) _ _ ls (by omega) ((IM_a hinv (by decide))) hP hS (lv_sub hl [0, 1, 2] rfl)
  rw [show FX3_melt g t gl b tb n z c p0 = FX3_melt_L2 g t gl tb n z c p0 n 0 b from by rw [FX3_melt]]
  have hl : lv_has ls 3 [(2, .int (nI 0)), (0, .ref (ad 0)), (1, .int p0)] := lv_sub hl [0, 1, 2] rfl
  exact loop1 _ _ b _ _ ls (by omega) (hM) hP hS (lv_sub hl [0, 1, 2] rfl)
theorem kp_meltM_L (g t : Nat → Int32) (gl : Nat → Int64) (tb : Nat → Nat → Int32) (n z c : Nat) (p0 : Int32) : ∀ (d k : Nat) (b : Nat → Nat → Int32), (FX3_melt_L2 g t gl tb n z c p0 d k b).1 = g ∧ (FX3_melt_L2 g t gl tb n z c p0 d k b).2.1 = t ∧ (FX3_melt_L2 g t gl tb n z c p0 d k b).2.2.1 = gl ∧ (FX3_melt_L2 g t gl tb n z c p0 d k b).2.2.2.2 = tb ∧ (FX3_melt_L2 g t gl tb n z c p0 d k b).2.2.2.1 7 = b 7 := by
  intro d
  induction d with
  | zero => intro k b; exact ⟨rfl, rfl, rfl, rfl, rfl⟩
  | succ d ih => intro k b; rw [FX3_melt_L2]; exact ih _ _
theorem kp_meltM_g (g t : Nat → Int32) (gl : Nat → Int64) (b tb : Nat → Nat → Int32) (n z c : Nat) (p0 : Int32) : (FX3_melt g t gl b tb n z c p0).1 = g := (kp_meltM_L g t gl tb n z c p0 n 0 b).1
theorem kp_meltM_t (g t : Nat → Int32) (gl : Nat → Int64) (b tb : Nat → Nat → Int32) (n z c : Nat) (p0 : Int32) : (FX3_melt g t gl b tb n z c p0).2.1 = t := (kp_meltM_L g t gl tb n z c p0 n 0 b).2.1
theorem kp_meltM_gl (g t : Nat → Int32) (gl : Nat → Int64) (b tb : Nat → Nat → Int32) (n z c : Nat) (p0 : Int32) : (FX3_melt g t gl b tb n z c p0).2.2.1 = gl := (kp_meltM_L g t gl tb n z c p0 n 0 b).2.2.1
theorem kp_meltM_tb (g t : Nat → Int32) (gl : Nat → Int64) (b tb : Nat → Nat → Int32) (n z c : Nat) (p0 : Int32) : (FX3_melt g t gl b tb n z c p0).2.2.2.2 = tb := (kp_meltM_L g t gl tb n z c p0 n 0 b).2.2.2.1
theorem melt_IM {g g0 t : Nat → Int32} {gl : Nat → Int64} {b tb : Nat → Nat → Int32} {n z c : Nat} {p0 : Int32} (h : IM n z c g0 b) : IM n z c g0 ((FX3_melt g t gl b tb n z c p0).2.2.2.1) := by
  obtain ⟨h1, h2, h3, h4, h5, h6, h7⟩ := h
  refine ⟨h1, h2, h3, h4, h5, h6, ?_⟩
  rw [show (FX3_melt g t gl b tb n z c p0).2.2.2.1 7 = b 7 from (kp_meltM_L g t gl tb n z c p0 n 0 b).2.2.2.2]
  exact h7

def FX3_day_L20 (g : Nat → Int32) (t : Nat → Int32) (gl : Nat → Int64) (tb : Nat → Nat → Int32) (n : Nat) (z : Nat) (c : Nat) : Nat → Nat → (Nat → Nat → Int32) → Int32 × SM
  | 0, k_7, b6 => (FX3_keptNow (upd (upd g 9 ((g 9) + 1)) 10 ((g 10) + (FX3_keptNow (upd g 9 ((g 9) + 1)) b6 tb n z c))) b6 tb n z c, upd (upd g 9 ((g 9) + 1)) 10 ((g 10) + (FX3_keptNow (upd g 9 ((g 9) + 1)) b6 tb n z c)), t, gl, b6, tb)
  | d_6 + 1, k_7, b6 => FX3_day_L20 g t gl tb n z c d_6 (k_7 + 1) (uA (uA b6 4 (upd (b6 4) k_7 (b6 3 k_7))) 5 (upd (b6 5) k_7 0))
def FX3_day (g : Nat → Int32) (t : Nat → Int32) (gl : Nat → Int64) (b : Nat → Nat → Int32) (tb : Nat → Nat → Int32) (n : Nat) (z : Nat) (c : Nat) : Int32 × SM := (if nI n = 0 then ((-103), g, t, gl, b, tb) else FX3_day_L20 g t gl tb n z c n 0 ((FX3_melt g t gl b tb n z c (g 8)).2.2.2.1))
set_option maxHeartbeats 4000000 in
set_option maxRecDepth 100000 in
/-- a day -/
theorem c_X3_day (l : Launch) (D : va_G) (cI cB : ClassId) (ad : Nat → Nat) (g t : Nat → Int32) (gl : Nat → Int64) (b tb : Nat → Nat → Int32) (n z c : Nat) (hM : IM n z c g b) (hI : wI 20 ad)  : Met l yX3_day wsX3_day ({ frames := 3, cells := 0, slots := 0, locals := 65 }) (GPc D cI cB (wM cI cB ad g t gl b tb) [.ref (ad 0)]) (va_Qi (fun (r : Int32) (u : SM) => (r, u) = FX3_day g t gl b tb n z c) (fun u t => va_P D vwCl (wM cI cB ad u.1 u.2.1 u.2.2.1 u.2.2.2.1 u.2.2.2.2) t.heap) (wA 20 ad)) 0 0 (wA 20 ad) := by
  refine Met.ofW (cc := cX3_day) (maxL := 2) (ret := (some .int)) (by decide) rfl ?_
  intro p e s m args below meth cd s₁ B hml hv
  obtain ⟨rfl, hP, hK⟩ := hv
  have hts := atoms_spec (ws := wsX3_day) B.pre
  have E : CallFix p m cd cX3_day 2 s _ wsX3_day RX3 := ⟨B.exec, B.bytes, hml, findClass_of_methodNamed B.named, hts⟩
  have hr := B.returns
  have hlocks := B.notSynchronized
  have h2n := pow6 (n := n) (by have := hM.2.1; omega)
  obtain ⟨hn, hn6, hz, hz21, hc, hc6, hfs⟩ := id hM
  have hS : va_S (wA 20 ad) s.heap s.heap [] := va_S.rf
  have in_3 : ∀ w ∈ wsX30, w ∈ wsX3_day := fun _ h => List.mem_cons_of_mem _ (List.mem_append_right _ h)
  have w_0 : (Cond.fieldLink RX3 94 "SnowTermModel" "sites" "I").before _ s = true := hts _ (by decide +kernel)
  have w_1 : (Cond.fieldLink RX3 97 "SnowTermModel" "sunNow" "I").before _ s = true := hts _ (by decide +kernel)
  have w_2 : (Cond.fieldLink RX3 103 "SnowTermModel" "days" "I").before _ s = true := hts _ (by decide +kernel)
  have w_3 : (Cond.fieldLink RX3 106 "SnowTermModel" "praise" "I").before _ s = true := hts _ (by decide +kernel)
  have w_4 : (Cond.fieldLink RX3 19 "SnowTermModel" "startOf" "[I").before _ s = true := hts _ (by decide +kernel)
  have w_5 : (Cond.fieldLink RX3 16 "SnowTermModel" "deepOf" "[I").before _ s = true := hts _ (by decide +kernel)
  have w_6 : (Cond.fieldLink RX3 22 "SnowTermModel" "broughtTo" "[I").before _ s = true := hts _ (by decide +kernel)
  have hl := lv_entry ([.ref (ad 0)]) (n := 2) (Nat.le_of_ble_eq_true rfl)
  rw [lg_entry_eq]
  generalize (lg_sl ([.ref (ad 0)]) ++ List.replicate (2 - (lg_sl ([.ref (ad 0)])).length) Slot.unset).toArray = ls at hl ⊢
  have hl : lv_has ls 2 [(0, .ref (ad 0))] := hl
  refine lv_aload_n E.1 E.2.1 dX3_day_0 rfl (lv_at hl 0 rfl) ?_
  refine mg_0_1 E hK hP in_3 w_0 dX3_day_1 ?_
  refine lv_topi (fun y_1 ey_1 => ?_)
  obtain rfl : y_1 = nI n := ey_1.trans (hn)
  refine lv_if_ne (x := nI n) (tgt := 10) E.1 E.2.1 dX3_day_4 (by decide) (fun h4 => ?_) (fun h4 => ?_)
  · have h4 := h4
    refine lv_aload_n E.1 E.2.1 dX3_day_10 rfl (lv_at hl 0 rfl) ?_
    refine lv_aload_n E.1 E.2.1 dX3_day_11 rfl (lv_at hl 0 rfl) ?_
    refine mg_0_8 E hK hP in_3 w_1 dX3_day_12 ?_
    refine g_VWv (As := [.int (g 8)]) (rest := []) E hK hP hS (fun q h => h) (c_X3_melt l D cI cB ad g t gl b tb n z c hM hI (g 8)) (cwV 1 E.2.2.2.2 gX3_day_X3_melt rfl rfl rfl (by decide +kernel) ⟨Nat.le_of_ble_eq_true rfl, Nat.le_of_ble_eq_true rfl⟩) (rm0x hK hP) rfl hl.1 rfl (Nat.le_of_ble_eq_true rfl) dX3_day_15 ⟨Nat.zero_le _, Nat.zero_le _⟩ (fun u_2 H1 locs hp_4 hP1 hq_5 hS => ?_)
    obtain rfl : u_2 = FX3_melt g t gl b tb n z c (g 8) := hp_4
    have hP : va_P D vwCl (wM cI cB ad ((FX3_melt g t gl b tb n z c (g 8)).1) ((FX3_melt g t gl b tb n z c (g 8)).2.1) ((FX3_melt g t gl b tb n z c (g 8)).2.2.1) ((FX3_melt g t gl b tb n z c (g 8)).2.2.2.1) ((FX3_melt g t gl b tb n z c (g 8)).2.2.2.2)) H1 := hP1
    clear hP1
    generalize H1 = H at hP hS ⊢
    rw [show (FX3_melt g t gl b tb n z c (g 8)).1 = g from kp_meltM_g ..] at hP
    rw [show (FX3_melt g t gl b tb n z c (g 8)).2.1 = t from kp_meltM_t ..] at hP
    rw [show (FX3_melt g t gl b tb n z c (g 8)).2.2.1 = gl from kp_meltM_gl ..] at hP
    rw [show (FX3_melt g t gl b tb n z c (g 8)).2.2.2.2 = tb from kp_meltM_tb ..] at hP
    have hP : va_P D vwCl (wM cI cB ad g t gl ((FX3_melt g t gl b tb n z c (g 8)).2.2.2.1) tb) H := hP
    refine lv_iconst (v := 0) E.1 E.2.1 dX3_day_18 (by decide) ?_
    refine lv_istore_n (lv' := [(1, .int 0), (0, .ref (ad 0))]) E.1 E.2.1 dX3_day_19 rfl hl (by decide) rfl (fun ls hl => ?_)
    have loop6 : ∀ (d_6 k_7 : Nat) (b6 : Nat → Nat → Int32) (H : Heap) (locs : List Loc) (ls : Array Slot), k_7 + d_6 = n → IM n z c g b6 → va_P D vwCl (wM cI cB ad g t gl b6 tb) H → va_S (wA 20 ad) s.heap H locs → lv_has ls 2 [(1, .int (nI k_7)), (0, .ref (ad 0))] → W p l e (headSpec wsX3_day { frames := 3, cells := 0, slots := 0, locals := 65 }).room s m ([.ref (ad 0)] : List Value).toArray below meth cd H locs 0 0 (MQ below (va_Qi (fun (r : Int32) (u : SM) => (r, u) = FX3_day_L20 g t gl tb n z c d_6 k_7 b6) (fun u t => va_P D vwCl (wM cI cB ad u.1 u.2.1 u.2.2.1 u.2.2.2.1 u.2.2.2.2) t.heap) (wA 20 ad)) ([.ref (ad 0)] : List Value).toArray s 0 0 (wA 20 ad)) (F0 m 20 ls []) := by
      intro d_6
      induction d_6 with
      | zero =>
        intro k_7 b6 H locs ls hk6 hinv hP hS hl
        refine lv_iload_n E.1 E.2.1 dX3_day_20 rfl (lv_at hl 0 rfl) ?_
        refine lv_aload_n E.1 E.2.1 dX3_day_21 rfl (lv_at hl 1 rfl) ?_
        refine mg_0_1 E hK hP in_3 w_0 dX3_day_22 ?_
        refine lv_topi (fun y_8 ey_8 => ?_)
        obtain rfl : y_8 = nI n := ey_8.trans (hn)
        refine lv_icmp_ge (x := nI k_7) (y := nI n) (tgt := 53) E.1 E.2.1 dX3_day_25 (by decide) (fun _ => ?_) (fun h9 => absurd (nI_le (a := n) (b := k_7) (by omega) (by omega)) h9)
        refine lv_aload_n E.1 E.2.1 dX3_day_53 rfl (lv_at hl 1 rfl) ?_
        refine lv_dup E.1 E.2.1 dX3_day_54 rfl ?_
        refine mg_0_9 E hK hP in_3 w_2 dX3_day_55 ?_
        refine lv_iconst (v := 1) E.1 E.2.1 dX3_day_58 (by decide) ?_
        refine lv_iadd (x := g 9) (y := 1) E.1 E.2.1 dX3_day_59 ?_
        refine mp_0_9 (v := (g 9) + 1) E hK hP in_3 w_2 hI hS dX3_day_60 (fun H locs hP hS => ?_)
        refine lv_aload_n E.1 E.2.1 dX3_day_63 rfl (lv_at hl 1 rfl) ?_
        refine lv_dup E.1 E.2.1 dX3_day_64 rfl ?_
        refine mg_0_10 E hK hP in_3 w_3 dX3_day_65 ?_
        refine lv_topi (fun y_9 ey_9 => ?_)
        obtain rfl : y_9 = g 10 := ey_9.trans (rfl)
        refine lv_aload_n E.1 E.2.1 dX3_day_68 rfl (lv_at hl 1 rfl) ?_
        refine g_VR (As := []) (rest := [.int (g 10), .ref (ad 0)]) E hK hP (c_X3_keptNow l D cI cB ad (upd g 9 ((g 9) + 1)) t gl b6 tb n z c (IM_u hinv (by decide))) (cwV 0 E.2.2.2.2 gX3_day_X3_keptNow rfl rfl rfl (by decide +kernel) ⟨Nat.le_of_ble_eq_true rfl, Nat.le_of_ble_eq_true rfl⟩) (rm0x hK hP) rfl hl.1 rfl (Nat.le_of_ble_eq_true rfl) dX3_day_69 ⟨Nat.zero_le _, Nat.zero_le _⟩ ?_
        refine lv_iadd (x := g 10) (y := FX3_keptNow (upd g 9 ((g 9) + 1)) b6 tb n z c) E.1 E.2.1 dX3_day_72 ?_
        refine mp_0_10 (v := (g 10) + (FX3_keptNow (upd g 9 ((g 9) + 1)) b6 tb n z c)) E hK hP in_3 w_3 hI hS dX3_day_73 (fun H locs hP hS => ?_)
        refine lv_aload_n E.1 E.2.1 dX3_day_76 rfl (lv_at hl 1 rfl) ?_
        refine g_VR (As := []) (rest := []) E hK hP (c_X3_keptNow l D cI cB ad (upd (upd g 9 ((g 9) + 1)) 10 ((g 10) + (FX3_keptNow (upd g 9 ((g 9) + 1)) b6 tb n z c))) t gl b6 tb n z c (IM_u (IM_u hinv (by decide)) (by decide))) (cwV 0 E.2.2.2.2 gX3_day_X3_keptNow rfl rfl rfl (by decide +kernel) ⟨Nat.le_of_ble_eq_true rfl, Nat.le_of_ble_eq_true rfl⟩) (rm0x hK hP) rfl hl.1 rfl (Nat.le_of_ble_eq_true rfl) dX3_day_77 ⟨Nat.zero_le _, Nat.zero_le _⟩ ?_
        exact W.iret (v := FX3_keptNow (upd (upd g 9 ((g 9) + 1)) 10 ((g 10) + (FX3_keptNow (upd g 9 ((g 9) + 1)) b6 tb n z c))) b6 tb n z c) E.1 E.2.1 hr (fun tt ht _ => ⟨⟨FX3_keptNow (upd (upd g 9 ((g 9) + 1)) 10 ((g 10) + (FX3_keptNow (upd g 9 ((g 9) + 1)) b6 tb n z c))) b6 tb n z c, (upd (upd g 9 ((g 9) + 1)) 10 ((g 10) + (FX3_keptNow (upd g 9 ((g 9) + 1)) b6 tb n z c)), t, gl, b6, tb), rfl, (by rw [FX3_day_L20]), (show va_P D vwCl (wM cI cB ad (upd (upd g 9 ((g 9) + 1)) 10 ((g 10) + (FX3_keptNow (upd g 9 ((g 9) + 1)) b6 tb n z c))) t gl b6 tb) tt.heap from by rw [ht]; exact hP)⟩, hS.F ht⟩) hS.2.2 dX3_day_80
      | succ d_6 ih6 =>
        intro k_7 b6 H locs ls hk6 hinv hP hS hl
        refine lv_iload_n E.1 E.2.1 dX3_day_20 rfl (lv_at hl 0 rfl) ?_
        refine lv_aload_n E.1 E.2.1 dX3_day_21 rfl (lv_at hl 1 rfl) ?_
        refine mg_0_1 E hK hP in_3 w_0 dX3_day_22 ?_
        refine lv_topi (fun y_10 ey_10 => ?_)
        obtain rfl : y_10 = nI n := ey_10.trans (hn)
        refine lv_icmp_ge (x := nI k_7) (y := nI n) (tgt := 53) E.1 E.2.1 dX3_day_25 (by decide) (fun h9 => absurd h9 (nI_ge (a := k_7) (b := n) (by omega) (by omega))) (fun _ => ?_)
        refine lv_aload_n E.1 E.2.1 dX3_day_28 rfl (lv_at hl 1 rfl) ?_
        refine mg_0_5 E hK hP in_3 w_4 dX3_day_29 ?_
        refine lv_iload_n E.1 E.2.1 dX3_day_32 rfl (lv_at hl 0 rfl) ?_
        refine lv_aload_n E.1 E.2.1 dX3_day_33 rfl (lv_at hl 1 rfl) ?_
        refine mg_0_4 E hK hP in_3 w_5 dX3_day_34 ?_
        refine lv_iload_n E.1 E.2.1 dX3_day_37 rfl (lv_at hl 0 rfl) ?_
        refine ml_3 (i := nI k_7) E hK hP (vp_in_nI (by omega) (by omega)) dX3_day_38 ?_
        refine lv_topi (fun y_11 ey_11 => ?_)
        obtain rfl : y_11 = b6 3 k_7 := ey_11.trans (by rw [nI_clamp (show k_7 < 2 ^ 31 by omega)] <;> rfl)
        refine ms_4 (v := b6 3 k_7) (i := nI k_7) E hK hP hI hS (vp_in_nI (by omega) (by omega)) dX3_day_39 (fun H locs hP hS => ?_)
        rw [nI_clamp (show k_7 < 2 ^ 31 by omega)] at hP
        have hP : va_P D vwCl (wM cI cB ad g t gl (uA b6 4 (upd (b6 4) k_7 (b6 3 k_7))) tb) H := hP
        refine lv_aload_n E.1 E.2.1 dX3_day_40 rfl (lv_at hl 1 rfl) ?_
        refine mg_0_6 E hK hP in_3 w_6 dX3_day_41 ?_
        refine lv_iload_n E.1 E.2.1 dX3_day_44 rfl (lv_at hl 0 rfl) ?_
        refine lv_iconst (v := 0) E.1 E.2.1 dX3_day_45 (by decide) ?_
        refine ms_5 (v := 0) (i := nI k_7) E hK hP hI hS (vp_in_nI (by omega) (by omega)) dX3_day_46 (fun H locs hP hS => ?_)
        rw [nI_clamp (show k_7 < 2 ^ 31 by omega)] at hP
        have hP : va_P D vwCl (wM cI cB ad g t gl (uA (uA b6 4 (upd (b6 4) k_7 (b6 3 k_7))) 5 (upd (b6 5) k_7 0)) tb) H := hP
        refine lv_iinc (v := nI (k_7 + 1)) (k := 0) (lv' := [(1, .int (nI (k_7 + 1))), (0, .ref (ad 0))]) E.1 E.2.1 dX3_day_47 hl rfl (nI_1 k_7) (by decide) rfl (fun ls hl => ?_)
        refine lv_goto (tgt := 20) E.1 E.2.1 dX3_day_50 (by decide) ?_
        rw [show FX3_day_L20 g t gl tb n z c (d_6 + 1) k_7 b6 = FX3_day_L20 g t gl tb n z c d_6 (k_7 + 1) (uA (uA b6 4 (upd (b6 4) k_7 (b6 3 k_7))) 5 (upd (b6 5) k_7 0)) from by rw [FX3_day_L20]]
        exact ih6 (k_7 + 1) (uA (uA b6 4 (upd (b6 4) k_7 (b6 3 k_7))) 5 (upd (b6 5) k_7 0)) _ _ ls (by omega) ((IM_a (IM_a hinv (by decide)) (by decide))) hP hS (lv_sub hl [0, 1] rfl)
    rw [show FX3_day g t gl b tb n z c = FX3_day_L20 g t gl tb n z c n 0 ((FX3_melt g t gl b tb n z c (g 8)).2.2.2.1) from by rw [FX3_day, if_neg h4]]
    have hl : lv_has ls 2 [(1, .int (nI 0)), (0, .ref (ad 0))] := lv_sub hl [0, 1] rfl
    exact loop6 _ _ ((FX3_melt g t gl b tb n z c (g 8)).2.2.2.1) _ _ ls (by omega) ((melt_IM hM)) hP hS (lv_sub hl [0, 1] rfl)
  · have h4 := h4
    refine lv_bipush (v := (-103)) E.1 E.2.1 dX3_day_7 (by decide) ?_
    exact W.iret (v := (-103)) E.1 E.2.1 hr (fun tt ht _ => ⟨⟨(-103), (g, t, gl, b, tb), rfl, (by rw [FX3_day, if_pos h4]), (show va_P D vwCl (wM cI cB ad g t gl b tb) tt.heap from by rw [ht]; exact hP)⟩, hS.F ht⟩) hS.2.2 dX3_day_9
