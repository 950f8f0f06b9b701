def FX0_add (f : Nat → Int32) (a : Nat → Nat → Int32) (ta : Nat → Nat → Int32) (n : Nat) (z : Nat) (c : Nat) (p0 : Int32) : Int32 × SX := (if nI z < 21 then (1, upd f 3 (nI (z + 1)), uA a 8 (upd (a 8) z p0), ta) else (0, f, a, ta))
set_option maxHeartbeats 4000000 in
set_option maxRecDepth 100000 in
/-- a letter more -/
theorem c_X0_add (l : Launch) (D : va_G) (cI cB : ClassId) (ad : Nat → Nat) (f : Nat → Int32) (a ta : Nat → Nat → Int32) (n z c : Nat) (hX : IX n z c f) (hI : wI 25 ad) (p0 : Int32) : Met l yX0_add wsX0_add ({ frames := 0, cells := 0, slots := 0, locals := 0 }) (GPc D cI cB (wX cI ad f a ta) [.ref (ad 1), .int p0]) (va_Qi (fun (r : Int32) (u : SX) => (r, u) = FX0_add f a ta n z c p0) (fun u t => va_P D vwCl (wX cI ad u.1 u.2.1 u.2.2) t.heap) (wA 25 ad)) 0 0 (wA 25 ad) := by
  refine Met.ofW (cc := cX0_add) (maxL := 2) (ret := (some .boolean)) (by decide) rfl ?_
  intro p e s m args below meth cd s₁ B hml hv
  obtain ⟨rfl, hP, hK⟩ := hv
  have hts := atoms_spec (ws := wsX0_add) B.pre
  have E : CallFix p m cd cX0_add 2 s _ wsX0_add RX0 := ⟨B.exec, B.bytes, hml, findClass_of_methodNamed B.named, hts⟩
  have hr := B.returns
  have hlocks := B.notSynchronized
  have h2n := pow6 (n := n) (by have := hX.2.1; omega)
  obtain ⟨hn, hn6, hz, hz21, hc, hc6⟩ := id hX
  have hS : va_S (wA 25 ad) s.heap s.heap [] := va_S.rf
  have in_0 : ∀ w ∈ wsX00, w ∈ wsX0_add := fun _ h => List.mem_cons_of_mem _ (List.mem_append_right _ h)
  have w_0 : (Cond.fieldLink RX0 15 "SnowTerm$Page" "size" "I").before _ s = true := hts _ (by decide +kernel)
  have w_1 : (Cond.fieldLink RX0 9 "SnowTerm$Page" "codes" "[I").before _ s = true := hts _ (by decide +kernel)
  have hl := lv_entry ([.ref (ad 1), .int p0]) (n := 2) (Nat.le_of_ble_eq_true rfl)
  rw [lg_entry_eq]
  generalize (lg_sl ([.ref (ad 1), .int p0]) ++ List.replicate (2 - (lg_sl ([.ref (ad 1), .int p0])).length) Slot.unset).toArray = ls at hl ⊢
  have hl : lv_has ls 2 [(0, .ref (ad 1)), (1, .int p0)] := hl
  refine lv_aload_n E.1 E.2.1 dX0_add_0 rfl (lv_at hl 0 rfl) ?_
  refine xg_1_1 E hK hP in_0 w_0 dX0_add_1 ?_
  refine lv_topi (fun y_1 ey_1 => ?_)
  obtain rfl : y_1 = nI z := ey_1.trans (hz)
  refine lv_if_lt (x := nI z) (tgt := 19) E.1 E.2.1 dX0_add_4 (by decide) (fun h9 => absurd h9 (nI_pos (by omega))) (fun _ => ?_)
  refine lv_aload_n E.1 E.2.1 dX0_add_7 rfl (lv_at hl 0 rfl) ?_
  refine xg_1_1 E hK hP in_0 w_0 dX0_add_8 ?_
  refine lv_topi (fun y_2 ey_2 => ?_)
  obtain rfl : y_2 = nI z := ey_2.trans (hz)
  refine lv_aload_n E.1 E.2.1 dX0_add_11 rfl (lv_at hl 0 rfl) ?_
  refine xg_1_0 E hK hP in_0 w_1 dX0_add_12 ?_
  refine xn_8 E hK hP dX0_add_15 ?_
  refine lv_icmp_lt (x := nI z) (y := 21) (tgt := 21) E.1 E.2.1 dX0_add_16 (by decide) (fun h16 => ?_) (fun h16 => ?_)
  · have h16 := h16
    refine lv_aload_n E.1 E.2.1 dX0_add_21 rfl (lv_at hl 0 rfl) ?_
    refine xg_1_0 E hK hP in_0 w_1 dX0_add_22 ?_
    refine lv_aload_n E.1 E.2.1 dX0_add_25 rfl (lv_at hl 0 rfl) ?_
    refine xg_1_1 E hK hP in_0 w_0 dX0_add_26 ?_
    refine lv_topi (fun y_3 ey_3 => ?_)
    obtain rfl : y_3 = nI z := ey_3.trans (hz)
    refine lv_iload_n E.1 E.2.1 dX0_add_29 rfl (lv_at hl 1 rfl) ?_
    refine xs_8 (v := p0) (i := nI z) E hK hP hI hS (vp_in_nI ((nI_ltI (a := z) (b := 21) (by omega) (by omega)).mp h16) (by omega)) dX0_add_30 (fun H locs hP hS => ?_)
    rw [nI_clamp (show z < 2 ^ 31 by omega)] at hP
    have hP : va_P D vwCl (wX cI ad f (uA a 8 (upd (a 8) z p0)) ta) H := hP
    refine lv_aload_n E.1 E.2.1 dX0_add_31 rfl (lv_at hl 0 rfl) ?_
    refine lv_dup E.1 E.2.1 dX0_add_32 rfl ?_
    refine xg_1_1 E hK hP in_0 w_0 dX0_add_33 ?_
    refine lv_topi (fun y_4 ey_4 => ?_)
    obtain rfl : y_4 = nI z := ey_4.trans (hz)
    refine lv_iconst (v := 1) E.1 E.2.1 dX0_add_36 (by decide) ?_
    refine lv_iadd (x := nI z) (y := 1) E.1 E.2.1 dX0_add_37 ?_
    refine lv_topi (fun y_5 ey_5 => ?_)
    obtain rfl : y_5 = nI (z + 1) := ey_5.trans (nI_1 z)
    refine xp_1_1 (v := nI (z + 1)) E hK hP in_0 w_0 hI hS dX0_add_38 (fun H locs hP hS => ?_)
    refine lv_iconst (v := 1) E.1 E.2.1 dX0_add_41 (by decide) ?_
    exact W.zret (v := 1) E.1 E.2.1 hr rfl (fun t ht _ => ⟨⟨1, (upd f 3 (nI (z + 1)), uA a 8 (upd (a 8) z p0), ta), rfl, (by rw [FX0_add, if_pos h16]), (show va_P D vwCl (wX cI ad (upd f 3 (nI (z + 1))) (uA a 8 (upd (a 8) z p0)) ta) t.heap from by rw [ht]; exact hP)⟩, hS.F ht⟩) hS.2.2 dX0_add_42
  · have h16 := h16
    refine lv_iconst (v := 0) E.1 E.2.1 dX0_add_19 (by decide) ?_
    exact W.zret (v := 0) E.1 E.2.1 hr rfl (fun t ht _ => ⟨⟨0, (f, a, ta), rfl, (by rw [FX0_add, if_neg h16]), (show va_P D vwCl (wX cI ad f a ta) t.heap from by rw [ht]; exact hP)⟩, hS.F ht⟩) hS.2.2 dX0_add_20
def FX0_clear (f : Nat → Int32) (a : Nat → Nat → Int32) (ta : Nat → Nat → Int32) (n : Nat) (z : Nat) (c : Nat) : Int32 × SX := (nI z, upd f 3 0, a, ta)
set_option maxHeartbeats 4000000 in
set_option maxRecDepth 100000 in
/-- no letter -/
theorem c_X0_clear (l : Launch) (D : va_G) (cI cB : ClassId) (ad : Nat → Nat) (f : Nat → Int32) (a ta : Nat → Nat → Int32) (n z c : Nat) (hX : IX n z c f) (hI : wI 25 ad)  : Met l yX0_clear wsX0_clear ({ frames := 0, cells := 0, slots := 0, locals := 0 }) (GPc D cI cB (wX cI ad f a ta) [.ref (ad 1)]) (va_Qi (fun (r : Int32) (u : SX) => (r, u) = FX0_clear f a ta n z c) (fun u t => va_P D vwCl (wX cI ad u.1 u.2.1 u.2.2) t.heap) (wA 25 ad)) 0 0 (wA 25 ad) := by
  refine Met.ofW (cc := cX0_clear) (maxL := 2) (ret := (some .int)) (by decide) rfl ?_
  intro p e s m args below meth cd s₁ B hml hv
  obtain ⟨rfl, hP, hK⟩ := hv
  have hts := atoms_spec (ws := wsX0_clear) B.pre
  have E : CallFix p m cd cX0_clear 2 s _ wsX0_clear RX0 := ⟨B.exec, B.bytes, hml, findClass_of_methodNamed B.named, hts⟩
  have hr := B.returns
  have hlocks := B.notSynchronized
  have h2n := pow6 (n := n) (by have := hX.2.1; omega)
  obtain ⟨hn, hn6, hz, hz21, hc, hc6⟩ := id hX
  have hS : va_S (wA 25 ad) s.heap s.heap [] := va_S.rf
  have in_0 : ∀ w ∈ wsX00, w ∈ wsX0_clear := fun _ h => List.mem_cons_of_mem _ (List.mem_append_right _ h)
  have w_0 : (Cond.fieldLink RX0 15 "SnowTerm$Page" "size" "I").before _ s = true := hts _ (by decide +kernel)
  have hl := lv_entry ([.ref (ad 1)]) (n := 2) (Nat.le_of_ble_eq_true rfl)
  rw [lg_entry_eq]
  generalize (lg_sl ([.ref (ad 1)]) ++ List.replicate (2 - (lg_sl ([.ref (ad 1)])).length) Slot.unset).toArray = ls at hl ⊢
  have hl : lv_has ls 2 [(0, .ref (ad 1))] := hl
  refine lv_aload_n E.1 E.2.1 dX0_clear_0 rfl (lv_at hl 0 rfl) ?_
  refine xg_1_1 E hK hP in_0 w_0 dX0_clear_1 ?_
  refine lv_topi (fun y_1 ey_1 => ?_)
  obtain rfl : y_1 = nI z := ey_1.trans (hz)
  refine lv_istore_n (lv' := [(1, .int (nI z)), (0, .ref (ad 1))]) E.1 E.2.1 dX0_clear_4 rfl hl (by decide) rfl (fun ls hl => ?_)
  refine lv_aload_n E.1 E.2.1 dX0_clear_5 rfl (lv_at hl 1 rfl) ?_
  refine lv_iconst (v := 0) E.1 E.2.1 dX0_clear_6 (by decide) ?_
  refine xp_1_1 (v := 0) E hK hP in_0 w_0 hI hS dX0_clear_7 (fun H locs hP hS => ?_)
  refine lv_iload_n E.1 E.2.1 dX0_clear_10 rfl (lv_at hl 0 rfl) ?_
  exact W.iret (v := nI z) E.1 E.2.1 hr (fun t ht _ => ⟨⟨nI z, (upd f 3 0, a, ta), rfl, (by rw [FX0_clear]), (show va_P D vwCl (wX cI ad (upd f 3 0) a ta) t.heap from by rw [ht]; exact hP)⟩, hS.F ht⟩) hS.2.2 dX0_clear_11
def FX2_letter (f : Nat → Int32) (a : Nat → Nat → Int32) (ta : Nat → Nat → Int32) (n : Nat) (z : Nat) (c : Nat) (p0 : Int32) : Int32 × SX := (if FX2_isWithin p0 32 126 = 0 then ((-102), f, a, ta) else (if (FX0_add f a ta n z c p0).1 = 0 then ((-104), (FX0_add f a ta n z c p0).2.1, (FX0_add f a ta n z c p0).2.2.1, (FX0_add f a ta n z c p0).2.2.2) else (((FX0_add f a ta n z c p0).2.1) 3, (FX0_add f a ta n z c p0).2.1, (FX0_add f a ta n z c p0).2.2.1, (FX0_add f a ta n z c p0).2.2.2)))
set_option maxHeartbeats 4000000 in
set_option maxRecDepth 100000 in
/-- a letter -/
theorem c_X2_letter (l : Launch) (D : va_G) (cI cB : ClassId) (ad : Nat → Nat) (f : Nat → Int32) (a ta : Nat → Nat → Int32) (n z c : Nat) (hX : IX n z c f) (hI : wI 25 ad) (p0 : Int32) : Met l yX2_letter wsX2_letter ({ frames := 1, cells := 0, slots := 0, locals := 22 }) (GPc D cI cB (wX cI ad f a ta) [.ref (ad 0), .int p0]) (va_Qi (fun (r : Int32) (u : SX) => (r, u) = FX2_letter f a ta n z c p0) (fun u t => va_P D vwCl (wX cI ad u.1 u.2.1 u.2.2) t.heap) (wA 25 ad)) 0 0 (wA 25 ad) := by
  refine Met.ofW (cc := cX2_letter) (maxL := 2) (ret := (some .int)) (by decide) rfl ?_
  intro p e s m args below meth cd s₁ B hml hv
  obtain ⟨rfl, hP, hK⟩ := hv
  have hts := atoms_spec (ws := wsX2_letter) B.pre
  have E : CallFix p m cd cX2_letter 2 s _ wsX2_letter RX2 := ⟨B.exec, B.bytes, hml, findClass_of_methodNamed B.named, hts⟩
  have hr := B.returns
  have hlocks := B.notSynchronized
  have h2n := pow6 (n := n) (by have := hX.2.1; omega)
  obtain ⟨hn, hn6, hz, hz21, hc, hc6⟩ := id hX
  have hS : va_S (wA 25 ad) s.heap s.heap [] := va_S.rf
  have in_0 : ∀ w ∈ wsX00, w ∈ wsX2_letter := fun _ h => List.mem_cons_of_mem _ (List.mem_append_right _ h)
  have in_2 : ∀ w ∈ wsX20, w ∈ wsX2_letter := fun _ h => List.mem_cons_of_mem _ (List.mem_append_left _ (List.mem_append_right _ h))
  have w_0 : (Cond.fieldLink RX2 10 "SnowTerm" "page" "LSnowTerm$Page;").before _ s = true := hts _ (by decide +kernel)
  have w_1 : (Cond.fieldLink RX2 58 "SnowTerm$Page" "size" "I").before _ s = true := hts _ (by decide +kernel)
  have hl := lv_entry ([.ref (ad 0), .int p0]) (n := 2) (Nat.le_of_ble_eq_true rfl)
  rw [lg_entry_eq]
  generalize (lg_sl ([.ref (ad 0), .int p0]) ++ List.replicate (2 - (lg_sl ([.ref (ad 0), .int p0])).length) Slot.unset).toArray = ls at hl ⊢
  have hl : lv_has ls 2 [(0, .ref (ad 0)), (1, .int p0)] := hl
  refine lv_iload_n E.1 E.2.1 dX2_letter_0 rfl (lv_at hl 1 rfl) ?_
  refine lv_bipush (v := 32) E.1 E.2.1 dX2_letter_1 (by decide) ?_
  refine lv_bipush (v := 126) E.1 E.2.1 dX2_letter_3 (by decide) ?_
  refine g_SR (As := [.int p0, .int 32, .int 126]) (rest := []) E hK (c_X2_isWithin l D cI cB p0 32 126) (va_cwS 3 E.2.2.2.2 gX2_letter_X2_isWithin rfl rfl rfl (by decide +kernel) ⟨Nat.le_of_ble_eq_true rfl, Nat.le_of_ble_eq_true rfl⟩) rfl hl.1 rfl (Nat.le_of_ble_eq_true rfl) dX2_letter_5 ⟨Nat.zero_le _, Nat.zero_le _⟩ ?_
  refine lv_if_ne (x := FX2_isWithin p0 32 126) (tgt := 14) E.1 E.2.1 dX2_letter_8 (by decide) (fun h8 => ?_) (fun h8 => ?_)
  · have h8 := h8
    refine lv_aload_n E.1 E.2.1 dX2_letter_14 rfl (lv_at hl 0 rfl) ?_
    refine xg_0_0 E hK hP in_2 w_0 dX2_letter_15 ?_
    refine lv_iload_n E.1 E.2.1 dX2_letter_18 rfl (lv_at hl 1 rfl) ?_
    refine g_VWi (As := [.int p0]) (rest := []) E hK hP hS (fun q h => h) (c_X0_add l D cI cB ad f a ta n z c hX hI p0) (cwV 1 E.2.2.2.2 gX2_letter_X0_add rfl rfl rfl (by decide +kernel) ⟨Nat.le_of_ble_eq_true rfl, Nat.le_of_ble_eq_true rfl⟩) (rxp hK hP) rfl hl.1 rfl (Nat.le_of_ble_eq_true rfl) dX2_letter_19 ⟨Nat.zero_le _, Nat.zero_le _⟩ (fun r_2 u_1 H1 locs hp_3 hP1 hq_4 hS => ?_)
    obtain rfl : r_2 = (FX0_add f a ta n z c p0).1 := congrArg Prod.fst hp_3
    obtain rfl : u_1 = (FX0_add f a ta n z c p0).2 := congrArg Prod.snd hp_3
    have hP : va_P D vwCl (wX cI ad ((FX0_add f a ta n z c p0).2.1) ((FX0_add f a ta n z c p0).2.2.1) ((FX0_add f a ta n z c p0).2.2.2)) H1 := hP1
    clear hP1
    generalize H1 = H at hP hS ⊢
    refine lv_if_ne (x := (FX0_add f a ta n z c p0).1) (tgt := 28) E.1 E.2.1 dX2_letter_22 (by decide) (fun h22 => ?_) (fun h22 => ?_)
    · have h22 := h22
      refine lv_aload_n E.1 E.2.1 dX2_letter_28 rfl (lv_at hl 0 rfl) ?_
      refine xg_0_0 E hK hP in_2 w_0 dX2_letter_29 ?_
      refine xg_1_1 E hK hP in_0 w_1 dX2_letter_32 ?_
      exact W.iret (v := ((FX0_add f a ta n z c p0).2.1) 3) E.1 E.2.1 hr (fun t ht _ => ⟨⟨((FX0_add f a ta n z c p0).2.1) 3, ((FX0_add f a ta n z c p0).2.1, (FX0_add f a ta n z c p0).2.2.1, (FX0_add f a ta n z c p0).2.2.2), rfl, (by rw [FX2_letter, if_neg h8, if_neg h22]), (show va_P D vwCl (wX cI ad ((FX0_add f a ta n z c p0).2.1) ((FX0_add f a ta n z c p0).2.2.1) ((FX0_add f a ta n z c p0).2.2.2)) t.heap from by rw [ht]; exact hP)⟩, hS.F ht⟩) hS.2.2 dX2_letter_35
    · have h22 := h22
      refine lv_bipush (v := (-104)) E.1 E.2.1 dX2_letter_25 (by decide) ?_
      exact W.iret (v := (-104)) E.1 E.2.1 hr (fun t ht _ => ⟨⟨(-104), ((FX0_add f a ta n z c p0).2.1, (FX0_add f a ta n z c p0).2.2.1, (FX0_add f a ta n z c p0).2.2.2), rfl, (by rw [FX2_letter, if_neg h8, if_pos h22]), (show va_P D vwCl (wX cI ad ((FX0_add f a ta n z c p0).2.1) ((FX0_add f a ta n z c p0).2.2.1) ((FX0_add f a ta n z c p0).2.2.2)) t.heap from by rw [ht]; exact hP)⟩, hS.F ht⟩) hS.2.2 dX2_letter_27
  · have h8 := h8
    refine lv_bipush (v := (-102)) E.1 E.2.1 dX2_letter_11 (by decide) ?_
    exact W.iret (v := (-102)) E.1 E.2.1 hr (fun t ht _ => ⟨⟨(-102), (f, a, ta), rfl, (by rw [FX2_letter, if_pos h8]), (show va_P D vwCl (wX cI ad f a ta) t.heap from by rw [ht]; exact hP)⟩, hS.F ht⟩) hS.2.2 dX2_letter_13
def FX2_blank (f : Nat → Int32) (a : Nat → Nat → Int32) (ta : Nat → Nat → Int32) (n : Nat) (z : Nat) (c : Nat) : Int32 × SX := ((FX0_clear f a ta n z c).1, (FX0_clear f a ta n z c).2.1, (FX0_clear f a ta n z c).2.2.1, (FX0_clear f a ta n z c).2.2.2)
set_option maxHeartbeats 4000000 in
set_option maxRecDepth 100000 in
/-- no letter -/
theorem c_X2_blank (l : Launch) (D : va_G) (cI cB : ClassId) (ad : Nat → Nat) (f : Nat → Int32) (a ta : Nat → Nat → Int32) (n z c : Nat) (hX : IX n z c f) (hI : wI 25 ad)  : Met l yX2_blank wsX2_blank ({ frames := 1, cells := 0, slots := 0, locals := 21 }) (GPc D cI cB (wX cI ad f a ta) [.ref (ad 0)]) (va_Qi (fun (r : Int32) (u : SX) => (r, u) = FX2_blank f a ta n z c) (fun u t => va_P D vwCl (wX cI ad u.1 u.2.1 u.2.2) t.heap) (wA 25 ad)) 0 0 (wA 25 ad) := by
  refine Met.ofW (cc := cX2_blank) (maxL := 1) (ret := (some .int)) (by decide) rfl ?_
  intro p e s m args below meth cd s₁ B hml hv
  obtain ⟨rfl, hP, hK⟩ := hv
  have hts := atoms_spec (ws := wsX2_blank) B.pre
  have E : CallFix p m cd cX2_blank 1 s _ wsX2_blank RX2 := ⟨B.exec, B.bytes, hml, findClass_of_methodNamed B.named, hts⟩
  have hr := B.returns
  have hlocks := B.notSynchronized
  have h2n := pow6 (n := n) (by have := hX.2.1; omega)
  obtain ⟨hn, hn6, hz, hz21, hc, hc6⟩ := id hX
  have hS : va_S (wA 25 ad) s.heap s.heap [] := va_S.rf
  have in_2 : ∀ w ∈ wsX20, w ∈ wsX2_blank := fun _ h => List.mem_cons_of_mem _ (List.mem_append_left _ (List.mem_append_right _ h))
  have w_0 : (Cond.fieldLink RX2 10 "SnowTerm" "page" "LSnowTerm$Page;").before _ s = true := hts _ (by decide +kernel)
  have hl := lv_entry ([.ref (ad 0)]) (n := 1) (Nat.le_of_ble_eq_true rfl)
  rw [lg_entry_eq]
  generalize (lg_sl ([.ref (ad 0)]) ++ List.replicate (1 - (lg_sl ([.ref (ad 0)])).length) Slot.unset).toArray = ls at hl ⊢
  have hl : lv_has ls 1 [(0, .ref (ad 0))] := hl
  refine lv_aload_n E.1 E.2.1 dX2_blank_0 rfl (lv_at hl 0 rfl) ?_
  refine xg_0_0 E hK hP in_2 w_0 dX2_blank_1 ?_
  refine g_VWi (As := []) (rest := []) E hK hP hS (fun q h => h) (c_X0_clear l D cI cB ad f a ta n z c hX hI) (cwV 0 E.2.2.2.2 gX2_blank_X0_clear rfl rfl rfl (by decide +kernel) ⟨Nat.le_of_ble_eq_true rfl, Nat.le_of_ble_eq_true rfl⟩) (rxp hK hP) rfl hl.1 rfl (Nat.le_of_ble_eq_true rfl) dX2_blank_4 ⟨Nat.zero_le _, Nat.zero_le _⟩ (fun r_2 u_1 H1 locs hp_3 hP1 hq_4 hS => ?_)
  obtain rfl : r_2 = (FX0_clear f a ta n z c).1 := congrArg Prod.fst hp_3
  obtain rfl : u_1 = (FX0_clear f a ta n z c).2 := congrArg Prod.snd hp_3
  have hP : va_P D vwCl (wX cI ad ((FX0_clear f a ta n z c).2.1) ((FX0_clear f a ta n z c).2.2.1) ((FX0_clear f a ta n z c).2.2.2)) H1 := hP1
  clear hP1
  generalize H1 = H at hP hS ⊢
  exact W.iret (v := (FX0_clear f a ta n z c).1) E.1 E.2.1 hr (fun t ht _ => ⟨⟨(FX0_clear f a ta n z c).1, ((FX0_clear f a ta n z c).2.1, (FX0_clear f a ta n z c).2.2.1, (FX0_clear f a ta n z c).2.2.2), rfl, (by rw [FX2_blank]), (show va_P D vwCl (wX cI ad ((FX0_clear f a ta n z c).2.1) ((FX0_clear f a ta n z c).2.2.1) ((FX0_clear f a ta n z c).2.2.2)) t.heap from by rw [ht]; exact hP)⟩, hS.F ht⟩) hS.2.2 dX2_blank_7
def FX2_tread (f : Nat → Int32) (a : Nat → Nat → Int32) (ta : Nat → Nat → Int32) (n : Nat) (z : Nat) (c : Nat) (p0 : Int32) (p1 : Int32) : Int32 × SX := (if FX2_isSite f a ta n z c p0 = 0 then ((-101), f, a, ta) else (if FX2_isWithin p1 0 9 = 0 then ((-102), f, a, ta) else (a 11 p0.toNatClampNeg, f, uA a 11 (upd (a 11) p0.toNatClampNeg p1), ta)))
set_option maxHeartbeats 4000000 in
set_option maxRecDepth 100000 in
/-- feet -/
theorem c_X2_tread (l : Launch) (D : va_G) (cI cB : ClassId) (ad : Nat → Nat) (f : Nat → Int32) (a ta : Nat → Nat → Int32) (n z c : Nat) (hX : IX n z c f) (hI : wI 25 ad) (p0 : Int32) (p1 : Int32) : Met l yX2_tread wsX2_tread ({ frames := 1, cells := 0, slots := 0, locals := 22 }) (GPc D cI cB (wX cI ad f a ta) [.ref (ad 0), .int p0, .int p1]) (va_Qi (fun (r : Int32) (u : SX) => (r, u) = FX2_tread f a ta n z c p0 p1) (fun u t => va_P D vwCl (wX cI ad u.1 u.2.1 u.2.2) t.heap) (wA 25 ad)) 0 0 (wA 25 ad) := by
  refine Met.ofW (cc := cX2_tread) (maxL := 4) (ret := (some .int)) (by decide) rfl ?_
  intro p e s m args below meth cd s₁ B hml hv
  obtain ⟨rfl, hP, hK⟩ := hv
  have hts := atoms_spec (ws := wsX2_tread) B.pre
  have E : CallFix p m cd cX2_tread 4 s _ wsX2_tread RX2 := ⟨B.exec, B.bytes, hml, findClass_of_methodNamed B.named, hts⟩
  have hr := B.returns
  have hlocks := B.notSynchronized
  have h2n := pow6 (n := n) (by have := hX.2.1; omega)
  obtain ⟨hn, hn6, hz, hz21, hc, hc6⟩ := id hX
  have hS : va_S (wA 25 ad) s.heap s.heap [] := va_S.rf
  have in_1 : ∀ w ∈ wsX10, w ∈ wsX2_tread := fun _ h => List.mem_cons_of_mem _ (List.mem_append_right _ h)
  have in_2 : ∀ w ∈ wsX20, w ∈ wsX2_tread := fun _ h => List.mem_cons_of_mem _ (List.mem_append_left _ (List.mem_append_right _ h))
  have w_0 : (Cond.fieldLink RX2 26 "SnowTerm" "now" "LSnowTerm$Term;").before _ s = true := hts _ (by decide +kernel)
  have w_1 : (Cond.fieldLink RX2 95 "SnowTerm$Term" "feet" "[I").before _ s = true := hts _ (by decide +kernel)
  have hl := lv_entry ([.ref (ad 0), .int p0, .int p1]) (n := 4) (Nat.le_of_ble_eq_true rfl)
  rw [lg_entry_eq]
  generalize (lg_sl ([.ref (ad 0), .int p0, .int p1]) ++ List.replicate (4 - (lg_sl ([.ref (ad 0), .int p0, .int p1])).length) Slot.unset).toArray = ls at hl ⊢
  have hl : lv_has ls 4 [(0, .ref (ad 0)), (1, .int p0), (2, .int p1)] := hl
  refine lv_aload_n E.1 E.2.1 dX2_tread_0 rfl (lv_at hl 0 rfl) ?_
  refine lv_iload_n E.1 E.2.1 dX2_tread_1 rfl (lv_at hl 1 rfl) ?_
  refine g_VR (As := [.int p0]) (rest := []) E hK hP (c_X2_isSite l D cI cB ad f a ta n z c hX p0) (cwV 1 E.2.2.2.2 gX2_tread_X2_isSite rfl rfl rfl (by decide +kernel) ⟨Nat.le_of_ble_eq_true rfl, Nat.le_of_ble_eq_true rfl⟩) (rx hK hP) rfl hl.1 rfl (Nat.le_of_ble_eq_true rfl) dX2_tread_2 ⟨Nat.zero_le _, Nat.zero_le _⟩ ?_
  refine lv_if_ne (x := FX2_isSite f a ta n z c p0) (tgt := 11) E.1 E.2.1 dX2_tread_5 (by decide) (fun h5 => ?_) (fun h5 => ?_)
  · have h5 := h5
    refine lv_iload_n E.1 E.2.1 dX2_tread_11 rfl (lv_at hl 2 rfl) ?_
    refine lv_iconst (v := 0) E.1 E.2.1 dX2_tread_12 (by decide) ?_
    refine lv_bipush (v := 9) E.1 E.2.1 dX2_tread_13 (by decide) ?_
    refine g_SR (As := [.int p1, .int 0, .int 9]) (rest := []) E hK (c_X2_isWithin l D cI cB p1 0 9) (va_cwS 3 E.2.2.2.2 gX2_tread_X2_isWithin rfl rfl rfl (by decide +kernel) ⟨Nat.le_of_ble_eq_true rfl, Nat.le_of_ble_eq_true rfl⟩) rfl hl.1 rfl (Nat.le_of_ble_eq_true rfl) dX2_tread_15 ⟨Nat.zero_le _, Nat.zero_le _⟩ ?_
    refine lv_if_ne (x := FX2_isWithin p1 0 9) (tgt := 24) E.1 E.2.1 dX2_tread_18 (by decide) (fun h18 => ?_) (fun h18 => ?_)
    · have h18 := h18
      refine lv_aload_n E.1 E.2.1 dX2_tread_24 rfl (lv_at hl 0 rfl) ?_
      refine xg_0_3 E hK hP in_2 w_0 dX2_tread_25 ?_
      refine xg_4_6 E hK hP in_1 w_1 dX2_tread_28 ?_
      refine lv_iload_n E.1 E.2.1 dX2_tread_31 rfl (lv_at hl 1 rfl) ?_
      refine xl_11 (i := p0) E hK hP (site_X hX h5) dX2_tread_32 ?_
      refine lv_istore_n (lv' := [(3, .int (a 11 p0.toNatClampNeg)), (0, .ref (ad 0)), (1, .int p0), (2, .int p1)]) E.1 E.2.1 dX2_tread_33 rfl hl (by decide) rfl (fun ls hl => ?_)
      refine lv_aload_n E.1 E.2.1 dX2_tread_34 rfl (lv_at hl 1 rfl) ?_
      refine xg_0_3 E hK hP in_2 w_0 dX2_tread_35 ?_
      refine xg_4_6 E hK hP in_1 w_1 dX2_tread_38 ?_
      refine lv_iload_n E.1 E.2.1 dX2_tread_41 rfl (lv_at hl 2 rfl) ?_
      refine lv_iload_n E.1 E.2.1 dX2_tread_42 rfl (lv_at hl 3 rfl) ?_
      refine xs_11 (v := p1) (i := p0) E hK hP hI hS (site_X hX h5) dX2_tread_43 (fun H locs hP hS => ?_)
      have hP : va_P D vwCl (wX cI ad f (uA a 11 (upd (a 11) p0.toNatClampNeg p1)) ta) H := hP
      refine lv_iload_n E.1 E.2.1 dX2_tread_44 rfl (lv_at hl 0 rfl) ?_
      exact W.iret (v := a 11 p0.toNatClampNeg) E.1 E.2.1 hr (fun t ht _ => ⟨⟨a 11 p0.toNatClampNeg, (f, uA a 11 (upd (a 11) p0.toNatClampNeg p1), ta), rfl, (by rw [FX2_tread, if_neg h5, if_neg h18]), (show va_P D vwCl (wX cI ad f (uA a 11 (upd (a 11) p0.toNatClampNeg p1)) ta) t.heap from by rw [ht]; exact hP)⟩, hS.F ht⟩) hS.2.2 dX2_tread_45
    · have h18 := h18
      refine lv_bipush (v := (-102)) E.1 E.2.1 dX2_tread_21 (by decide) ?_
      exact W.iret (v := (-102)) E.1 E.2.1 hr (fun t ht _ => ⟨⟨(-102), (f, a, ta), rfl, (by rw [FX2_tread, if_neg h5, if_pos h18]), (show va_P D vwCl (wX cI ad f a ta) t.heap from by rw [ht]; exact hP)⟩, hS.F ht⟩) hS.2.2 dX2_tread_23
  · have h5 := h5
    refine lv_bipush (v := (-101)) E.1 E.2.1 dX2_tread_8 (by decide) ?_
    exact W.iret (v := (-101)) E.1 E.2.1 hr (fun t ht _ => ⟨⟨(-101), (f, a, ta), rfl, (by rw [FX2_tread, if_pos h5]), (show va_P D vwCl (wX cI ad f a ta) t.heap from by rw [ht]; exact hP)⟩, hS.F ht⟩) hS.2.2 dX2_tread_10
def FX2_sun (f : Nat → Int32) (a : Nat → Nat → Int32) (ta : Nat → Nat → Int32) (n : Nat) (z : Nat) (c : Nat) (p0 : Int32) : Int32 × SX := (if FX2_isWithin p0 0 9 = 0 then ((-102), f, a, ta) else (if nI n = 0 then ((-103), f, a, ta) else (f 5, upd f 5 p0, a, ta)))
set_option maxHeartbeats 4000000 in
set_option maxRecDepth 100000 in
/-- the sun -/
theorem c_X2_sun (l : Launch) (D : va_G) (cI cB : ClassId) (ad : Nat → Nat) (f : Nat → Int32) (a ta : Nat → Nat → Int32) (n z c : Nat) (hX : IX n z c f) (hI : wI 25 ad) (p0 : Int32) : Met l yX2_sun wsX2_sun ({ frames := 1, cells := 0, slots := 0, locals := 22 }) (GPc D cI cB (wX cI ad f a ta) [.ref (ad 0), .int p0]) (va_Qi (fun (r : Int32) (u : SX) => (r, u) = FX2_sun f a ta n z c p0) (fun u t => va_P D vwCl (wX cI ad u.1 u.2.1 u.2.2) t.heap) (wA 25 ad)) 0 0 (wA 25 ad) := by
  refine Met.ofW (cc := cX2_sun) (maxL := 3) (ret := (some .int)) (by decide) rfl ?_
  intro p e s m args below meth cd s₁ B hml hv
  obtain ⟨rfl, hP, hK⟩ := hv
  have hts := atoms_spec (ws := wsX2_sun) B.pre
  have E : CallFix p m cd cX2_sun 3 s _ wsX2_sun RX2 := ⟨B.exec, B.bytes, hml, findClass_of_methodNamed B.named, hts⟩
  have hr := B.returns
  have hlocks := B.notSynchronized
  have h2n := pow6 (n := n) (by have := hX.2.1; omega)
  obtain ⟨hn, hn6, hz, hz21, hc, hc6⟩ := id hX
  have hS : va_S (wA 25 ad) s.heap s.heap [] := va_S.rf
  have in_1 : ∀ w ∈ wsX10, w ∈ wsX2_sun := fun _ h => List.mem_cons_of_mem _ (List.mem_append_right _ h)
  have in_2 : ∀ w ∈ wsX20, w ∈ wsX2_sun := fun _ h => List.mem_cons_of_mem _ (List.mem_append_left _ (List.mem_append_right _ h))
  have w_0 : (Cond.fieldLink RX2 39 "SnowTerm" "sites" "I").before _ s = true := hts _ (by decide +kernel)
  have w_1 : (Cond.fieldLink RX2 26 "SnowTerm" "now" "LSnowTerm$Term;").before _ s = true := hts _ (by decide +kernel)
  have w_2 : (Cond.fieldLink RX2 121 "SnowTerm$Term" "sun" "I").before _ s = true := hts _ (by decide +kernel)
  have hl := lv_entry ([.ref (ad 0), .int p0]) (n := 3) (Nat.le_of_ble_eq_true rfl)
  rw [lg_entry_eq]
  generalize (lg_sl ([.ref (ad 0), .int p0]) ++ List.replicate (3 - (lg_sl ([.ref (ad 0), .int p0])).length) Slot.unset).toArray = ls at hl ⊢
  have hl : lv_has ls 3 [(0, .ref (ad 0)), (1, .int p0)] := hl
  refine lv_iload_n E.1 E.2.1 dX2_sun_0 rfl (lv_at hl 1 rfl) ?_
  refine lv_iconst (v := 0) E.1 E.2.1 dX2_sun_1 (by decide) ?_
  refine lv_bipush (v := 9) E.1 E.2.1 dX2_sun_2 (by decide) ?_
  refine g_SR (As := [.int p0, .int 0, .int 9]) (rest := []) E hK (c_X2_isWithin l D cI cB p0 0 9) (va_cwS 3 E.2.2.2.2 gX2_sun_X2_isWithin rfl rfl rfl (by decide +kernel) ⟨Nat.le_of_ble_eq_true rfl, Nat.le_of_ble_eq_true rfl⟩) rfl hl.1 rfl (Nat.le_of_ble_eq_true rfl) dX2_sun_4 ⟨Nat.zero_le _, Nat.zero_le _⟩ ?_
  refine lv_if_ne (x := FX2_isWithin p0 0 9) (tgt := 13) E.1 E.2.1 dX2_sun_7 (by decide) (fun h7 => ?_) (fun h7 => ?_)
  · have h7 := h7
    refine lv_aload_n E.1 E.2.1 dX2_sun_13 rfl (lv_at hl 0 rfl) ?_
    refine xg_0_7 E hK hP in_2 w_0 dX2_sun_14 ?_
    refine lv_topi (fun y_1 ey_1 => ?_)
    obtain rfl : y_1 = nI n := ey_1.trans (hn)
    refine lv_if_ne (x := nI n) (tgt := 23) E.1 E.2.1 dX2_sun_17 (by decide) (fun h17 => ?_) (fun h17 => ?_)
    · have h17 := h17
      refine lv_aload_n E.1 E.2.1 dX2_sun_23 rfl (lv_at hl 0 rfl) ?_
      refine xg_0_3 E hK hP in_2 w_1 dX2_sun_24 ?_
      refine xg_4_1 E hK hP in_1 w_2 dX2_sun_27 ?_
      refine lv_istore_n (lv' := [(2, .int (f 5)), (0, .ref (ad 0)), (1, .int p0)]) E.1 E.2.1 dX2_sun_30 rfl hl (by decide) rfl (fun ls hl => ?_)
      refine lv_aload_n E.1 E.2.1 dX2_sun_31 rfl (lv_at hl 1 rfl) ?_
      refine xg_0_3 E hK hP in_2 w_1 dX2_sun_32 ?_
      refine lv_iload_n E.1 E.2.1 dX2_sun_35 rfl (lv_at hl 2 rfl) ?_
      refine xp_4_1 (v := p0) E hK hP in_1 w_2 hI hS dX2_sun_36 (fun H locs hP hS => ?_)
      refine lv_iload_n E.1 E.2.1 dX2_sun_39 rfl (lv_at hl 0 rfl) ?_
      exact W.iret (v := f 5) E.1 E.2.1 hr (fun t ht _ => ⟨⟨f 5, (upd f 5 p0, a, ta), rfl, (by rw [FX2_sun, if_neg h7, if_neg h17]), (show va_P D vwCl (wX cI ad (upd f 5 p0) a ta) t.heap from by rw [ht]; exact hP)⟩, hS.F ht⟩) hS.2.2 dX2_sun_40
    · have h17 := h17
      refine lv_bipush (v := (-103)) E.1 E.2.1 dX2_sun_20 (by decide) ?_
      exact W.iret (v := (-103)) E.1 E.2.1 hr (fun t ht _ => ⟨⟨(-103), (f, a, ta), rfl, (by rw [FX2_sun, if_neg h7, if_pos h17]), (show va_P D vwCl (wX cI ad f a ta) t.heap from by rw [ht]; exact hP)⟩, hS.F ht⟩) hS.2.2 dX2_sun_22
  · have h7 := h7
    refine lv_bipush (v := (-102)) E.1 E.2.1 dX2_sun_10 (by decide) ?_
    exact W.iret (v := (-102)) E.1 E.2.1 hr (fun t ht _ => ⟨⟨(-102), (f, a, ta), rfl, (by rw [FX2_sun, if_pos h7]), (show va_P D vwCl (wX cI ad f a ta) t.heap from by rw [ht]; exact hP)⟩, hS.F ht⟩) hS.2.2 dX2_sun_12
def FX2_bring (f : Nat → Int32) (a : Nat → Nat → Int32) (ta : Nat → Nat → Int32) (n : Nat) (z : Nat) (c : Nat) (p0 : Int32) (p1 : Int32) : Int32 × SX := (if FX2_isSite f a ta n z c p0 = 0 then ((-101), f, a, ta) else (if FX2_isWithin p1 1 9 = 0 then ((-102), f, a, ta) else (if (a 12 p0.toNatClampNeg) + p1 ≤ 99 then ((upd (a 9) p0.toNatClampNeg (FX2_deepened (a 9 p0.toNatClampNeg) p1)) p0.toNatClampNeg, upd f 6 ((f 6) + (p1 * (FX2_priceAt p0))), uA (uA a 12 (upd (a 12) p0.toNatClampNeg ((a 12 p0.toNatClampNeg) + p1))) 9 (upd (a 9) p0.toNatClampNeg (FX2_deepened (a 9 p0.toNatClampNeg) p1)), ta) else ((-104), f, a, ta))))
set_option maxHeartbeats 4000000 in
set_option maxRecDepth 100000 in
/-- loads -/
theorem c_X2_bring (l : Launch) (D : va_G) (cI cB : ClassId) (ad : Nat → Nat) (f : Nat → Int32) (a ta : Nat → Nat → Int32) (n z c : Nat) (hX : IX n z c f) (hI : wI 25 ad) (p0 : Int32) (p1 : Int32) : Met l yX2_bring wsX2_bring ({ frames := 2, cells := 0, slots := 0, locals := 34 }) (GPc D cI cB (wX cI ad f a ta) [.ref (ad 0), .int p0, .int p1]) (va_Qi (fun (r : Int32) (u : SX) => (r, u) = FX2_bring f a ta n z c p0 p1) (fun u t => va_P D vwCl (wX cI ad u.1 u.2.1 u.2.2) t.heap) (wA 25 ad)) 0 0 (wA 25 ad) := by
  refine Met.ofW (cc := cX2_bring) (maxL := 3) (ret := (some .int)) (by decide) rfl ?_
  intro p e s m args below meth cd s₁ B hml hv
  obtain ⟨rfl, hP, hK⟩ := hv
  have hts := atoms_spec (ws := wsX2_bring) B.pre
  have E : CallFix p m cd cX2_bring 3 s _ wsX2_bring RX2 := ⟨B.exec, B.bytes, hml, findClass_of_methodNamed B.named, hts⟩
  have hr := B.returns
  have hlocks := B.notSynchronized
  have h2n := pow6 (n := n) (by have := hX.2.1; omega)
  obtain ⟨hn, hn6, hz, hz21, hc, hc6⟩ := id hX
  have hS : va_S (wA 25 ad) s.heap s.heap [] := va_S.rf
  have in_1 : ∀ w ∈ wsX10, w ∈ wsX2_bring := fun _ h => List.mem_cons_of_mem _ (List.mem_append_right _ h)
  have in_2 : ∀ w ∈ wsX20, w ∈ wsX2_bring := fun _ h => List.mem_cons_of_mem _ (List.mem_append_left _ (List.mem_append_right _ h))
  have w_0 : (Cond.fieldLink RX2 26 "SnowTerm" "now" "LSnowTerm$Term;").before _ s = true := hts _ (by decide +kernel)
  have w_1 : (Cond.fieldLink RX2 105 "SnowTerm$Term" "brought" "[I").before _ s = true := hts _ (by decide +kernel)
  have w_2 : (Cond.fieldLink RX2 92 "SnowTerm$Term" "snow" "[I").before _ s = true := hts _ (by decide +kernel)
  have w_3 : (Cond.fieldLink RX2 115 "SnowTerm$Term" "cost" "I").before _ s = true := hts _ (by decide +kernel)
  have hl := lv_entry ([.ref (ad 0), .int p0, .int p1]) (n := 3) (Nat.le_of_ble_eq_true rfl)
  rw [lg_entry_eq]
  generalize (lg_sl ([.ref (ad 0), .int p0, .int p1]) ++ List.replicate (3 - (lg_sl ([.ref (ad 0), .int p0, .int p1])).length) Slot.unset).toArray = ls at hl ⊢
  have hl : lv_has ls 3 [(0, .ref (ad 0)), (1, .int p0), (2, .int p1)] := hl
  refine lv_aload_n E.1 E.2.1 dX2_bring_0 rfl (lv_at hl 0 rfl) ?_
  refine lv_iload_n E.1 E.2.1 dX2_bring_1 rfl (lv_at hl 1 rfl) ?_
  refine g_VR (As := [.int p0]) (rest := []) E hK hP (c_X2_isSite l D cI cB ad f a ta n z c hX p0) (cwV 1 E.2.2.2.2 gX2_bring_X2_isSite rfl rfl rfl (by decide +kernel) ⟨Nat.le_of_ble_eq_true rfl, Nat.le_of_ble_eq_true rfl⟩) (rx hK hP) rfl hl.1 rfl (Nat.le_of_ble_eq_true rfl) dX2_bring_2 ⟨Nat.zero_le _, Nat.zero_le _⟩ ?_
  refine lv_if_ne (x := FX2_isSite f a ta n z c p0) (tgt := 11) E.1 E.2.1 dX2_bring_5 (by decide) (fun h5 => ?_) (fun h5 => ?_)
  · have h5 := h5
    refine lv_iload_n E.1 E.2.1 dX2_bring_11 rfl (lv_at hl 2 rfl) ?_
    refine lv_iconst (v := 1) E.1 E.2.1 dX2_bring_12 (by decide) ?_
    refine lv_bipush (v := 9) E.1 E.2.1 dX2_bring_13 (by decide) ?_
    refine g_SR (As := [.int p1, .int 1, .int 9]) (rest := []) E hK (c_X2_isWithin l D cI cB p1 1 9) (va_cwS 3 E.2.2.2.2 gX2_bring_X2_isWithin rfl rfl rfl (by decide +kernel) ⟨Nat.le_of_ble_eq_true rfl, Nat.le_of_ble_eq_true rfl⟩) rfl hl.1 rfl (Nat.le_of_ble_eq_true rfl) dX2_bring_15 ⟨Nat.zero_le _, Nat.zero_le _⟩ ?_
    refine lv_if_ne (x := FX2_isWithin p1 1 9) (tgt := 24) E.1 E.2.1 dX2_bring_18 (by decide) (fun h18 => ?_) (fun h18 => ?_)
    · have h18 := h18
      refine lv_aload_n E.1 E.2.1 dX2_bring_24 rfl (lv_at hl 0 rfl) ?_
      refine xg_0_3 E hK hP in_2 w_0 dX2_bring_25 ?_
      refine xg_4_7 E hK hP in_1 w_1 dX2_bring_28 ?_
      refine lv_iload_n E.1 E.2.1 dX2_bring_31 rfl (lv_at hl 1 rfl) ?_
      refine xl_12 (i := p0) E hK hP (site_X hX h5) dX2_bring_32 ?_
      refine lv_iload_n E.1 E.2.1 dX2_bring_33 rfl (lv_at hl 2 rfl) ?_
      refine lv_iadd (x := a 12 p0.toNatClampNeg) (y := p1) E.1 E.2.1 dX2_bring_34 ?_
      refine lv_bipush (v := 99) E.1 E.2.1 dX2_bring_35 (by decide) ?_
      refine lv_icmp_le (x := (a 12 p0.toNatClampNeg) + p1) (y := 99) (tgt := 43) E.1 E.2.1 dX2_bring_37 (by decide) (fun h37 => ?_) (fun h37 => ?_)
      · have h37 := h37
        refine lv_aload_n E.1 E.2.1 dX2_bring_43 rfl (lv_at hl 0 rfl) ?_
        refine xg_0_3 E hK hP in_2 w_0 dX2_bring_44 ?_
        refine xg_4_7 E hK hP in_1 w_1 dX2_bring_47 ?_
        refine lv_iload_n E.1 E.2.1 dX2_bring_50 rfl (lv_at hl 1 rfl) ?_
        refine lv_dup2_11 E.1 E.2.1 dX2_bring_51 rfl rfl ?_
        refine xl_12 (i := p0) E hK hP (site_X hX h5) dX2_bring_52 ?_
        refine lv_iload_n E.1 E.2.1 dX2_bring_53 rfl (lv_at hl 2 rfl) ?_
        refine lv_iadd (x := a 12 p0.toNatClampNeg) (y := p1) E.1 E.2.1 dX2_bring_54 ?_
        refine xs_12 (v := (a 12 p0.toNatClampNeg) + p1) (i := p0) E hK hP hI hS (site_X hX h5) dX2_bring_55 (fun H locs hP hS => ?_)
        have hP : va_P D vwCl (wX cI ad f (uA a 12 (upd (a 12) p0.toNatClampNeg ((a 12 p0.toNatClampNeg) + p1))) ta) H := hP
        refine lv_aload_n E.1 E.2.1 dX2_bring_56 rfl (lv_at hl 0 rfl) ?_
        refine xg_0_3 E hK hP in_2 w_0 dX2_bring_57 ?_
        refine xg_4_4 E hK hP in_1 w_2 dX2_bring_60 ?_
        refine lv_iload_n E.1 E.2.1 dX2_bring_63 rfl (lv_at hl 1 rfl) ?_
        refine lv_aload_n E.1 E.2.1 dX2_bring_64 rfl (lv_at hl 0 rfl) ?_
        refine xg_0_3 E hK hP in_2 w_0 dX2_bring_65 ?_
        refine xg_4_4 E hK hP in_1 w_2 dX2_bring_68 ?_
        refine lv_iload_n E.1 E.2.1 dX2_bring_71 rfl (lv_at hl 1 rfl) ?_
        refine xl_9 (i := p0) E hK hP (site_X hX h5) dX2_bring_72 ?_
        refine lv_topi (fun y_1 ey_1 => ?_)
        obtain rfl : y_1 = a 9 p0.toNatClampNeg := ey_1.trans (rfl)
        refine lv_iload_n E.1 E.2.1 dX2_bring_73 rfl (lv_at hl 2 rfl) ?_
        refine g_SR (As := [.int (a 9 p0.toNatClampNeg), .int p1]) (rest := [.int p0, .ref (ad 9)]) E hK (c_X2_deepened l D cI cB (a 9 p0.toNatClampNeg) p1) (va_cwS 2 E.2.2.2.2 gX2_bring_X2_deepened rfl rfl rfl (by decide +kernel) ⟨Nat.le_of_ble_eq_true rfl, Nat.le_of_ble_eq_true rfl⟩) rfl hl.1 rfl (Nat.le_of_ble_eq_true rfl) dX2_bring_74 ⟨Nat.zero_le _, Nat.zero_le _⟩ ?_
        refine xs_9 (v := FX2_deepened (a 9 p0.toNatClampNeg) p1) (i := p0) E hK hP hI hS (site_X hX h5) dX2_bring_77 (fun H locs hP hS => ?_)
        have hP : va_P D vwCl (wX cI ad f (uA (uA a 12 (upd (a 12) p0.toNatClampNeg ((a 12 p0.toNatClampNeg) + p1))) 9 (upd (a 9) p0.toNatClampNeg (FX2_deepened (a 9 p0.toNatClampNeg) p1))) ta) H := hP
        refine lv_aload_n E.1 E.2.1 dX2_bring_78 rfl (lv_at hl 0 rfl) ?_
        refine xg_0_3 E hK hP in_2 w_0 dX2_bring_79 ?_
        refine lv_dup E.1 E.2.1 dX2_bring_82 rfl ?_
        refine xg_4_2 E hK hP in_1 w_3 dX2_bring_83 ?_
        refine lv_iload_n E.1 E.2.1 dX2_bring_86 rfl (lv_at hl 2 rfl) ?_
        refine lv_iload_n E.1 E.2.1 dX2_bring_87 rfl (lv_at hl 1 rfl) ?_
        refine g_SR (As := [.int p0]) (rest := [.int p1, .int (f 6), .ref (ad 4)]) E hK (c_X2_priceAt l D cI cB p0) (va_cwS 1 E.2.2.2.2 gX2_bring_X2_priceAt rfl rfl rfl (by decide +kernel) ⟨Nat.le_of_ble_eq_true rfl, Nat.le_of_ble_eq_true rfl⟩) rfl hl.1 rfl (Nat.le_of_ble_eq_true rfl) dX2_bring_88 ⟨Nat.zero_le _, Nat.zero_le _⟩ ?_
        refine lv_imul (x := p1) (y := FX2_priceAt p0) E.1 E.2.1 dX2_bring_91 ?_
        refine lv_iadd (x := f 6) (y := p1 * (FX2_priceAt p0)) E.1 E.2.1 dX2_bring_92 ?_
        refine xp_4_2 (v := (f 6) + (p1 * (FX2_priceAt p0))) E hK hP in_1 w_3 hI hS dX2_bring_93 (fun H locs hP hS => ?_)
        refine lv_aload_n E.1 E.2.1 dX2_bring_96 rfl (lv_at hl 0 rfl) ?_
        refine xg_0_3 E hK hP in_2 w_0 dX2_bring_97 ?_
        refine xg_4_4 E hK hP in_1 w_2 dX2_bring_100 ?_
        refine lv_iload_n E.1 E.2.1 dX2_bring_103 rfl (lv_at hl 1 rfl) ?_
        refine xl_9 (i := p0) E hK hP (site_X hX h5) dX2_bring_104 ?_
        refine lv_topi (fun y_2 ey_2 => ?_)
        obtain rfl : y_2 = (upd (a 9) p0.toNatClampNeg (FX2_deepened (a 9 p0.toNatClampNeg) p1)) p0.toNatClampNeg := ey_2.trans (rfl)
        exact W.iret (v := (upd (a 9) p0.toNatClampNeg (FX2_deepened (a 9 p0.toNatClampNeg) p1)) p0.toNatClampNeg) E.1 E.2.1 hr (fun t ht _ => ⟨⟨(upd (a 9) p0.toNatClampNeg (FX2_deepened (a 9 p0.toNatClampNeg) p1)) p0.toNatClampNeg, (upd f 6 ((f 6) + (p1 * (FX2_priceAt p0))), uA (uA a 12 (upd (a 12) p0.toNatClampNeg ((a 12 p0.toNatClampNeg) + p1))) 9 (upd (a 9) p0.toNatClampNeg (FX2_deepened (a 9 p0.toNatClampNeg) p1)), ta), rfl, (by rw [FX2_bring, if_neg h5, if_neg h18, if_pos h37]), (show va_P D vwCl (wX cI ad (upd f 6 ((f 6) + (p1 * (FX2_priceAt p0)))) (uA (uA a 12 (upd (a 12) p0.toNatClampNeg ((a 12 p0.toNatClampNeg) + p1))) 9 (upd (a 9) p0.toNatClampNeg (FX2_deepened (a 9 p0.toNatClampNeg) p1))) ta) t.heap from by rw [ht]; exact hP)⟩, hS.F ht⟩) hS.2.2 dX2_bring_105
      · have h37 := h37
        refine lv_bipush (v := (-104)) E.1 E.2.1 dX2_bring_40 (by decide) ?_
        exact W.iret (v := (-104)) E.1 E.2.1 hr (fun t ht _ => ⟨⟨(-104), (f, a, ta), rfl, (by rw [FX2_bring, if_neg h5, if_neg h18, if_neg h37]), (show va_P D vwCl (wX cI ad f a ta) t.heap from by rw [ht]; exact hP)⟩, hS.F ht⟩) hS.2.2 dX2_bring_42
    · have h18 := h18
      refine lv_bipush (v := (-102)) E.1 E.2.1 dX2_bring_21 (by decide) ?_
      exact W.iret (v := (-102)) E.1 E.2.1 hr (fun t ht _ => ⟨⟨(-102), (f, a, ta), rfl, (by rw [FX2_bring, if_neg h5, if_pos h18]), (show va_P D vwCl (wX cI ad f a ta) t.heap from by rw [ht]; exact hP)⟩, hS.F ht⟩) hS.2.2 dX2_bring_23
  · have h5 := h5
    refine lv_bipush (v := (-101)) E.1 E.2.1 dX2_bring_8 (by decide) ?_
    exact W.iret (v := (-101)) E.1 E.2.1 hr (fun t ht _ => ⟨⟨(-101), (f, a, ta), rfl, (by rw [FX2_bring, if_pos h5]), (show va_P D vwCl (wX cI ad f a ta) t.heap from by rw [ht]; exact hP)⟩, hS.F ht⟩) hS.2.2 dX2_bring_10
def FX2_forget (f : Nat → Int32) (a : Nat → Nat → Int32) (ta : Nat → Nat → Int32) (n : Nat) (z : Nat) (c : Nat) : Int32 × SX := (nI c, upd f 8 0, a, ta)
set_option maxHeartbeats 4000000 in
set_option maxRecDepth 100000 in
/-- nothing found -/
theorem c_X2_forget (l : Launch) (D : va_G) (cI cB : ClassId) (ad : Nat → Nat) (f : Nat → Int32) (a ta : Nat → Nat → Int32) (n z c : Nat) (hX : IX n z c f) (hI : wI 25 ad)  : Met l yX2_forget wsX2_forget ({ frames := 0, cells := 0, slots := 0, locals := 0 }) (GPc D cI cB (wX cI ad f a ta) [.ref (ad 0)]) (va_Qi (fun (r : Int32) (u : SX) => (r, u) = FX2_forget f a ta n z c) (fun u t => va_P D vwCl (wX cI ad u.1 u.2.1 u.2.2) t.heap) (wA 25 ad)) 0 0 (wA 25 ad) := by
  refine Met.ofW (cc := cX2_forget) (maxL := 2) (ret := (some .int)) (by decide) rfl ?_
  intro p e s m args below meth cd s₁ B hml hv
  obtain ⟨rfl, hP, hK⟩ := hv
  have hts := atoms_spec (ws := wsX2_forget) B.pre
  have E : CallFix p m cd cX2_forget 2 s _ wsX2_forget RX2 := ⟨B.exec, B.bytes, hml, findClass_of_methodNamed B.named, hts⟩
  have hr := B.returns
  have hlocks := B.notSynchronized
  have h2n := pow6 (n := n) (by have := hX.2.1; omega)
  obtain ⟨hn, hn6, hz, hz21, hc, hc6⟩ := id hX
  have hS : va_S (wA 25 ad) s.heap s.heap [] := va_S.rf
  have in_1 : ∀ w ∈ wsX10, w ∈ wsX2_forget := fun _ h => List.mem_cons_of_mem _ (List.mem_append_right _ h)
  have in_2 : ∀ w ∈ wsX20, w ∈ wsX2_forget := fun _ h => List.mem_cons_of_mem _ (List.mem_append_left _ (List.mem_append_right _ h))
  have w_0 : (Cond.fieldLink RX2 26 "SnowTerm" "now" "LSnowTerm$Term;").before _ s = true := hts _ (by decide +kernel)
  have w_1 : (Cond.fieldLink RX2 161 "SnowTerm$Term" "foundCount" "I").before _ s = true := hts _ (by decide +kernel)
  have hl := lv_entry ([.ref (ad 0)]) (n := 2) (Nat.le_of_ble_eq_true rfl)
  rw [lg_entry_eq]
  generalize (lg_sl ([.ref (ad 0)]) ++ List.replicate (2 - (lg_sl ([.ref (ad 0)])).length) Slot.unset).toArray = ls at hl ⊢
  have hl : lv_has ls 2 [(0, .ref (ad 0))] := hl
  refine lv_aload_n E.1 E.2.1 dX2_forget_0 rfl (lv_at hl 0 rfl) ?_
  refine xg_0_3 E hK hP in_2 w_0 dX2_forget_1 ?_
  refine xg_4_12 E hK hP in_1 w_1 dX2_forget_4 ?_
  refine lv_topi (fun y_1 ey_1 => ?_)
  obtain rfl : y_1 = nI c := ey_1.trans (hc)
  refine lv_istore_n (lv' := [(1, .int (nI c)), (0, .ref (ad 0))]) E.1 E.2.1 dX2_forget_7 rfl hl (by decide) rfl (fun ls hl => ?_)
  refine lv_aload_n E.1 E.2.1 dX2_forget_8 rfl (lv_at hl 1 rfl) ?_
  refine xg_0_3 E hK hP in_2 w_0 dX2_forget_9 ?_
  refine lv_iconst (v := 0) E.1 E.2.1 dX2_forget_12 (by decide) ?_
  refine xp_4_12 (v := 0) E hK hP in_1 w_1 hI hS dX2_forget_13 (fun H locs hP hS => ?_)
  refine lv_iload_n E.1 E.2.1 dX2_forget_16 rfl (lv_at hl 0 rfl) ?_
  exact W.iret (v := nI c) E.1 E.2.1 hr (fun t ht _ => ⟨⟨nI c, (upd f 8 0, a, ta), rfl, (by rw [FX2_forget]), (show va_P D vwCl (wX cI ad (upd f 8 0) a ta) t.heap from by rw [ht]; exact hP)⟩, hS.F ht⟩) hS.2.2 dX2_forget_17
def FX1_addFound (f : Nat → Int32) (a : Nat → Nat → Int32) (ta : Nat → Nat → Int32) (n : Nat) (z : Nat) (c : Nat) (p0 : Int32) (p1 : Int32) (p2 : Int32) (p3 : Int32) : Int32 × SX := (if nI c < 6 then (1, upd f 8 (nI (c + 1)), uA (uA (uA (uA a 13 (upd (a 13) c p0)) 14 (upd (a 14) c p1)) 15 (upd (a 15) c p2)) 16 (upd (a 16) c p3), ta) else (0, f, a, ta))
set_option maxHeartbeats 4000000 in
set_option maxRecDepth 100000 in
/-- one more found -/
theorem c_X1_addFound (l : Launch) (D : va_G) (cI cB : ClassId) (ad : Nat → Nat) (f : Nat → Int32) (a ta : Nat → Nat → Int32) (n z c : Nat) (hX : IX n z c f) (hI : wI 25 ad) (p0 : Int32) (p1 : Int32) (p2 : Int32) (p3 : Int32) : Met l yX1_addFound wsX1_addFound ({ frames := 0, cells := 0, slots := 0, locals := 0 }) (GPc D cI cB (wX cI ad f a ta) [.ref (ad 4), .int p0, .int p1, .int p2, .int p3]) (va_Qi (fun (r : Int32) (u : SX) => (r, u) = FX1_addFound f a ta n z c p0 p1 p2 p3) (fun u t => va_P D vwCl (wX cI ad u.1 u.2.1 u.2.2) t.heap) (wA 25 ad)) 0 0 (wA 25 ad) := by
  refine Met.ofW (cc := cX1_addFound) (maxL := 5) (ret := (some .boolean)) (by decide) rfl ?_
  intro p e s m args below meth cd s₁ B hml hv
  obtain ⟨rfl, hP, hK⟩ := hv
  have hts := atoms_spec (ws := wsX1_addFound) B.pre
  have E : CallFix p m cd cX1_addFound 5 s _ wsX1_addFound RX1 := ⟨B.exec, B.bytes, hml, findClass_of_methodNamed B.named, hts⟩
  have hr := B.returns
  have hlocks := B.notSynchronized
  have h2n := pow6 (n := n) (by have := hX.2.1; omega)
  obtain ⟨hn, hn6, hz, hz21, hc, hc6⟩ := id hX
  have hS : va_S (wA 25 ad) s.heap s.heap [] := va_S.rf
  have in_1 : ∀ w ∈ wsX10, w ∈ wsX1_addFound := fun _ h => List.mem_cons_of_mem _ (List.mem_append_right _ h)
  have w_0 : (Cond.fieldLink RX1 49 "SnowTerm$Term" "foundCount" "I").before _ s = true := hts _ (by decide +kernel)
  have w_1 : (Cond.fieldLink RX1 24 "SnowTerm$Term" "foundKind" "[I").before _ s = true := hts _ (by decide +kernel)
  have w_2 : (Cond.fieldLink RX1 27 "SnowTerm$Term" "foundFeet" "[I").before _ s = true := hts _ (by decide +kernel)
  have w_3 : (Cond.fieldLink RX1 30 "SnowTerm$Term" "foundDeep" "[I").before _ s = true := hts _ (by decide +kernel)
  have w_4 : (Cond.fieldLink RX1 33 "SnowTerm$Term" "foundLeft" "[I").before _ s = true := hts _ (by decide +kernel)
  have hl := lv_entry ([.ref (ad 4), .int p0, .int p1, .int p2, .int p3]) (n := 5) (Nat.le_of_ble_eq_true rfl)
  rw [lg_entry_eq]
  generalize (lg_sl ([.ref (ad 4), .int p0, .int p1, .int p2, .int p3]) ++ List.replicate (5 - (lg_sl ([.ref (ad 4), .int p0, .int p1, .int p2, .int p3])).length) Slot.unset).toArray = ls at hl ⊢
  have hl : lv_has ls 5 [(0, .ref (ad 4)), (1, .int p0), (2, .int p1), (3, .int p2), (4, .int p3)] := hl
  refine lv_aload_n E.1 E.2.1 dX1_addFound_0 rfl (lv_at hl 0 rfl) ?_
  refine xg_4_12 E hK hP in_1 w_0 dX1_addFound_1 ?_
  refine lv_topi (fun y_1 ey_1 => ?_)
  obtain rfl : y_1 = nI c := ey_1.trans (hc)
  refine lv_if_lt (x := nI c) (tgt := 16) E.1 E.2.1 dX1_addFound_4 (by decide) (fun h9 => absurd h9 (nI_pos (by omega))) (fun _ => ?_)
  refine lv_aload_n E.1 E.2.1 dX1_addFound_7 rfl (lv_at hl 0 rfl) ?_
  refine xg_4_12 E hK hP in_1 w_0 dX1_addFound_8 ?_
  refine lv_topi (fun y_2 ey_2 => ?_)
  obtain rfl : y_2 = nI c := ey_2.trans (hc)
  refine lv_bipush (v := 6) E.1 E.2.1 dX1_addFound_11 (by decide) ?_
  refine lv_icmp_lt (x := nI c) (y := 6) (tgt := 18) E.1 E.2.1 dX1_addFound_13 (by decide) (fun h13 => ?_) (fun h13 => ?_)
  · have h13 := h13
    refine lv_aload_n E.1 E.2.1 dX1_addFound_18 rfl (lv_at hl 0 rfl) ?_
    refine xg_4_8 E hK hP in_1 w_1 dX1_addFound_19 ?_
    refine lv_aload_n E.1 E.2.1 dX1_addFound_22 rfl (lv_at hl 0 rfl) ?_
    refine xg_4_12 E hK hP in_1 w_0 dX1_addFound_23 ?_
    refine lv_topi (fun y_3 ey_3 => ?_)
    obtain rfl : y_3 = nI c := ey_3.trans (hc)
    refine lv_iload_n E.1 E.2.1 dX1_addFound_26 rfl (lv_at hl 1 rfl) ?_
    refine xs_13 (v := p0) (i := nI c) E hK hP hI hS (vp_in_nI ((nI_ltI (a := c) (b := 6) (by omega) (by omega)).mp h13) (by omega)) dX1_addFound_27 (fun H locs hP hS => ?_)
    rw [nI_clamp (show c < 2 ^ 31 by omega)] at hP
    have hP : va_P D vwCl (wX cI ad f (uA a 13 (upd (a 13) c p0)) ta) H := hP
    refine lv_aload_n E.1 E.2.1 dX1_addFound_28 rfl (lv_at hl 0 rfl) ?_
    refine xg_4_9 E hK hP in_1 w_2 dX1_addFound_29 ?_
    refine lv_aload_n E.1 E.2.1 dX1_addFound_32 rfl (lv_at hl 0 rfl) ?_
    refine xg_4_12 E hK hP in_1 w_0 dX1_addFound_33 ?_
    refine lv_topi (fun y_4 ey_4 => ?_)
    obtain rfl : y_4 = nI c := ey_4.trans (hc)
    refine lv_iload_n E.1 E.2.1 dX1_addFound_36 rfl (lv_at hl 2 rfl) ?_
    refine xs_14 (v := p1) (i := nI c) E hK hP hI hS (vp_in_nI ((nI_ltI (a := c) (b := 6) (by omega) (by omega)).mp h13) (by omega)) dX1_addFound_37 (fun H locs hP hS => ?_)
    rw [nI_clamp (show c < 2 ^ 31 by omega)] at hP
    have hP : va_P D vwCl (wX cI ad f (uA (uA a 13 (upd (a 13) c p0)) 14 (upd (a 14) c p1)) ta) H := hP
    refine lv_aload_n E.1 E.2.1 dX1_addFound_38 rfl (lv_at hl 0 rfl) ?_
    refine xg_4_10 E hK hP in_1 w_3 dX1_addFound_39 ?_
    refine lv_aload_n E.1 E.2.1 dX1_addFound_42 rfl (lv_at hl 0 rfl) ?_
    refine xg_4_12 E hK hP in_1 w_0 dX1_addFound_43 ?_
    refine lv_topi (fun y_5 ey_5 => ?_)
    obtain rfl : y_5 = nI c := ey_5.trans (hc)
    refine lv_iload_n E.1 E.2.1 dX1_addFound_46 rfl (lv_at hl 3 rfl) ?_
    refine xs_15 (v := p2) (i := nI c) E hK hP hI hS (vp_in_nI ((nI_ltI (a := c) (b := 6) (by omega) (by omega)).mp h13) (by omega)) dX1_addFound_47 (fun H locs hP hS => ?_)
    rw [nI_clamp (show c < 2 ^ 31 by omega)] at hP
    have hP : va_P D vwCl (wX cI ad f (uA (uA (uA a 13 (upd (a 13) c p0)) 14 (upd (a 14) c p1)) 15 (upd (a 15) c p2)) ta) H := hP
    refine lv_aload_n E.1 E.2.1 dX1_addFound_48 rfl (lv_at hl 0 rfl) ?_
    refine xg_4_11 E hK hP in_1 w_4 dX1_addFound_49 ?_
    refine lv_aload_n E.1 E.2.1 dX1_addFound_52 rfl (lv_at hl 0 rfl) ?_
    refine xg_4_12 E hK hP in_1 w_0 dX1_addFound_53 ?_
    refine lv_topi (fun y_6 ey_6 => ?_)
    obtain rfl : y_6 = nI c := ey_6.trans (hc)
    refine lv_iload E.1 E.2.1 dX1_addFound_56 (lv_at hl 4 rfl) ?_
    refine xs_16 (v := p3) (i := nI c) E hK hP hI hS (vp_in_nI ((nI_ltI (a := c) (b := 6) (by omega) (by omega)).mp h13) (by omega)) dX1_addFound_58 (fun H locs hP hS => ?_)
    rw [nI_clamp (show c < 2 ^ 31 by omega)] at hP
    have hP : va_P D vwCl (wX cI ad f (uA (uA (uA (uA a 13 (upd (a 13) c p0)) 14 (upd (a 14) c p1)) 15 (upd (a 15) c p2)) 16 (upd (a 16) c p3)) ta) H := hP
    refine lv_aload_n E.1 E.2.1 dX1_addFound_59 rfl (lv_at hl 0 rfl) ?_
    refine lv_dup E.1 E.2.1 dX1_addFound_60 rfl ?_
    refine xg_4_12 E hK hP in_1 w_0 dX1_addFound_61 ?_
    refine lv_topi (fun y_7 ey_7 => ?_)
    obtain rfl : y_7 = nI c := ey_7.trans (hc)
    refine lv_iconst (v := 1) E.1 E.2.1 dX1_addFound_64 (by decide) ?_
    refine lv_iadd (x := nI c) (y := 1) E.1 E.2.1 dX1_addFound_65 ?_
    refine lv_topi (fun y_8 ey_8 => ?_)
    obtain rfl : y_8 = nI (c + 1) := ey_8.trans (nI_1 c)
    refine xp_4_12 (v := nI (c + 1)) E hK hP in_1 w_0 hI hS dX1_addFound_66 (fun H locs hP hS => ?_)
    refine lv_iconst (v := 1) E.1 E.2.1 dX1_addFound_69 (by decide) ?_
    exact W.zret (v := 1) E.1 E.2.1 hr rfl (fun t ht _ => ⟨⟨1, (upd f 8 (nI (c + 1)), uA (uA (uA (uA a 13 (upd (a 13) c p0)) 14 (upd (a 14) c p1)) 15 (upd (a 15) c p2)) 16 (upd (a 16) c p3), ta), rfl, (by rw [FX1_addFound, if_pos h13]), (show va_P D vwCl (wX cI ad (upd f 8 (nI (c + 1))) (uA (uA (uA (uA a 13 (upd (a 13) c p0)) 14 (upd (a 14) c p1)) 15 (upd (a 15) c p2)) 16 (upd (a 16) c p3)) ta) t.heap from by rw [ht]; exact hP)⟩, hS.F ht⟩) hS.2.2 dX1_addFound_70
  · have h13 := h13
    refine lv_iconst (v := 0) E.1 E.2.1 dX1_addFound_16 (by decide) ?_
    exact W.zret (v := 0) E.1 E.2.1 hr rfl (fun t ht _ => ⟨⟨0, (f, a, ta), rfl, (by rw [FX1_addFound, if_neg h13]), (show va_P D vwCl (wX cI ad f a ta) t.heap from by rw [ht]; exact hP)⟩, hS.F ht⟩) hS.2.2 dX1_addFound_17
def FX2_found (f : Nat → Int32) (a : Nat → Nat → Int32) (ta : Nat → Nat → Int32) (n : Nat) (z : Nat) (c : Nat) (p0 : Int32) (p1 : Int32) (p2 : Int32) : Int32 × SX := (if FX2_isSite f a ta n z c p0 = 0 then ((-101), f, a, ta) else (if FX2_isWithin p1 0 30 = 0 then ((-102), f, a, ta) else (if FX2_isWithin p2 0 30 = 0 then ((-102), f, a, ta) else (if (FX1_addFound f a ta n z c (a 2 p0.toNatClampNeg) (a 11 p0.toNatClampNeg) p1 p2).1 = 0 then ((-104), (FX1_addFound f a ta n z c (a 2 p0.toNatClampNeg) (a 11 p0.toNatClampNeg) p1 p2).2.1, (FX1_addFound f a ta n z c (a 2 p0.toNatClampNeg) (a 11 p0.toNatClampNeg) p1 p2).2.2.1, (FX1_addFound f a ta n z c (a 2 p0.toNatClampNeg) (a 11 p0.toNatClampNeg) p1 p2).2.2.2) else (((FX1_addFound f a ta n z c (a 2 p0.toNatClampNeg) (a 11 p0.toNatClampNeg) p1 p2).2.1) 8, (FX1_addFound f a ta n z c (a 2 p0.toNatClampNeg) (a 11 p0.toNatClampNeg) p1 p2).2.1, (FX1_addFound f a ta n z c (a 2 p0.toNatClampNeg) (a 11 p0.toNatClampNeg) p1 p2).2.2.1, (FX1_addFound f a ta n z c (a 2 p0.toNatClampNeg) (a 11 p0.toNatClampNeg) p1 p2).2.2.2)))))
set_option maxHeartbeats 4000000 in
set_option maxRecDepth 100000 in
/-- found -/
theorem c_X2_found (l : Launch) (D : va_G) (cI cB : ClassId) (ad : Nat → Nat) (f : Nat → Int32) (a ta : Nat → Nat → Int32) (n z c : Nat) (hX : IX n z c f) (hI : wI 25 ad) (p0 : Int32) (p1 : Int32) (p2 : Int32) : Met l yX2_found wsX2_found ({ frames := 1, cells := 0, slots := 0, locals := 24 }) (GPc D cI cB (wX cI ad f a ta) [.ref (ad 0), .int p0, .int p1, .int p2]) (va_Qi (fun (r : Int32) (u : SX) => (r, u) = FX2_found f a ta n z c p0 p1 p2) (fun u t => va_P D vwCl (wX cI ad u.1 u.2.1 u.2.2) t.heap) (wA 25 ad)) 0 0 (wA 25 ad) := by
  refine Met.ofW (cc := cX2_found) (maxL := 4) (ret := (some .int)) (by decide) rfl ?_
  intro p e s m args below meth cd s₁ B hml hv
  obtain ⟨rfl, hP, hK⟩ := hv
  have hts := atoms_spec (ws := wsX2_found) B.pre
  have E : CallFix p m cd cX2_found 4 s _ wsX2_found RX2 := ⟨B.exec, B.bytes, hml, findClass_of_methodNamed B.named, hts⟩
  have hr := B.returns
  have hlocks := B.notSynchronized
  have h2n := pow6 (n := n) (by have := hX.2.1; omega)
  obtain ⟨hn, hn6, hz, hz21, hc, hc6⟩ := id hX
  have hS : va_S (wA 25 ad) s.heap s.heap [] := va_S.rf
  have in_1 : ∀ w ∈ wsX10, w ∈ wsX2_found := fun _ h => List.mem_cons_of_mem _ (List.mem_append_right _ h)
  have in_2 : ∀ w ∈ wsX20, w ∈ wsX2_found := fun _ h => List.mem_cons_of_mem _ (List.mem_append_left _ (List.mem_append_right _ h))
  have w_0 : (Cond.fieldLink RX2 26 "SnowTerm" "now" "LSnowTerm$Term;").before _ s = true := hts _ (by decide +kernel)
  have w_1 : (Cond.fieldLink RX2 16 "SnowTerm" "kinds" "[I").before _ s = true := hts _ (by decide +kernel)
  have w_2 : (Cond.fieldLink RX2 95 "SnowTerm$Term" "feet" "[I").before _ s = true := hts _ (by decide +kernel)
  have w_3 : (Cond.fieldLink RX2 161 "SnowTerm$Term" "foundCount" "I").before _ s = true := hts _ (by decide +kernel)
  have hl := lv_entry ([.ref (ad 0), .int p0, .int p1, .int p2]) (n := 4) (Nat.le_of_ble_eq_true rfl)
  rw [lg_entry_eq]
  generalize (lg_sl ([.ref (ad 0), .int p0, .int p1, .int p2]) ++ List.replicate (4 - (lg_sl ([.ref (ad 0), .int p0, .int p1, .int p2])).length) Slot.unset).toArray = ls at hl ⊢
  have hl : lv_has ls 4 [(0, .ref (ad 0)), (1, .int p0), (2, .int p1), (3, .int p2)] := hl
  refine lv_aload_n E.1 E.2.1 dX2_found_0 rfl (lv_at hl 0 rfl) ?_
  refine lv_iload_n E.1 E.2.1 dX2_found_1 rfl (lv_at hl 1 rfl) ?_
  refine g_VR (As := [.int p0]) (rest := []) E hK hP (c_X2_isSite l D cI cB ad f a ta n z c hX p0) (cwV 1 E.2.2.2.2 gX2_found_X2_isSite rfl rfl rfl (by decide +kernel) ⟨Nat.le_of_ble_eq_true rfl, Nat.le_of_ble_eq_true rfl⟩) (rx hK hP) rfl hl.1 rfl (Nat.le_of_ble_eq_true rfl) dX2_found_2 ⟨Nat.zero_le _, Nat.zero_le _⟩ ?_
  refine lv_if_ne (x := FX2_isSite f a ta n z c p0) (tgt := 11) E.1 E.2.1 dX2_found_5 (by decide) (fun h5 => ?_) (fun h5 => ?_)
  · have h5 := h5
    refine lv_iload_n E.1 E.2.1 dX2_found_11 rfl (lv_at hl 2 rfl) ?_
    refine lv_iconst (v := 0) E.1 E.2.1 dX2_found_12 (by decide) ?_
    refine lv_bipush (v := 30) E.1 E.2.1 dX2_found_13 (by decide) ?_
    refine g_SR (As := [.int p1, .int 0, .int 30]) (rest := []) E hK (c_X2_isWithin l D cI cB p1 0 30) (va_cwS 3 E.2.2.2.2 gX2_found_X2_isWithin rfl rfl rfl (by decide +kernel) ⟨Nat.le_of_ble_eq_true rfl, Nat.le_of_ble_eq_true rfl⟩) rfl hl.1 rfl (Nat.le_of_ble_eq_true rfl) dX2_found_15 ⟨Nat.zero_le _, Nat.zero_le _⟩ ?_
    refine lv_if_eq (x := FX2_isWithin p1 0 30) (tgt := 31) E.1 E.2.1 dX2_found_18 (by decide) (fun h18 => ?_) (fun h18 => ?_)
    · have h18 := h18
      refine lv_bipush (v := (-102)) E.1 E.2.1 dX2_found_31 (by decide) ?_
      exact W.iret (v := (-102)) E.1 E.2.1 hr (fun t ht _ => ⟨⟨(-102), (f, a, ta), rfl, (by rw [FX2_found, if_neg h5, if_pos h18]), (show va_P D vwCl (wX cI ad f a ta) t.heap from by rw [ht]; exact hP)⟩, hS.F ht⟩) hS.2.2 dX2_found_33
    · have h18 := h18
      refine lv_iload_n E.1 E.2.1 dX2_found_21 rfl (lv_at hl 3 rfl) ?_
      refine lv_iconst (v := 0) E.1 E.2.1 dX2_found_22 (by decide) ?_
      refine lv_bipush (v := 30) E.1 E.2.1 dX2_found_23 (by decide) ?_
      refine g_SR (As := [.int p2, .int 0, .int 30]) (rest := []) E hK (c_X2_isWithin l D cI cB p2 0 30) (va_cwS 3 E.2.2.2.2 gX2_found_X2_isWithin rfl rfl rfl (by decide +kernel) ⟨Nat.le_of_ble_eq_true rfl, Nat.le_of_ble_eq_true rfl⟩) rfl hl.1 rfl (Nat.le_of_ble_eq_true rfl) dX2_found_25 ⟨Nat.zero_le _, Nat.zero_le _⟩ ?_
      refine lv_if_ne (x := FX2_isWithin p2 0 30) (tgt := 34) E.1 E.2.1 dX2_found_28 (by decide) (fun h28 => ?_) (fun h28 => ?_)
      · have h28 := h28
        refine lv_aload_n E.1 E.2.1 dX2_found_34 rfl (lv_at hl 0 rfl) ?_
        refine xg_0_3 E hK hP in_2 w_0 dX2_found_35 ?_
        refine lv_aload_n E.1 E.2.1 dX2_found_38 rfl (lv_at hl 0 rfl) ?_
        refine xg_0_1 E hK hP in_2 w_1 dX2_found_39 ?_
        refine lv_iload_n E.1 E.2.1 dX2_found_42 rfl (lv_at hl 1 rfl) ?_
        refine xl_2 (i := p0) E hK hP (site_X hX h5) dX2_found_43 ?_
        refine lv_aload_n E.1 E.2.1 dX2_found_44 rfl (lv_at hl 0 rfl) ?_
        refine xg_0_3 E hK hP in_2 w_0 dX2_found_45 ?_
        refine xg_4_6 E hK hP in_1 w_2 dX2_found_48 ?_
        refine lv_iload_n E.1 E.2.1 dX2_found_51 rfl (lv_at hl 1 rfl) ?_
        refine xl_11 (i := p0) E hK hP (site_X hX h5) dX2_found_52 ?_
        refine lv_iload_n E.1 E.2.1 dX2_found_53 rfl (lv_at hl 2 rfl) ?_
        refine lv_iload_n E.1 E.2.1 dX2_found_54 rfl (lv_at hl 3 rfl) ?_
        refine g_VWi (As := [.int (a 2 p0.toNatClampNeg), .int (a 11 p0.toNatClampNeg), .int p1, .int p2]) (rest := []) E hK hP hS (fun q h => h) (c_X1_addFound l D cI cB ad f a ta n z c hX hI (a 2 p0.toNatClampNeg) (a 11 p0.toNatClampNeg) p1 p2) (cwV 4 E.2.2.2.2 gX2_found_X1_addFound rfl rfl rfl (by decide +kernel) ⟨Nat.le_of_ble_eq_true rfl, Nat.le_of_ble_eq_true rfl⟩) (rxn hK hP) rfl hl.1 rfl (Nat.le_of_ble_eq_true rfl) dX2_found_55 ⟨Nat.zero_le _, Nat.zero_le _⟩ (fun r_2 u_1 H1 locs hp_3 hP1 hq_4 hS => ?_)
        obtain rfl : r_2 = (FX1_addFound f a ta n z c (a 2 p0.toNatClampNeg) (a 11 p0.toNatClampNeg) p1 p2).1 := congrArg Prod.fst hp_3
        obtain rfl : u_1 = (FX1_addFound f a ta n z c (a 2 p0.toNatClampNeg) (a 11 p0.toNatClampNeg) p1 p2).2 := congrArg Prod.snd hp_3
        have hP : va_P D vwCl (wX cI ad ((FX1_addFound f a ta n z c (a 2 p0.toNatClampNeg) (a 11 p0.toNatClampNeg) p1 p2).2.1) ((FX1_addFound f a ta n z c (a 2 p0.toNatClampNeg) (a 11 p0.toNatClampNeg) p1 p2).2.2.1) ((FX1_addFound f a ta n z c (a 2 p0.toNatClampNeg) (a 11 p0.toNatClampNeg) p1 p2).2.2.2)) H1 := hP1
        clear hP1
        generalize H1 = H at hP hS ⊢
        refine lv_if_ne (x := (FX1_addFound f a ta n z c (a 2 p0.toNatClampNeg) (a 11 p0.toNatClampNeg) p1 p2).1) (tgt := 64) E.1 E.2.1 dX2_found_58 (by decide) (fun h58 => ?_) (fun h58 => ?_)
        · have h58 := h58
          refine lv_aload_n E.1 E.2.1 dX2_found_64 rfl (lv_at hl 0 rfl) ?_
          refine xg_0_3 E hK hP in_2 w_0 dX2_found_65 ?_
          refine xg_4_12 E hK hP in_1 w_3 dX2_found_68 ?_
          exact W.iret (v := ((FX1_addFound f a ta n z c (a 2 p0.toNatClampNeg) (a 11 p0.toNatClampNeg) p1 p2).2.1) 8) E.1 E.2.1 hr (fun t ht _ => ⟨⟨((FX1_addFound f a ta n z c (a 2 p0.toNatClampNeg) (a 11 p0.toNatClampNeg) p1 p2).2.1) 8, ((FX1_addFound f a ta n z c (a 2 p0.toNatClampNeg) (a 11 p0.toNatClampNeg) p1 p2).2.1, (FX1_addFound f a ta n z c (a 2 p0.toNatClampNeg) (a 11 p0.toNatClampNeg) p1 p2).2.2.1, (FX1_addFound f a ta n z c (a 2 p0.toNatClampNeg) (a 11 p0.toNatClampNeg) p1 p2).2.2.2), rfl, (by rw [FX2_found, if_neg h5, if_neg h18, if_neg h28, if_neg h58]), (show va_P D vwCl (wX cI ad ((FX1_addFound f a ta n z c (a 2 p0.toNatClampNeg) (a 11 p0.toNatClampNeg) p1 p2).2.1) ((FX1_addFound f a ta n z c (a 2 p0.toNatClampNeg) (a 11 p0.toNatClampNeg) p1 p2).2.2.1) ((FX1_addFound f a ta n z c (a 2 p0.toNatClampNeg) (a 11 p0.toNatClampNeg) p1 p2).2.2.2)) t.heap from by rw [ht]; exact hP)⟩, hS.F ht⟩) hS.2.2 dX2_found_71
        · have h58 := h58
          refine lv_bipush (v := (-104)) E.1 E.2.1 dX2_found_61 (by decide) ?_
          exact W.iret (v := (-104)) E.1 E.2.1 hr (fun t ht _ => ⟨⟨(-104), ((FX1_addFound f a ta n z c (a 2 p0.toNatClampNeg) (a 11 p0.toNatClampNeg) p1 p2).2.1, (FX1_addFound f a ta n z c (a 2 p0.toNatClampNeg) (a 11 p0.toNatClampNeg) p1 p2).2.2.1, (FX1_addFound f a ta n z c (a 2 p0.toNatClampNeg) (a 11 p0.toNatClampNeg) p1 p2).2.2.2), rfl, (by rw [FX2_found, if_neg h5, if_neg h18, if_neg h28, if_pos h58]), (show va_P D vwCl (wX cI ad ((FX1_addFound f a ta n z c (a 2 p0.toNatClampNeg) (a 11 p0.toNatClampNeg) p1 p2).2.1) ((FX1_addFound f a ta n z c (a 2 p0.toNatClampNeg) (a 11 p0.toNatClampNeg) p1 p2).2.2.1) ((FX1_addFound f a ta n z c (a 2 p0.toNatClampNeg) (a 11 p0.toNatClampNeg) p1 p2).2.2.2)) t.heap from by rw [ht]; exact hP)⟩, hS.F ht⟩) hS.2.2 dX2_found_63
      · have h28 := h28
        refine lv_bipush (v := (-102)) E.1 E.2.1 dX2_found_31 (by decide) ?_
        exact W.iret (v := (-102)) E.1 E.2.1 hr (fun t ht _ => ⟨⟨(-102), (f, a, ta), rfl, (by rw [FX2_found, if_neg h5, if_neg h18, if_pos h28]), (show va_P D vwCl (wX cI ad f a ta) t.heap from by rw [ht]; exact hP)⟩, hS.F ht⟩) hS.2.2 dX2_found_33
  · have h5 := h5
    refine lv_bipush (v := (-101)) E.1 E.2.1 dX2_found_8 (by decide) ?_
    exact W.iret (v := (-101)) E.1 E.2.1 hr (fun t ht _ => ⟨⟨(-101), (f, a, ta), rfl, (by rw [FX2_found, if_pos h5]), (show va_P D vwCl (wX cI ad f a ta) t.heap from by rw [ht]; exact hP)⟩, hS.F ht⟩) hS.2.2 dX2_found_10
def FX1_begin_L27 (ta : Nat → Nat → Int32) (n : Nat) (z : Nat) (c : Nat) (p0 : Int32) : Nat → Nat → (Nat → Int32) → (Nat → Nat → Int32) → SX
  | 0, k_2, f1, a1 => (f1, a1, ta)
  | d_1 + 1, k_2, f1, a1 => FX1_begin_L27 ta n z c p0 d_1 (k_2 + 1) f1 (uA (uA (uA (uA a1 9 (upd (a1 9) k_2 0)) 10 (upd (a1 10) k_2 0)) 11 (upd (a1 11) k_2 0)) 12 (upd (a1 12) k_2 0))
def FX1_begin (f : Nat → Int32) (a : Nat → Nat → Int32) (ta : Nat → Nat → Int32) (n : Nat) (z : Nat) (c : Nat) (p0 : Int32) : SX := FX1_begin_L27 ta n z c p0 6 0 (upd (upd (upd (upd (upd f 4 0) 5 p0) 6 0) 7 0) 8 0) a
set_option maxHeartbeats 4000000 in
set_option maxRecDepth 100000 in
/-- a term begins -/
theorem c_X1_begin (l : Launch) (D : va_G) (cI cB : ClassId) (ad : Nat → Nat) (f : Nat → Int32) (a ta : Nat → Nat → Int32) (n z c : Nat) (hX : IX n z c f) (hI : wI 25 ad) (p0 : Int32) : Met l yX1_begin wsX1_begin ({ frames := 0, cells := 0, slots := 0, locals := 0 }) (GPc D cI cB (wX cI ad f a ta) [.ref (ad 4), .int p0]) (va_Qv (fun u : SX => u = FX1_begin f a ta n z c p0) (fun u t => va_P D vwCl (wX cI ad u.1 u.2.1 u.2.2) t.heap) (wA 25 ad)) 0 0 (wA 25 ad) := by
  refine Met.ofW (cc := cX1_begin) (maxL := 3) (ret := none) (by decide) rfl ?_
  intro p e s m args below meth cd s₁ B hml hv
  obtain ⟨rfl, hP, hK⟩ := hv
  have hts := atoms_spec (ws := wsX1_begin) B.pre
  have E : CallFix p m cd cX1_begin 3 s _ wsX1_begin RX1 := ⟨B.exec, B.bytes, hml, findClass_of_methodNamed B.named, hts⟩
  have hr := B.returns
  have hlocks := B.notSynchronized
  have h2n := pow6 (n := n) (by have := hX.2.1; omega)
  obtain ⟨hn, hn6, hz, hz21, hc, hc6⟩ := id hX
  have hS : va_S (wA 25 ad) s.heap s.heap [] := va_S.rf
  have in_1 : ∀ w ∈ wsX10, w ∈ wsX1_begin := fun _ h => List.mem_cons_of_mem _ (List.mem_append_right _ h)
  have w_0 : (Cond.fieldLink RX1 36 "SnowTerm$Term" "day" "I").before _ s = true := hts _ (by decide +kernel)
  have w_1 : (Cond.fieldLink RX1 40 "SnowTerm$Term" "sun" "I").before _ s = true := hts _ (by decide +kernel)
  have w_2 : (Cond.fieldLink RX1 43 "SnowTerm$Term" "cost" "I").before _ s = true := hts _ (by decide +kernel)
  have w_3 : (Cond.fieldLink RX1 46 "SnowTerm$Term" "praise" "I").before _ s = true := hts _ (by decide +kernel)
  have w_4 : (Cond.fieldLink RX1 49 "SnowTerm$Term" "foundCount" "I").before _ s = true := hts _ (by decide +kernel)
  have w_5 : (Cond.fieldLink RX1 9 "SnowTerm$Term" "snow" "[I").before _ s = true := hts _ (by decide +kernel)
  have w_6 : (Cond.fieldLink RX1 15 "SnowTerm$Term" "snowAtDusk" "[I").before _ s = true := hts _ (by decide +kernel)
  have w_7 : (Cond.fieldLink RX1 18 "SnowTerm$Term" "feet" "[I").before _ s = true := hts _ (by decide +kernel)
  have w_8 : (Cond.fieldLink RX1 21 "SnowTerm$Term" "brought" "[I").before _ s = true := hts _ (by decide +kernel)
  have hl := lv_entry ([.ref (ad 4), .int p0]) (n := 3) (Nat.le_of_ble_eq_true rfl)
  rw [lg_entry_eq]
  generalize (lg_sl ([.ref (ad 4), .int p0]) ++ List.replicate (3 - (lg_sl ([.ref (ad 4), .int p0])).length) Slot.unset).toArray = ls at hl ⊢
  have hl : lv_has ls 3 [(0, .ref (ad 4)), (1, .int p0)] := hl
  refine lv_aload_n E.1 E.2.1 dX1_begin_0 rfl (lv_at hl 0 rfl) ?_
  refine lv_iconst (v := 0) E.1 E.2.1 dX1_begin_1 (by decide) ?_
  refine xp_4_0 (v := 0) E hK hP in_1 w_0 hI hS dX1_begin_2 (fun H locs hP hS => ?_)
  refine lv_aload_n E.1 E.2.1 dX1_begin_5 rfl (lv_at hl 0 rfl) ?_
  refine lv_iload_n E.1 E.2.1 dX1_begin_6 rfl (lv_at hl 1 rfl) ?_
  refine xp_4_1 (v := p0) E hK hP in_1 w_1 hI hS dX1_begin_7 (fun H locs hP hS => ?_)
  refine lv_aload_n E.1 E.2.1 dX1_begin_10 rfl (lv_at hl 0 rfl) ?_
  refine lv_iconst (v := 0) E.1 E.2.1 dX1_begin_11 (by decide) ?_
  refine xp_4_2 (v := 0) E hK hP in_1 w_2 hI hS dX1_begin_12 (fun H locs hP hS => ?_)
  refine lv_aload_n E.1 E.2.1 dX1_begin_15 rfl (lv_at hl 0 rfl) ?_
  refine lv_iconst (v := 0) E.1 E.2.1 dX1_begin_16 (by decide) ?_
  refine xp_4_3 (v := 0) E hK hP in_1 w_3 hI hS dX1_begin_17 (fun H locs hP hS => ?_)
  refine lv_aload_n E.1 E.2.1 dX1_begin_20 rfl (lv_at hl 0 rfl) ?_
  refine lv_iconst (v := 0) E.1 E.2.1 dX1_begin_21 (by decide) ?_
  refine xp_4_12 (v := 0) E hK hP in_1 w_4 hI hS dX1_begin_22 (fun H locs hP hS => ?_)
  refine lv_iconst (v := 0) E.1 E.2.1 dX1_begin_25 (by decide) ?_
  refine lv_istore_n (lv' := [(2, .int 0), (0, .ref (ad 4)), (1, .int p0)]) E.1 E.2.1 dX1_begin_26 rfl hl (by decide) rfl (fun ls hl => ?_)
  have loop1 : ∀ (d_1 k_2 : Nat) (f1 : Nat → Int32) (a1 : Nat → Nat → Int32) (H : Heap) (locs : List Loc) (ls : Array Slot), k_2 + d_1 = 6 → va_P D vwCl (wX cI ad f1 a1 ta) H → va_S (wA 25 ad) s.heap H locs → lv_has ls 3 [(2, .int (nI k_2)), (0, .ref (ad 4)), (1, .int p0)] → W p l e (headSpec wsX1_begin { frames := 0, cells := 0, slots := 0, locals := 0 }).room s m ([.ref (ad 4), .int p0] : List Value).toArray below meth cd H locs 0 0 (MQ below (va_Qv (fun u : SX => u = FX1_begin_L27 ta n z c p0 d_1 k_2 f1 a1) (fun u t => va_P D vwCl (wX cI ad u.1 u.2.1 u.2.2) t.heap) (wA 25 ad)) ([.ref (ad 4), .int p0] : List Value).toArray s 0 0 (wA 25 ad)) (F0 m 27 ls []) := by
    intro d_1
    induction d_1 with
    | zero =>
      intro k_2 f1 a1 H locs ls hk1 hP hS hl
      refine lv_iload_n E.1 E.2.1 dX1_begin_27 rfl (lv_at hl 0 rfl) ?_
      refine lv_bipush (v := 6) E.1 E.2.1 dX1_begin_28 (by decide) ?_
      refine lv_icmp_ge (x := nI k_2) (y := 6) (tgt := 67) E.1 E.2.1 dX1_begin_30 (by decide) (fun _ => ?_) (fun h9 => absurd (nI_le (a := 6) (b := k_2) (by omega) (by omega)) h9)
      exact W.vret E.1 E.2.1 hr (fun t ht _ => ⟨⟨(f1, a1, ta), rfl, (by rw [FX1_begin_L27]), (show va_P D vwCl (wX cI ad f1 a1 ta) t.heap from by rw [ht]; exact hP)⟩, hS.F ht⟩) hS.2.2 dX1_begin_67
    | succ d_1 ih1 =>
      intro k_2 f1 a1 H locs ls hk1 hP hS hl
      refine lv_iload_n E.1 E.2.1 dX1_begin_27 rfl (lv_at hl 0 rfl) ?_
      refine lv_bipush (v := 6) E.1 E.2.1 dX1_begin_28 (by decide) ?_
      refine lv_icmp_ge (x := nI k_2) (y := 6) (tgt := 67) E.1 E.2.1 dX1_begin_30 (by decide) (fun h9 => absurd h9 (nI_ge (a := k_2) (b := 6) (by omega) (by omega))) (fun _ => ?_)
      refine lv_aload_n E.1 E.2.1 dX1_begin_33 rfl (lv_at hl 1 rfl) ?_
      refine xg_4_4 E hK hP in_1 w_5 dX1_begin_34 ?_
      refine lv_iload_n E.1 E.2.1 dX1_begin_37 rfl (lv_at hl 0 rfl) ?_
      refine lv_iconst (v := 0) E.1 E.2.1 dX1_begin_38 (by decide) ?_
      refine xs_9 (v := 0) (i := nI k_2) E hK hP hI hS (vp_in_nI (by omega) (by omega)) dX1_begin_39 (fun H locs hP hS => ?_)
      rw [nI_clamp (show k_2 < 2 ^ 31 by omega)] at hP
      have hP : va_P D vwCl (wX cI ad f1 (uA a1 9 (upd (a1 9) k_2 0)) ta) H := hP
      refine lv_aload_n E.1 E.2.1 dX1_begin_40 rfl (lv_at hl 1 rfl) ?_
      refine xg_4_5 E hK hP in_1 w_6 dX1_begin_41 ?_
      refine lv_iload_n E.1 E.2.1 dX1_begin_44 rfl (lv_at hl 0 rfl) ?_
      refine lv_iconst (v := 0) E.1 E.2.1 dX1_begin_45 (by decide) ?_
      refine xs_10 (v := 0) (i := nI k_2) E hK hP hI hS (vp_in_nI (by omega) (by omega)) dX1_begin_46 (fun H locs hP hS => ?_)
      rw [nI_clamp (show k_2 < 2 ^ 31 by omega)] at hP
      have hP : va_P D vwCl (wX cI ad f1 (uA (uA a1 9 (upd (a1 9) k_2 0)) 10 (upd (a1 10) k_2 0)) ta) H := hP
      refine lv_aload_n E.1 E.2.1 dX1_begin_47 rfl (lv_at hl 1 rfl) ?_
      refine xg_4_6 E hK hP in_1 w_7 dX1_begin_48 ?_
      refine lv_iload_n E.1 E.2.1 dX1_begin_51 rfl (lv_at hl 0 rfl) ?_
      refine lv_iconst (v := 0) E.1 E.2.1 dX1_begin_52 (by decide) ?_
      refine xs_11 (v := 0) (i := nI k_2) E hK hP hI hS (vp_in_nI (by omega) (by omega)) dX1_begin_53 (fun H locs hP hS => ?_)
      rw [nI_clamp (show k_2 < 2 ^ 31 by omega)] at hP
      have hP : va_P D vwCl (wX cI ad f1 (uA (uA (uA a1 9 (upd (a1 9) k_2 0)) 10 (upd (a1 10) k_2 0)) 11 (upd (a1 11) k_2 0)) ta) H := hP
      refine lv_aload_n E.1 E.2.1 dX1_begin_54 rfl (lv_at hl 1 rfl) ?_
      refine xg_4_7 E hK hP in_1 w_8 dX1_begin_55 ?_
      refine lv_iload_n E.1 E.2.1 dX1_begin_58 rfl (lv_at hl 0 rfl) ?_
      refine lv_iconst (v := 0) E.1 E.2.1 dX1_begin_59 (by decide) ?_
      refine xs_12 (v := 0) (i := nI k_2) E hK hP hI hS (vp_in_nI (by omega) (by omega)) dX1_begin_60 (fun H locs hP hS => ?_)
      rw [nI_clamp (show k_2 < 2 ^ 31 by omega)] at hP
      have hP : va_P D vwCl (wX cI ad f1 (uA (uA (uA (uA a1 9 (upd (a1 9) k_2 0)) 10 (upd (a1 10) k_2 0)) 11 (upd (a1 11) k_2 0)) 12 (upd (a1 12) k_2 0)) ta) H := hP
      refine lv_iinc (v := nI (k_2 + 1)) (k := 0) (lv' := [(2, .int (nI (k_2 + 1))), (0, .ref (ad 4)), (1, .int p0)]) E.1 E.2.1 dX1_begin_61 hl rfl (nI_1 k_2) (by decide) rfl (fun ls hl => ?_)
      refine lv_goto (tgt := 27) E.1 E.2.1 dX1_begin_64 (by decide) ?_
      rw [show FX1_begin_L27 ta n z c p0 (d_1 + 1) k_2 f1 a1 = FX1_begin_L27 ta n z c p0 d_1 (k_2 + 1) f1 (uA (uA (uA (uA a1 9 (upd (a1 9) k_2 0)) 10 (upd (a1 10) k_2 0)) 11 (upd (a1 11) k_2 0)) 12 (upd (a1 12) k_2 0)) from by rw [FX1_begin_L27]]
      exact ih1 (k_2 + 1) f1 (uA (uA (uA (uA a1 9 (upd (a1 9) k_2 0)) 10 (upd (a1 10) k_2 0)) 11 (upd (a1 11) k_2 0)) 12 (upd (a1 12) k_2 0)) _ _ ls (by omega) hP hS (lv_sub hl [0, 1, 2] rfl)
  rw [show FX1_begin f a ta n z c p0 = FX1_begin_L27 ta n z c p0 6 0 (upd (upd (upd (upd (upd f 4 0) 5 p0) 6 0) 7 0) 8 0) a from by rw [FX1_begin]]
  have hl : lv_has ls 3 [(2, .int (nI 0)), (0, .ref (ad 4)), (1, .int p0)] := lv_sub hl [0, 1, 2] rfl
  exact loop1 _ _ (upd (upd (upd (upd (upd f 4 0) 5 p0) 6 0) 7 0) 8 0) a _ _ ls (by omega) hP hS (lv_sub hl [0, 1, 2] rfl)
def FX1_endDay_L22 (ta : Nat → Nat → Int32) (n : Nat) (z : Nat) (c : Nat) (p0 : Int32) : Nat → Nat → (Nat → Int32) → (Nat → Nat → Int32) → SX
  | 0, k_3, f2, a2 => (f2, a2, ta)
  | d_2 + 1, k_3, f2, a2 => FX1_endDay_L22 ta n z c p0 d_2 (k_3 + 1) f2 (uA (uA a2 10 (upd (a2 10) k_3 (a2 9 k_3))) 12 (upd (a2 12) k_3 0))
def FX1_endDay (f : Nat → Int32) (a : Nat → Nat → Int32) (ta : Nat → Nat → Int32) (n : Nat) (z : Nat) (c : Nat) (p0 : Int32) : SX := FX1_endDay_L22 ta n z c p0 6 0 (upd (upd f 4 ((f 4) + 1)) 7 ((f 7) + p0)) a
set_option maxHeartbeats 4000000 in
set_option maxRecDepth 100000 in
/-- a day ends -/
theorem c_X1_endDay (l : Launch) (D : va_G) (cI cB : ClassId) (ad : Nat → Nat) (f : Nat → Int32) (a ta : Nat → Nat → Int32) (n z c : Nat) (hX : IX n z c f) (hI : wI 25 ad) (p0 : Int32) : Met l yX1_endDay wsX1_endDay ({ frames := 0, cells := 0, slots := 0, locals := 0 }) (GPc D cI cB (wX cI ad f a ta) [.ref (ad 4), .int p0]) (va_Qv (fun u : SX => u = FX1_endDay f a ta n z c p0) (fun u t => va_P D vwCl (wX cI ad u.1 u.2.1 u.2.2) t.heap) (wA 25 ad)) 0 0 (wA 25 ad) := by
  refine Met.ofW (cc := cX1_endDay) (maxL := 3) (ret := none) (by decide) rfl ?_
  intro p e s m args below meth cd s₁ B hml hv
  obtain ⟨rfl, hP, hK⟩ := hv
  have hts := atoms_spec (ws := wsX1_endDay) B.pre
  have E : CallFix p m cd cX1_endDay 3 s _ wsX1_endDay RX1 := ⟨B.exec, B.bytes, hml, findClass_of_methodNamed B.named, hts⟩
  have hr := B.returns
  have hlocks := B.notSynchronized
  have h2n := pow6 (n := n) (by have := hX.2.1; omega)
  obtain ⟨hn, hn6, hz, hz21, hc, hc6⟩ := id hX
  have hS : va_S (wA 25 ad) s.heap s.heap [] := va_S.rf
  have in_1 : ∀ w ∈ wsX10, w ∈ wsX1_endDay := fun _ h => List.mem_cons_of_mem _ (List.mem_append_right _ h)
  have w_0 : (Cond.fieldLink RX1 36 "SnowTerm$Term" "day" "I").before _ s = true := hts _ (by decide +kernel)
  have w_1 : (Cond.fieldLink RX1 46 "SnowTerm$Term" "praise" "I").before _ s = true := hts _ (by decide +kernel)
  have w_2 : (Cond.fieldLink RX1 15 "SnowTerm$Term" "snowAtDusk" "[I").before _ s = true := hts _ (by decide +kernel)
  have w_3 : (Cond.fieldLink RX1 9 "SnowTerm$Term" "snow" "[I").before _ s = true := hts _ (by decide +kernel)
  have w_4 : (Cond.fieldLink RX1 21 "SnowTerm$Term" "brought" "[I").before _ s = true := hts _ (by decide +kernel)
  have hl := lv_entry ([.ref (ad 4), .int p0]) (n := 3) (Nat.le_of_ble_eq_true rfl)
  rw [lg_entry_eq]
  generalize (lg_sl ([.ref (ad 4), .int p0]) ++ List.replicate (3 - (lg_sl ([.ref (ad 4), .int p0])).length) Slot.unset).toArray = ls at hl ⊢
  have hl : lv_has ls 3 [(0, .ref (ad 4)), (1, .int p0)] := hl
  refine lv_aload_n E.1 E.2.1 dX1_endDay_0 rfl (lv_at hl 0 rfl) ?_
  refine lv_dup E.1 E.2.1 dX1_endDay_1 rfl ?_
  refine xg_4_0 E hK hP in_1 w_0 dX1_endDay_2 ?_
  refine lv_iconst (v := 1) E.1 E.2.1 dX1_endDay_5 (by decide) ?_
  refine lv_iadd (x := f 4) (y := 1) E.1 E.2.1 dX1_endDay_6 ?_
  refine xp_4_0 (v := (f 4) + 1) E hK hP in_1 w_0 hI hS dX1_endDay_7 (fun H locs hP hS => ?_)
  refine lv_aload_n E.1 E.2.1 dX1_endDay_10 rfl (lv_at hl 0 rfl) ?_
  refine lv_dup E.1 E.2.1 dX1_endDay_11 rfl ?_
  refine xg_4_3 E hK hP in_1 w_1 dX1_endDay_12 ?_
  refine lv_topi (fun y_1 ey_1 => ?_)
  obtain rfl : y_1 = f 7 := ey_1.trans (rfl)
  refine lv_iload_n E.1 E.2.1 dX1_endDay_15 rfl (lv_at hl 1 rfl) ?_
  refine lv_iadd (x := f 7) (y := p0) E.1 E.2.1 dX1_endDay_16 ?_
  refine xp_4_3 (v := (f 7) + p0) E hK hP in_1 w_1 hI hS dX1_endDay_17 (fun H locs hP hS => ?_)
  refine lv_iconst (v := 0) E.1 E.2.1 dX1_endDay_20 (by decide) ?_
  refine lv_istore_n (lv' := [(2, .int 0), (0, .ref (ad 4)), (1, .int p0)]) E.1 E.2.1 dX1_endDay_21 rfl hl (by decide) rfl (fun ls hl => ?_)
  have loop2 : ∀ (d_2 k_3 : Nat) (f2 : Nat → Int32) (a2 : Nat → Nat → Int32) (H : Heap) (locs : List Loc) (ls : Array Slot), k_3 + d_2 = 6 → va_P D vwCl (wX cI ad f2 a2 ta) H → va_S (wA 25 ad) s.heap H locs → lv_has ls 3 [(2, .int (nI k_3)), (0, .ref (ad 4)), (1, .int p0)] → W p l e (headSpec wsX1_endDay { frames := 0, cells := 0, slots := 0, locals := 0 }).room s m ([.ref (ad 4), .int p0] : List Value).toArray below meth cd H locs 0 0 (MQ below (va_Qv (fun u : SX => u = FX1_endDay_L22 ta n z c p0 d_2 k_3 f2 a2) (fun u t => va_P D vwCl (wX cI ad u.1 u.2.1 u.2.2) t.heap) (wA 25 ad)) ([.ref (ad 4), .int p0] : List Value).toArray s 0 0 (wA 25 ad)) (F0 m 22 ls []) := by
    intro d_2
    induction d_2 with
    | zero =>
      intro k_3 f2 a2 H locs ls hk2 hP hS hl
      refine lv_iload_n E.1 E.2.1 dX1_endDay_22 rfl (lv_at hl 0 rfl) ?_
      refine lv_bipush (v := 6) E.1 E.2.1 dX1_endDay_23 (by decide) ?_
      refine lv_icmp_ge (x := nI k_3) (y := 6) (tgt := 53) E.1 E.2.1 dX1_endDay_25 (by decide) (fun _ => ?_) (fun h9 => absurd (nI_le (a := 6) (b := k_3) (by omega) (by omega)) h9)
      exact W.vret E.1 E.2.1 hr (fun t ht _ => ⟨⟨(f2, a2, ta), rfl, (by rw [FX1_endDay_L22]), (show va_P D vwCl (wX cI ad f2 a2 ta) t.heap from by rw [ht]; exact hP)⟩, hS.F ht⟩) hS.2.2 dX1_endDay_53
    | succ d_2 ih2 =>
      intro k_3 f2 a2 H locs ls hk2 hP hS hl
      refine lv_iload_n E.1 E.2.1 dX1_endDay_22 rfl (lv_at hl 0 rfl) ?_
      refine lv_bipush (v := 6) E.1 E.2.1 dX1_endDay_23 (by decide) ?_
      refine lv_icmp_ge (x := nI k_3) (y := 6) (tgt := 53) E.1 E.2.1 dX1_endDay_25 (by decide) (fun h9 => absurd h9 (nI_ge (a := k_3) (b := 6) (by omega) (by omega))) (fun _ => ?_)
      refine lv_aload_n E.1 E.2.1 dX1_endDay_28 rfl (lv_at hl 1 rfl) ?_
      refine xg_4_5 E hK hP in_1 w_2 dX1_endDay_29 ?_
      refine lv_iload_n E.1 E.2.1 dX1_endDay_32 rfl (lv_at hl 0 rfl) ?_
      refine lv_aload_n E.1 E.2.1 dX1_endDay_33 rfl (lv_at hl 1 rfl) ?_
      refine xg_4_4 E hK hP in_1 w_3 dX1_endDay_34 ?_
      refine lv_iload_n E.1 E.2.1 dX1_endDay_37 rfl (lv_at hl 0 rfl) ?_
      refine xl_9 (i := nI k_3) E hK hP (vp_in_nI (by omega) (by omega)) dX1_endDay_38 ?_
      refine lv_topi (fun y_4 ey_4 => ?_)
      obtain rfl : y_4 = a2 9 k_3 := ey_4.trans (by rw [nI_clamp (show k_3 < 2 ^ 31 by omega)] <;> rfl)
      refine xs_10 (v := a2 9 k_3) (i := nI k_3) E hK hP hI hS (vp_in_nI (by omega) (by omega)) dX1_endDay_39 (fun H locs hP hS => ?_)
      rw [nI_clamp (show k_3 < 2 ^ 31 by omega)] at hP
      have hP : va_P D vwCl (wX cI ad f2 (uA a2 10 (upd (a2 10) k_3 (a2 9 k_3))) ta) H := hP
      refine lv_aload_n E.1 E.2.1 dX1_endDay_40 rfl (lv_at hl 1 rfl) ?_
      refine xg_4_7 E hK hP in_1 w_4 dX1_endDay_41 ?_
      refine lv_iload_n E.1 E.2.1 dX1_endDay_44 rfl (lv_at hl 0 rfl) ?_
      refine lv_iconst (v := 0) E.1 E.2.1 dX1_endDay_45 (by decide) ?_
      refine xs_12 (v := 0) (i := nI k_3) E hK hP hI hS (vp_in_nI (by omega) (by omega)) dX1_endDay_46 (fun H locs hP hS => ?_)
      rw [nI_clamp (show k_3 < 2 ^ 31 by omega)] at hP
      have hP : va_P D vwCl (wX cI ad f2 (uA (uA a2 10 (upd (a2 10) k_3 (a2 9 k_3))) 12 (upd (a2 12) k_3 0)) ta) H := hP
      refine lv_iinc (v := nI (k_3 + 1)) (k := 0) (lv' := [(2, .int (nI (k_3 + 1))), (0, .ref (ad 4)), (1, .int p0)]) E.1 E.2.1 dX1_endDay_47 hl rfl (nI_1 k_3) (by decide) rfl (fun ls hl => ?_)
      refine lv_goto (tgt := 22) E.1 E.2.1 dX1_endDay_50 (by decide) ?_
      rw [show FX1_endDay_L22 ta n z c p0 (d_2 + 1) k_3 f2 a2 = FX1_endDay_L22 ta n z c p0 d_2 (k_3 + 1) f2 (uA (uA a2 10 (upd (a2 10) k_3 (a2 9 k_3))) 12 (upd (a2 12) k_3 0)) from by rw [FX1_endDay_L22]]
      exact ih2 (k_3 + 1) f2 (uA (uA a2 10 (upd (a2 10) k_3 (a2 9 k_3))) 12 (upd (a2 12) k_3 0)) _ _ ls (by omega) hP hS (lv_sub hl [0, 1, 2] rfl)
  rw [show FX1_endDay f a ta n z c p0 = FX1_endDay_L22 ta n z c p0 6 0 (upd (upd f 4 ((f 4) + 1)) 7 ((f 7) + p0)) a from by rw [FX1_endDay]]
  have hl : lv_has ls 3 [(2, .int (nI 0)), (0, .ref (ad 4)), (1, .int p0)] := lv_sub hl [0, 1, 2] rfl
  exact loop2 _ _ (upd (upd f 4 ((f 4) + 1)) 7 ((f 7) + p0)) a _ _ ls (by omega) hP hS (lv_sub hl [0, 1, 2] rfl)
def FX2_meltAll_at9_L2 (f : Nat → Int32) (ta : Nat → Nat → Int32) (n : Nat) (z : Nat) (c : Nat) (p0 : Int32) : Nat → Nat → (Nat → Nat → Int32) → Int32 × SX
  | 0, k_2, a1 => (FX2_keptIn_at9 f a1 ta n z c, f, a1, ta)
  | d_1 + 1, k_2, a1 => FX2_meltAll_at9_L2 f ta n z c p0 d_1 (k_2 + 1) (uA a1 9 (upd (a1 9) k_2 (FX2_leftOf (a1 9 k_2) (FX2_melting (a1 2 k_2) p0 (a1 11 k_2)))))
def FX2_meltAll_at9 (f : Nat → Int32) (a : Nat → Nat → Int32) (ta : Nat → Nat → Int32) (n : Nat) (z : Nat) (c : Nat) (p0 : Int32) : Int32 × SX := FX2_meltAll_at9_L2 f ta n z c p0 n 0 a
set_option maxHeartbeats 4000000 in
set_option maxRecDepth 100000 in
/-- a day over a row of snow -/
theorem c_X2_meltAll_at9 (l : Launch) (D : va_G) (cI cB : ClassId) (ad : Nat → Nat) (f : Nat → Int32) (a ta : Nat → Nat → Int32) (n z c : Nat) (hX : IX n z c f) (hI : wI 25 ad) (p0 : Int32) : Met l yX2_meltAll wsX2_meltAll ({ frames := 2, cells := 0, slots := 0, locals := 45 }) (GPc D cI cB (wX cI ad f a ta) [.ref (ad 0), .ref (ad 9), .int p0]) (va_Qi (fun (r : Int32) (u : SX) => (r, u) = FX2_meltAll_at9 f a ta n z c p0) (fun u t => va_P D vwCl (wX cI ad u.1 u.2.1 u.2.2) t.heap) (wA 25 ad)) 0 0 (wA 25 ad) := by
  refine Met.ofW (cc := cX2_meltAll) (maxL := 4) (ret := (some .int)) (by decide) rfl ?_
  intro p e s m args below meth cd s₁ B hml hv
  obtain ⟨rfl, hP, hK⟩ := hv
  have hts := atoms_spec (ws := wsX2_meltAll) B.pre
  have E : CallFix p m cd cX2_meltAll 4 s _ wsX2_meltAll RX2 := ⟨B.exec, B.bytes, hml, findClass_of_methodNamed B.named, hts⟩
  have hr := B.returns
  have hlocks := B.notSynchronized
  have h2n := pow6 (n := n) (by have := hX.2.1; omega)
  obtain ⟨hn, hn6, hz, hz21, hc, hc6⟩ := id hX
  have hS : va_S (wA 25 ad) s.heap s.heap [] := va_S.rf
  have in_1 : ∀ w ∈ wsX10, w ∈ wsX2_meltAll := fun _ h => List.mem_cons_of_mem _ (List.mem_append_right _ h)
  have in_2 : ∀ w ∈ wsX20, w ∈ wsX2_meltAll := fun _ h => List.mem_cons_of_mem _ (List.mem_append_left _ (List.mem_append_right _ h))
  have w_0 : (Cond.fieldLink RX2 39 "SnowTerm" "sites" "I").before _ s = true := hts _ (by decide +kernel)
  have w_1 : (Cond.fieldLink RX2 16 "SnowTerm" "kinds" "[I").before _ s = true := hts _ (by decide +kernel)
  have w_2 : (Cond.fieldLink RX2 26 "SnowTerm" "now" "LSnowTerm$Term;").before _ s = true := hts _ (by decide +kernel)
  have w_3 : (Cond.fieldLink RX2 95 "SnowTerm$Term" "feet" "[I").before _ s = true := hts _ (by decide +kernel)
  have hl := lv_entry ([.ref (ad 0), .ref (ad 9), .int p0]) (n := 4) (Nat.le_of_ble_eq_true rfl)
  rw [lg_entry_eq]
  generalize (lg_sl ([.ref (ad 0), .ref (ad 9), .int p0]) ++ List.replicate (4 - (lg_sl ([.ref (ad 0), .ref (ad 9), .int p0])).length) Slot.unset).toArray = ls at hl ⊢
  have hl : lv_has ls 4 [(0, .ref (ad 0)), (1, .ref (ad 9)), (2, .int p0)] := hl
  refine lv_iconst (v := 0) E.1 E.2.1 dX2_meltAll_0 (by decide) ?_
  refine lv_istore_n (lv' := [(3, .int 0), (0, .ref (ad 0)), (1, .ref (ad 9)), (2, .int p0)]) E.1 E.2.1 dX2_meltAll_1 rfl hl (by decide) rfl (fun ls hl => ?_)
  have loop1 : ∀ (d_1 k_2 : Nat) (a1 : Nat → Nat → Int32) (H : Heap) (locs : List Loc) (ls : Array Slot), k_2 + d_1 = n → va_P D vwCl (wX cI ad f a1 ta) H → va_S (wA 25 ad) s.heap H locs → lv_has ls 4 [(3, .int (nI k_2)), (0, .ref (ad 0)), (1, .ref (ad 9)), (2, .int p0)] → W p l e (headSpec wsX2_meltAll { frames := 2, cells := 0, slots := 0, locals := 45 }).room s m ([.ref (ad 0), .ref (ad 9), .int p0] : List Value).toArray below meth cd H locs 0 0 (MQ below (va_Qi (fun (r : Int32) (u : SX) => (r, u) = FX2_meltAll_at9_L2 f ta n z c p0 d_1 k_2 a1) (fun u t => va_P D vwCl (wX cI ad u.1 u.2.1 u.2.2) t.heap) (wA 25 ad)) ([.ref (ad 0), .ref (ad 9), .int p0] : List Value).toArray s 0 0 (wA 25 ad)) (F0 m 2 ls []) := by
    intro d_1
    induction d_1 with
    | zero =>
      intro k_2 a1 H locs ls hk1 hP hS hl
      refine lv_iload_n E.1 E.2.1 dX2_meltAll_2 rfl (lv_at hl 0 rfl) ?_
      refine lv_aload_n E.1 E.2.1 dX2_meltAll_3 rfl (lv_at hl 1 rfl) ?_
      refine xg_0_7 E hK hP in_2 w_0 dX2_meltAll_4 ?_
      refine lv_topi (fun y_3 ey_3 => ?_)
      obtain rfl : y_3 = nI n := ey_3.trans (hn)
      refine lv_icmp_ge (x := nI k_2) (y := nI n) (tgt := 44) E.1 E.2.1 dX2_meltAll_7 (by decide) (fun _ => ?_) (fun h9 => absurd (nI_le (a := n) (b := k_2) (by omega) (by omega)) h9)
      refine lv_aload_n E.1 E.2.1 dX2_meltAll_44 rfl (lv_at hl 1 rfl) ?_
      refine lv_aload_n E.1 E.2.1 dX2_meltAll_45 rfl (lv_at hl 2 rfl) ?_
      refine g_VR (As := [.ref (ad 9)]) (rest := []) E hK hP (c_X2_keptIn_at9 l D cI cB ad f a1 ta n z c hX) (cwV 1 E.2.2.2.2 gX2_meltAll_X2_keptIn rfl rfl rfl (by decide +kernel) ⟨Nat.le_of_ble_eq_true rfl, Nat.le_of_ble_eq_true rfl⟩) (rx hK hP) rfl hl.1 rfl (Nat.le_of_ble_eq_true rfl) dX2_meltAll_46 ⟨Nat.zero_le _, Nat.zero_le _⟩ ?_
      exact W.iret (v := FX2_keptIn_at9 f a1 ta n z c) E.1 E.2.1 hr (fun t ht _ => ⟨⟨FX2_keptIn_at9 f a1 ta n z c, (f, a1, ta), rfl, (by rw [FX2_meltAll_at9_L2]), (show va_P D vwCl (wX cI ad f a1 ta) t.heap from by rw [ht]; exact hP)⟩, hS.F ht⟩) hS.2.2 dX2_meltAll_49
    | succ d_1 ih1 =>
      intro k_2 a1 H locs ls hk1 hP hS hl
      refine lv_iload_n E.1 E.2.1 dX2_meltAll_2 rfl (lv_at hl 0 rfl) ?_
      refine lv_aload_n E.1 E.2.1 dX2_meltAll_3 rfl (lv_at hl 1 rfl) ?_
      refine xg_0_7 E hK hP in_2 w_0 dX2_meltAll_4 ?_
      refine lv_topi (fun y_4 ey_4 => ?_)
      obtain rfl : y_4 = nI n := ey_4.trans (hn)
      refine lv_icmp_ge (x := nI k_2) (y := nI n) (tgt := 44) E.1 E.2.1 dX2_meltAll_7 (by decide) (fun h9 => absurd h9 (nI_ge (a := k_2) (b := n) (by omega) (by omega))) (fun _ => ?_)
      refine lv_aload_n E.1 E.2.1 dX2_meltAll_10 rfl (lv_at hl 2 rfl) ?_
      refine lv_iload_n E.1 E.2.1 dX2_meltAll_11 rfl (lv_at hl 0 rfl) ?_
      refine lv_aload_n E.1 E.2.1 dX2_meltAll_12 rfl (lv_at hl 2 rfl) ?_
      refine lv_iload_n E.1 E.2.1 dX2_meltAll_13 rfl (lv_at hl 0 rfl) ?_
      refine xl_9 (i := nI k_2) E hK hP (vp_in_nI (by omega) (by omega)) dX2_meltAll_14 ?_
      refine lv_topi (fun y_5 ey_5 => ?_)
      obtain rfl : y_5 = a1 9 k_2 := ey_5.trans (by rw [nI_clamp (show k_2 < 2 ^ 31 by omega)] <;> rfl)
      refine lv_aload_n E.1 E.2.1 dX2_meltAll_15 rfl (lv_at hl 1 rfl) ?_
      refine xg_0_1 E hK hP in_2 w_1 dX2_meltAll_16 ?_
      refine lv_iload_n E.1 E.2.1 dX2_meltAll_19 rfl (lv_at hl 0 rfl) ?_
      refine xl_2 (i := nI k_2) E hK hP (vp_in_nI (by omega) (by omega)) dX2_meltAll_20 ?_
      refine lv_topi (fun y_6 ey_6 => ?_)
      obtain rfl : y_6 = a1 2 k_2 := ey_6.trans (by rw [nI_clamp (show k_2 < 2 ^ 31 by omega)] <;> rfl)
      refine lv_iload_n E.1 E.2.1 dX2_meltAll_21 rfl (lv_at hl 3 rfl) ?_
      refine lv_aload_n E.1 E.2.1 dX2_meltAll_22 rfl (lv_at hl 1 rfl) ?_
      refine xg_0_3 E hK hP in_2 w_2 dX2_meltAll_23 ?_
      refine xg_4_6 E hK hP in_1 w_3 dX2_meltAll_26 ?_
      refine lv_iload_n E.1 E.2.1 dX2_meltAll_29 rfl (lv_at hl 0 rfl) ?_
      refine xl_11 (i := nI k_2) E hK hP (vp_in_nI (by omega) (by omega)) dX2_meltAll_30 ?_
      refine lv_topi (fun y_7 ey_7 => ?_)
      obtain rfl : y_7 = a1 11 k_2 := ey_7.trans (by rw [nI_clamp (show k_2 < 2 ^ 31 by omega)] <;> rfl)
      refine g_SR (As := [.int (a1 2 k_2), .int p0, .int (a1 11 k_2)]) (rest := [.int (a1 9 k_2), .int (nI k_2), .ref (ad 9)]) E hK (c_X2_melting l D cI cB (a1 2 k_2) p0 (a1 11 k_2)) (va_cwS 3 E.2.2.2.2 gX2_meltAll_X2_melting rfl rfl rfl (by decide +kernel) ⟨Nat.le_of_ble_eq_true rfl, Nat.le_of_ble_eq_true rfl⟩) rfl hl.1 rfl (Nat.le_of_ble_eq_true rfl) dX2_meltAll_31 ⟨Nat.zero_le _, Nat.zero_le _⟩ ?_
      refine g_SR (As := [.int (a1 9 k_2), .int (FX2_melting (a1 2 k_2) p0 (a1 11 k_2))]) (rest := [.int (nI k_2), .ref (ad 9)]) E hK (c_X2_leftOf l D cI cB (a1 9 k_2) (FX2_melting (a1 2 k_2) p0 (a1 11 k_2))) (va_cwS 2 E.2.2.2.2 gX2_meltAll_X2_leftOf rfl rfl rfl (by decide +kernel) ⟨Nat.le_of_ble_eq_true rfl, Nat.le_of_ble_eq_true rfl⟩) rfl hl.1 rfl (Nat.le_of_ble_eq_true rfl) dX2_meltAll_34 ⟨Nat.zero_le _, Nat.zero_le _⟩ ?_
      refine xs_9 (v := FX2_leftOf (a1 9 k_2) (FX2_melting (a1 2 k_2) p0 (a1 11 k_2))) (i := nI k_2) E hK hP hI hS (vp_in_nI (by omega) (by omega)) dX2_meltAll_37 (fun H locs hP hS => ?_)
      rw [nI_clamp (show k_2 < 2 ^ 31 by omega)] at hP
      have hP : va_P D vwCl (wX cI ad f (uA a1 9 (upd (a1 9) k_2 (FX2_leftOf (a1 9 k_2) (FX2_melting (a1 2 k_2) p0 (a1 11 k_2))))) ta) H := hP
      refine lv_iinc (v := nI (k_2 + 1)) (k := 0) (lv' := [(3, .int (nI (k_2 + 1))), (0, .ref (ad 0)), (1, .ref (ad 9)), (2, .int p0)]) E.1 E.2.1 dX2_meltAll_38 hl rfl (nI_1 k_2) (by decide) rfl (fun ls hl => ?_)
      refine lv_goto (tgt := 2) E.1 E.2.1 dX2_meltAll_41 (by decide) ?_
      rw [show FX2_meltAll_at9_L2 f ta n z c p0 (d_1 + 1) k_2 a1 = FX2_meltAll_at9_L2 f ta n z c p0 d_1 (k_2 + 1) (uA a1 9 (upd (a1 9) k_2 (FX2_leftOf (a1 9 k_2) (FX2_melting (a1 2 k_2) p0 (a1 11 k_2))))) from by rw [FX2_meltAll_at9_L2]]
      exact ih1 (k_2 + 1) (uA a1 9 (upd (a1 9) k_2 (FX2_leftOf (a1 9 k_2) (FX2_melting (a1 2 k_2) p0 (a1 11 k_2))))) _ _ ls (by omega) hP hS (lv_sub hl [0, 1, 2, 3] rfl)
  rw [show FX2_meltAll_at9 f a ta n z c p0 = FX2_meltAll_at9_L2 f ta n z c p0 n 0 a from by rw [FX2_meltAll_at9]]
  have hl : lv_has ls 4 [(3, .int (nI 0)), (0, .ref (ad 0)), (1, .ref (ad 9)), (2, .int p0)] := lv_sub hl [0, 1, 2, 3] rfl
  exact loop1 _ _ a _ _ ls (by omega) hP hS (lv_sub hl [0, 1, 2, 3] rfl)
def FX2_meltAll_at6_L2 (f : Nat → Int32) (a : Nat → Nat → Int32) (n : Nat) (z : Nat) (c : Nat) (p0 : Int32) : Nat → Nat → (Nat → Nat → Int32) → Int32 × SX
  | 0, k_2, ta1 => (FX2_keptIn_at6 f a ta1 n z c, f, a, ta1)
  | d_1 + 1, k_2, ta1 => FX2_meltAll_at6_L2 f a n z c p0 d_1 (k_2 + 1) (uA ta1 6 (upd (ta1 6) k_2 (FX2_leftOf (ta1 6 k_2) (FX2_melting (a 2 k_2) p0 (a 11 k_2)))))
def FX2_meltAll_at6 (f : Nat → Int32) (a : Nat → Nat → Int32) (ta : Nat → Nat → Int32) (n : Nat) (z : Nat) (c : Nat) (p0 : Int32) : Int32 × SX := FX2_meltAll_at6_L2 f a n z c p0 n 0 ta
set_option maxHeartbeats 4000000 in
set_option maxRecDepth 100000 in
/-- a day over a row of snow -/
theorem c_X2_meltAll_at6 (l : Launch) (D : va_G) (cI cB : ClassId) (ad : Nat → Nat) (f : Nat → Int32) (a ta : Nat → Nat → Int32) (n z c : Nat) (hX : IX n z c f) (hI : wI 25 ad) (p0 : Int32) : Met l yX2_meltAll wsX2_meltAll ({ frames := 2, cells := 0, slots := 0, locals := 45 }) (GPc D cI cB (wX cI ad f a ta) [.ref (ad 0), .ref (ad 6), .int p0]) (va_Qi (fun (r : Int32) (u : SX) => (r, u) = FX2_meltAll_at6 f a ta n z c p0) (fun u t => va_P D vwCl (wX cI ad u.1 u.2.1 u.2.2) t.heap) (wA 25 ad)) 0 0 (wA 25 ad) := by
  refine Met.ofW (cc := cX2_meltAll) (maxL := 4) (ret := (some .int)) (by decide) rfl ?_
  intro p e s m args below meth cd s₁ B hml hv
  obtain ⟨rfl, hP, hK⟩ := hv
  have hts := atoms_spec (ws := wsX2_meltAll) B.pre
  have E : CallFix p m cd cX2_meltAll 4 s _ wsX2_meltAll RX2 := ⟨B.exec, B.bytes, hml, findClass_of_methodNamed B.named, hts⟩
  have hr := B.returns
  have hlocks := B.notSynchronized
  have h2n := pow6 (n := n) (by have := hX.2.1; omega)
  obtain ⟨hn, hn6, hz, hz21, hc, hc6⟩ := id hX
  have hS : va_S (wA 25 ad) s.heap s.heap [] := va_S.rf
  have in_1 : ∀ w ∈ wsX10, w ∈ wsX2_meltAll := fun _ h => List.mem_cons_of_mem _ (List.mem_append_right _ h)
  have in_2 : ∀ w ∈ wsX20, w ∈ wsX2_meltAll := fun _ h => List.mem_cons_of_mem _ (List.mem_append_left _ (List.mem_append_right _ h))
  have w_0 : (Cond.fieldLink RX2 39 "SnowTerm" "sites" "I").before _ s = true := hts _ (by decide +kernel)
  have w_1 : (Cond.fieldLink RX2 16 "SnowTerm" "kinds" "[I").before _ s = true := hts _ (by decide +kernel)
  have w_2 : (Cond.fieldLink RX2 26 "SnowTerm" "now" "LSnowTerm$Term;").before _ s = true := hts _ (by decide +kernel)
  have w_3 : (Cond.fieldLink RX2 95 "SnowTerm$Term" "feet" "[I").before _ s = true := hts _ (by decide +kernel)
  have hl := lv_entry ([.ref (ad 0), .ref (ad 6), .int p0]) (n := 4) (Nat.le_of_ble_eq_true rfl)
  rw [lg_entry_eq]
  generalize (lg_sl ([.ref (ad 0), .ref (ad 6), .int p0]) ++ List.replicate (4 - (lg_sl ([.ref (ad 0), .ref (ad 6), .int p0])).length) Slot.unset).toArray = ls at hl ⊢
  have hl : lv_has ls 4 [(0, .ref (ad 0)), (1, .ref (ad 6)), (2, .int p0)] := hl
  refine lv_iconst (v := 0) E.1 E.2.1 dX2_meltAll_0 (by decide) ?_
  refine lv_istore_n (lv' := [(3, .int 0), (0, .ref (ad 0)), (1, .ref (ad 6)), (2, .int p0)]) E.1 E.2.1 dX2_meltAll_1 rfl hl (by decide) rfl (fun ls hl => ?_)
  have loop1 : ∀ (d_1 k_2 : Nat) (ta1 : Nat → Nat → Int32) (H : Heap) (locs : List Loc) (ls : Array Slot), k_2 + d_1 = n → va_P D vwCl (wX cI ad f a ta1) H → va_S (wA 25 ad) s.heap H locs → lv_has ls 4 [(3, .int (nI k_2)), (0, .ref (ad 0)), (1, .ref (ad 6)), (2, .int p0)] → W p l e (headSpec wsX2_meltAll { frames := 2, cells := 0, slots := 0, locals := 45 }).room s m ([.ref (ad 0), .ref (ad 6), .int p0] : List Value).toArray below meth cd H locs 0 0 (MQ below (va_Qi (fun (r : Int32) (u : SX) => (r, u) = FX2_meltAll_at6_L2 f a n z c p0 d_1 k_2 ta1) (fun u t => va_P D vwCl (wX cI ad u.1 u.2.1 u.2.2) t.heap) (wA 25 ad)) ([.ref (ad 0), .ref (ad 6), .int p0] : List Value).toArray s 0 0 (wA 25 ad)) (F0 m 2 ls []) := by
    intro d_1
    induction d_1 with
    | zero =>
      intro k_2 ta1 H locs ls hk1 hP hS hl
      refine lv_iload_n E.1 E.2.1 dX2_meltAll_2 rfl (lv_at hl 0 rfl) ?_
      refine lv_aload_n E.1 E.2.1 dX2_meltAll_3 rfl (lv_at hl 1 rfl) ?_
      refine xg_0_7 E hK hP in_2 w_0 dX2_meltAll_4 ?_
      refine lv_topi (fun y_3 ey_3 => ?_)
      obtain rfl : y_3 = nI n := ey_3.trans (hn)
      refine lv_icmp_ge (x := nI k_2) (y := nI n) (tgt := 44) E.1 E.2.1 dX2_meltAll_7 (by decide) (fun _ => ?_) (fun h9 => absurd (nI_le (a := n) (b := k_2) (by omega) (by omega)) h9)
      refine lv_aload_n E.1 E.2.1 dX2_meltAll_44 rfl (lv_at hl 1 rfl) ?_
      refine lv_aload_n E.1 E.2.1 dX2_meltAll_45 rfl (lv_at hl 2 rfl) ?_
      refine g_VR (As := [.ref (ad 6)]) (rest := []) E hK hP (c_X2_keptIn_at6 l D cI cB ad f a ta1 n z c hX) (cwV 1 E.2.2.2.2 gX2_meltAll_X2_keptIn rfl rfl rfl (by decide +kernel) ⟨Nat.le_of_ble_eq_true rfl, Nat.le_of_ble_eq_true rfl⟩) (rx hK hP) rfl hl.1 rfl (Nat.le_of_ble_eq_true rfl) dX2_meltAll_46 ⟨Nat.zero_le _, Nat.zero_le _⟩ ?_
      exact W.iret (v := FX2_keptIn_at6 f a ta1 n z c) E.1 E.2.1 hr (fun t ht _ => ⟨⟨FX2_keptIn_at6 f a ta1 n z c, (f, a, ta1), rfl, (by rw [FX2_meltAll_at6_L2]), (show va_P D vwCl (wX cI ad f a ta1) t.heap from by rw [ht]; exact hP)⟩, hS.F ht⟩) hS.2.2 dX2_meltAll_49
    | succ d_1 ih1 =>
      intro k_2 ta1 H locs ls hk1 hP hS hl
      refine lv_iload_n E.1 E.2.1 dX2_meltAll_2 rfl (lv_at hl 0 rfl) ?_
      refine lv_aload_n E.1 E.2.1 dX2_meltAll_3 rfl (lv_at hl 1 rfl) ?_
      refine xg_0_7 E hK hP in_2 w_0 dX2_meltAll_4 ?_
      refine lv_topi (fun y_4 ey_4 => ?_)
      obtain rfl : y_4 = nI n := ey_4.trans (hn)
      refine lv_icmp_ge (x := nI k_2) (y := nI n) (tgt := 44) E.1 E.2.1 dX2_meltAll_7 (by decide) (fun h9 => absurd h9 (nI_ge (a := k_2) (b := n) (by omega) (by omega))) (fun _ => ?_)
      refine lv_aload_n E.1 E.2.1 dX2_meltAll_10 rfl (lv_at hl 2 rfl) ?_
      refine lv_iload_n E.1 E.2.1 dX2_meltAll_11 rfl (lv_at hl 0 rfl) ?_
      refine lv_aload_n E.1 E.2.1 dX2_meltAll_12 rfl (lv_at hl 2 rfl) ?_
      refine lv_iload_n E.1 E.2.1 dX2_meltAll_13 rfl (lv_at hl 0 rfl) ?_
      refine xl_6 (i := nI k_2) E hK hP (vp_in_nI (by omega) (by omega)) dX2_meltAll_14 ?_
      refine lv_topi (fun y_5 ey_5 => ?_)
      obtain rfl : y_5 = ta1 6 k_2 := ey_5.trans (by rw [nI_clamp (show k_2 < 2 ^ 31 by omega)] <;> rfl)
      refine lv_aload_n E.1 E.2.1 dX2_meltAll_15 rfl (lv_at hl 1 rfl) ?_
      refine xg_0_1 E hK hP in_2 w_1 dX2_meltAll_16 ?_
      refine lv_iload_n E.1 E.2.1 dX2_meltAll_19 rfl (lv_at hl 0 rfl) ?_
      refine xl_2 (i := nI k_2) E hK hP (vp_in_nI (by omega) (by omega)) dX2_meltAll_20 ?_
      refine lv_topi (fun y_6 ey_6 => ?_)
      obtain rfl : y_6 = a 2 k_2 := ey_6.trans (by rw [nI_clamp (show k_2 < 2 ^ 31 by omega)] <;> rfl)
      refine lv_iload_n E.1 E.2.1 dX2_meltAll_21 rfl (lv_at hl 3 rfl) ?_
      refine lv_aload_n E.1 E.2.1 dX2_meltAll_22 rfl (lv_at hl 1 rfl) ?_
      refine xg_0_3 E hK hP in_2 w_2 dX2_meltAll_23 ?_
      refine xg_4_6 E hK hP in_1 w_3 dX2_meltAll_26 ?_
      refine lv_iload_n E.1 E.2.1 dX2_meltAll_29 rfl (lv_at hl 0 rfl) ?_
      refine xl_11 (i := nI k_2) E hK hP (vp_in_nI (by omega) (by omega)) dX2_meltAll_30 ?_
      refine lv_topi (fun y_7 ey_7 => ?_)
      obtain rfl : y_7 = a 11 k_2 := ey_7.trans (by rw [nI_clamp (show k_2 < 2 ^ 31 by omega)] <;> rfl)
      refine g_SR (As := [.int (a 2 k_2), .int p0, .int (a 11 k_2)]) (rest := [.int (ta1 6 k_2), .int (nI k_2), .ref (ad 6)]) E hK (c_X2_melting l D cI cB (a 2 k_2) p0 (a 11 k_2)) (va_cwS 3 E.2.2.2.2 gX2_meltAll_X2_melting rfl rfl rfl (by decide +kernel) ⟨Nat.le_of_ble_eq_true rfl, Nat.le_of_ble_eq_true rfl⟩) rfl hl.1 rfl (Nat.le_of_ble_eq_true rfl) dX2_meltAll_31 ⟨Nat.zero_le _, Nat.zero_le _⟩ ?_
      refine g_SR (As := [.int (ta1 6 k_2), .int (FX2_melting (a 2 k_2) p0 (a 11 k_2))]) (rest := [.int (nI k_2), .ref (ad 6)]) E hK (c_X2_leftOf l D cI cB (ta1 6 k_2) (FX2_melting (a 2 k_2) p0 (a 11 k_2))) (va_cwS 2 E.2.2.2.2 gX2_meltAll_X2_leftOf rfl rfl rfl (by decide +kernel) ⟨Nat.le_of_ble_eq_true rfl, Nat.le_of_ble_eq_true rfl⟩) rfl hl.1 rfl (Nat.le_of_ble_eq_true rfl) dX2_meltAll_34 ⟨Nat.zero_le _, Nat.zero_le _⟩ ?_
      refine xs_6 (v := FX2_leftOf (ta1 6 k_2) (FX2_melting (a 2 k_2) p0 (a 11 k_2))) (i := nI k_2) E hK hP hI hS (vp_in_nI (by omega) (by omega)) dX2_meltAll_37 (fun H locs hP hS => ?_)
      rw [nI_clamp (show k_2 < 2 ^ 31 by omega)] at hP
      have hP : va_P D vwCl (wX cI ad f a (uA ta1 6 (upd (ta1 6) k_2 (FX2_leftOf (ta1 6 k_2) (FX2_melting (a 2 k_2) p0 (a 11 k_2)))))) H := hP
      refine lv_iinc (v := nI (k_2 + 1)) (k := 0) (lv' := [(3, .int (nI (k_2 + 1))), (0, .ref (ad 0)), (1, .ref (ad 6)), (2, .int p0)]) E.1 E.2.1 dX2_meltAll_38 hl rfl (nI_1 k_2) (by decide) rfl (fun ls hl => ?_)
      refine lv_goto (tgt := 2) E.1 E.2.1 dX2_meltAll_41 (by decide) ?_
      rw [show FX2_meltAll_at6_L2 f a n z c p0 (d_1 + 1) k_2 ta1 = FX2_meltAll_at6_L2 f a n z c p0 d_1 (k_2 + 1) (uA ta1 6 (upd (ta1 6) k_2 (FX2_leftOf (ta1 6 k_2) (FX2_melting (a 2 k_2) p0 (a 11 k_2))))) from by rw [FX2_meltAll_at6_L2]]
      exact ih1 (k_2 + 1) (uA ta1 6 (upd (ta1 6) k_2 (FX2_leftOf (ta1 6 k_2) (FX2_melting (a 2 k_2) p0 (a 11 k_2))))) _ _ ls (by omega) hP hS (lv_sub hl [0, 1, 2, 3] rfl)
  rw [show FX2_meltAll_at6 f a ta n z c p0 = FX2_meltAll_at6_L2 f a n z c p0 n 0 ta from by rw [FX2_meltAll_at6]]
  have hl : lv_has ls 4 [(3, .int (nI 0)), (0, .ref (ad 0)), (1, .ref (ad 6)), (2, .int p0)] := lv_sub hl [0, 1, 2, 3] rfl
  exact loop1 _ _ ta _ _ ls (by omega) hP hS (lv_sub hl [0, 1, 2, 3] rfl)
theorem kp_melt9_L (f : Nat → Int32) (ta : Nat → Nat → Int32) (n z c : Nat) (p0 : Int32) : ∀ (d k : Nat) (a : Nat → Nat → Int32), (FX2_meltAll_at9_L2 f ta n z c p0 d k a).2.1 = f ∧ (FX2_meltAll_at9_L2 f ta n z c p0 d k a).2.2.2 = ta := by
  intro d
  induction d with
  | zero => intro k a; exact ⟨rfl, rfl⟩
  | succ d ih => intro k a; rw [FX2_meltAll_at9_L2]; exact ih _ _
theorem kp_melt9_f (f : Nat → Int32) (a ta : Nat → Nat → Int32) (n z c : Nat) (p0 : Int32) : (FX2_meltAll_at9 f a ta n z c p0).2.1 = f := (kp_melt9_L f ta n z c p0 n 0 a).1
theorem kp_melt9_ta (f : Nat → Int32) (a ta : Nat → Nat → Int32) (n z c : Nat) (p0 : Int32) : (FX2_meltAll_at9 f a ta n z c p0).2.2.2 = ta := (kp_melt9_L f ta n z c p0 n 0 a).2
theorem kp_melt6_L (f : Nat → Int32) (a : Nat → Nat → Int32) (n z c : Nat) (p0 : Int32) : ∀ (d k : Nat) (ta : Nat → Nat → Int32), (FX2_meltAll_at6_L2 f a n z c p0 d k ta).2.1 = f ∧ (FX2_meltAll_at6_L2 f a n z c p0 d k ta).2.2.1 = a := by
  intro d
  induction d with
  | zero => intro k ta; exact ⟨rfl, rfl⟩
  | succ d ih => intro k ta; rw [FX2_meltAll_at6_L2]; exact ih _ _
theorem kp_melt6_f (f : Nat → Int32) (a ta : Nat → Nat → Int32) (n z c : Nat) (p0 : Int32) : (FX2_meltAll_at6 f a ta n z c p0).2.1 = f := (kp_melt6_L f a n z c p0 n 0 ta).1
theorem kp_melt6_a (f : Nat → Int32) (a ta : Nat → Nat → Int32) (n z c : Nat) (p0 : Int32) : (FX2_meltAll_at6 f a ta n z c p0).2.2.1 = a := (kp_melt6_L f a n z c p0 n 0 ta).2

def FX2_day (f : Nat → Int32) (a : Nat → Nat → Int32) (ta : Nat → Nat → Int32) (n : Nat) (z : Nat) (c : Nat) : Int32 × SX := (if nI n = 0 then ((-103), f, a, ta) else ((FX2_meltAll_at9 f a ta n z c (f 5)).1, (FX1_endDay f ((FX2_meltAll_at9 f a ta n z c (f 5)).2.2.1) ta n z c ((FX2_meltAll_at9 f a ta n z c (f 5)).1)).1, (FX1_endDay f ((FX2_meltAll_at9 f a ta n z c (f 5)).2.2.1) ta n z c ((FX2_meltAll_at9 f a ta n z c (f 5)).1)).2.1, (FX1_endDay f ((FX2_meltAll_at9 f a ta n z c (f 5)).2.2.1) ta n z c ((FX2_meltAll_at9 f a ta n z c (f 5)).1)).2.2))
set_option maxHeartbeats 4000000 in
set_option maxRecDepth 100000 in
/-- a day -/
theorem c_X2_day (l : Launch) (D : va_G) (cI cB : ClassId) (ad : Nat → Nat) (f : Nat → Int32) (a ta : Nat → Nat → Int32) (n z c : Nat) (hX : IX n z c f) (hI : wI 25 ad)  : Met l yX2_day wsX2_day ({ frames := 3, cells := 0, slots := 0, locals := 68 }) (GPc D cI cB (wX cI ad f a ta) [.ref (ad 0)]) (va_Qi (fun (r : Int32) (u : SX) => (r, u) = FX2_day f a ta n z c) (fun u t => va_P D vwCl (wX cI ad u.1 u.2.1 u.2.2) t.heap) (wA 25 ad)) 0 0 (wA 25 ad) := by
  refine Met.ofW (cc := cX2_day) (maxL := 2) (ret := (some .int)) (by decide) rfl ?_
  intro p e s m args below meth cd s₁ B hml hv
  obtain ⟨rfl, hP, hK⟩ := hv
  have hts := atoms_spec (ws := wsX2_day) B.pre
  have E : CallFix p m cd cX2_day 2 s _ wsX2_day RX2 := ⟨B.exec, B.bytes, hml, findClass_of_methodNamed B.named, hts⟩
  have hr := B.returns
  have hlocks := B.notSynchronized
  have h2n := pow6 (n := n) (by have := hX.2.1; omega)
  obtain ⟨hn, hn6, hz, hz21, hc, hc6⟩ := id hX
  have hS : va_S (wA 25 ad) s.heap s.heap [] := va_S.rf
  have in_1 : ∀ w ∈ wsX10, w ∈ wsX2_day := fun _ h => List.mem_cons_of_mem _ (List.mem_append_right _ h)
  have in_2 : ∀ w ∈ wsX20, w ∈ wsX2_day := fun _ h => List.mem_cons_of_mem _ (List.mem_append_left _ (List.mem_append_right _ h))
  have w_0 : (Cond.fieldLink RX2 39 "SnowTerm" "sites" "I").before _ s = true := hts _ (by decide +kernel)
  have w_1 : (Cond.fieldLink RX2 26 "SnowTerm" "now" "LSnowTerm$Term;").before _ s = true := hts _ (by decide +kernel)
  have w_2 : (Cond.fieldLink RX2 92 "SnowTerm$Term" "snow" "[I").before _ s = true := hts _ (by decide +kernel)
  have w_3 : (Cond.fieldLink RX2 121 "SnowTerm$Term" "sun" "I").before _ s = true := hts _ (by decide +kernel)
  have hl := lv_entry ([.ref (ad 0)]) (n := 2) (Nat.le_of_ble_eq_true rfl)
  rw [lg_entry_eq]
  generalize (lg_sl ([.ref (ad 0)]) ++ List.replicate (2 - (lg_sl ([.ref (ad 0)])).length) Slot.unset).toArray = ls at hl ⊢
  have hl : lv_has ls 2 [(0, .ref (ad 0))] := hl
  refine lv_aload_n E.1 E.2.1 dX2_day_0 rfl (lv_at hl 0 rfl) ?_
  refine xg_0_7 E hK hP in_2 w_0 dX2_day_1 ?_
  refine lv_topi (fun y_1 ey_1 => ?_)
  obtain rfl : y_1 = nI n := ey_1.trans (hn)
  refine lv_if_ne (x := nI n) (tgt := 10) E.1 E.2.1 dX2_day_4 (by decide) (fun h4 => ?_) (fun h4 => ?_)
  · have h4 := h4
    refine lv_aload_n E.1 E.2.1 dX2_day_10 rfl (lv_at hl 0 rfl) ?_
    refine lv_aload_n E.1 E.2.1 dX2_day_11 rfl (lv_at hl 0 rfl) ?_
    refine xg_0_3 E hK hP in_2 w_1 dX2_day_12 ?_
    refine xg_4_4 E hK hP in_1 w_2 dX2_day_15 ?_
    refine lv_aload_n E.1 E.2.1 dX2_day_18 rfl (lv_at hl 0 rfl) ?_
    refine xg_0_3 E hK hP in_2 w_1 dX2_day_19 ?_
    refine xg_4_1 E hK hP in_1 w_3 dX2_day_22 ?_
    refine g_VWi (As := [.ref (ad 9), .int (f 5)]) (rest := []) E hK hP hS (fun q h => h) (c_X2_meltAll_at9 l D cI cB ad f a ta n z c hX hI (f 5)) (cwV 2 E.2.2.2.2 gX2_day_X2_meltAll rfl rfl rfl (by decide +kernel) ⟨Nat.le_of_ble_eq_true rfl, Nat.le_of_ble_eq_true rfl⟩) (rx hK hP) rfl hl.1 rfl (Nat.le_of_ble_eq_true rfl) dX2_day_25 ⟨Nat.zero_le _, Nat.zero_le _⟩ (fun r_3 u_2 H1 locs hp_4 hP1 hq_5 hS => ?_)
    obtain rfl : r_3 = (FX2_meltAll_at9 f a ta n z c (f 5)).1 := congrArg Prod.fst hp_4
    obtain rfl : u_2 = (FX2_meltAll_at9 f a ta n z c (f 5)).2 := congrArg Prod.snd hp_4
    have hP : va_P D vwCl (wX cI ad ((FX2_meltAll_at9 f a ta n z c (f 5)).2.1) ((FX2_meltAll_at9 f a ta n z c (f 5)).2.2.1) ((FX2_meltAll_at9 f a ta n z c (f 5)).2.2.2)) H1 := hP1
    clear hP1
    generalize H1 = H at hP hS ⊢
    rw [show (FX2_meltAll_at9 f a ta n z c (f 5)).2.1 = f from kp_melt9_f ..] at hP
    rw [show (FX2_meltAll_at9 f a ta n z c (f 5)).2.2.2 = ta from kp_melt9_ta ..] at hP
    have hP : va_P D vwCl (wX cI ad f ((FX2_meltAll_at9 f a ta n z c (f 5)).2.2.1) ta) H := hP
    refine lv_istore_n (lv' := [(1, .int ((FX2_meltAll_at9 f a ta n z c (f 5)).1)), (0, .ref (ad 0))]) E.1 E.2.1 dX2_day_28 rfl hl (by decide) rfl (fun ls hl => ?_)
    refine lv_aload_n E.1 E.2.1 dX2_day_29 rfl (lv_at hl 1 rfl) ?_
    refine xg_0_3 E hK hP in_2 w_1 dX2_day_30 ?_
    refine lv_iload_n E.1 E.2.1 dX2_day_33 rfl (lv_at hl 0 rfl) ?_
    refine g_VWv (As := [.int ((FX2_meltAll_at9 f a ta n z c (f 5)).1)]) (rest := []) E hK hP hS (fun q h => h) (c_X1_endDay l D cI cB ad f ((FX2_meltAll_at9 f a ta n z c (f 5)).2.2.1) ta n z c hX hI ((FX2_meltAll_at9 f a ta n z c (f 5)).1)) (cwV 1 E.2.2.2.2 gX2_day_X1_endDay rfl rfl rfl (by decide +kernel) ⟨Nat.le_of_ble_eq_true rfl, Nat.le_of_ble_eq_true rfl⟩) (rxn hK hP) rfl hl.1 rfl (Nat.le_of_ble_eq_true rfl) dX2_day_34 ⟨Nat.zero_le _, Nat.zero_le _⟩ (fun u_6 H1 locs hp_8 hP1 hq_9 hS => ?_)
    obtain rfl : u_6 = FX1_endDay f ((FX2_meltAll_at9 f a ta n z c (f 5)).2.2.1) ta n z c ((FX2_meltAll_at9 f a ta n z c (f 5)).1) := hp_8
    have hP : va_P D vwCl (wX cI ad ((FX1_endDay f ((FX2_meltAll_at9 f a ta n z c (f 5)).2.2.1) ta n z c ((FX2_meltAll_at9 f a ta n z c (f 5)).1)).1) ((FX1_endDay f ((FX2_meltAll_at9 f a ta n z c (f 5)).2.2.1) ta n z c ((FX2_meltAll_at9 f a ta n z c (f 5)).1)).2.1) ((FX1_endDay f ((FX2_meltAll_at9 f a ta n z c (f 5)).2.2.1) ta n z c ((FX2_meltAll_at9 f a ta n z c (f 5)).1)).2.2)) H1 := hP1
    clear hP1
    generalize H1 = H at hP hS ⊢
    refine lv_iload_n E.1 E.2.1 dX2_day_37 rfl (lv_at hl 0 rfl) ?_
    exact W.iret (v := (FX2_meltAll_at9 f a ta n z c (f 5)).1) E.1 E.2.1 hr (fun t ht _ => ⟨⟨(FX2_meltAll_at9 f a ta n z c (f 5)).1, ((FX1_endDay f ((FX2_meltAll_at9 f a ta n z c (f 5)).2.2.1) ta n z c ((FX2_meltAll_at9 f a ta n z c (f 5)).1)).1, (FX1_endDay f ((FX2_meltAll_at9 f a ta n z c (f 5)).2.2.1) ta n z c ((FX2_meltAll_at9 f a ta n z c (f 5)).1)).2.1, (FX1_endDay f ((FX2_meltAll_at9 f a ta n z c (f 5)).2.2.1) ta n z c ((FX2_meltAll_at9 f a ta n z c (f 5)).1)).2.2), rfl, (by rw [FX2_day, if_neg h4]), (show va_P D vwCl (wX cI ad ((FX1_endDay f ((FX2_meltAll_at9 f a ta n z c (f 5)).2.2.1) ta n z c ((FX2_meltAll_at9 f a ta n z c (f 5)).1)).1) ((FX1_endDay f ((FX2_meltAll_at9 f a ta n z c (f 5)).2.2.1) ta n z c ((FX2_meltAll_at9 f a ta n z c (f 5)).1)).2.1) ((FX1_endDay f ((FX2_meltAll_at9 f a ta n z c (f 5)).2.2.1) ta n z c ((FX2_meltAll_at9 f a ta n z c (f 5)).1)).2.2)) t.heap from by rw [ht]; exact hP)⟩, hS.F ht⟩) hS.2.2 dX2_day_38
  · have h4 := h4
    refine lv_bipush (v := (-103)) E.1 E.2.1 dX2_day_7 (by decide) ?_
    exact W.iret (v := (-103)) E.1 E.2.1 hr (fun t ht _ => ⟨⟨(-103), (f, a, ta), rfl, (by rw [FX2_day, if_pos h4]), (show va_P D vwCl (wX cI ad f a ta) t.heap from by rw [ht]; exact hP)⟩, hS.F ht⟩) hS.2.2 dX2_day_9
def FX2_tellNeeds_L2 (f : Nat → Int32) (a : Nat → Nat → Int32) (n : Nat) (z : Nat) (c : Nat) (p0 : Int32) : Nat → Nat → (Nat → Nat → Int32) → SX
  | 0, k_2, ta1 => (f, a, ta1)
  | d_1 + 1, k_2, ta1 => FX2_tellNeeds_L2 f a n z c p0 d_1 (k_2 + 1) (uA ta1 7 (upd (ta1 7) k_2 (FX2_loadsNeeded f a ta1 n z c (nI k_2) p0)))
def FX2_tellNeeds (f : Nat → Int32) (a : Nat → Nat → Int32) (ta : Nat → Nat → Int32) (n : Nat) (z : Nat) (c : Nat) (p0 : Int32) : SX := FX2_tellNeeds_L2 f a n z c p0 n 0 ta
set_option maxHeartbeats 4000000 in
set_option maxRecDepth 100000 in
/-- what each site needs -/
theorem c_X2_tellNeeds (l : Launch) (D : va_G) (cI cB : ClassId) (ad : Nat → Nat) (f : Nat → Int32) (a ta : Nat → Nat → Int32) (n z c : Nat) (hX : IX n z c f) (hI : wI 25 ad) (p0 : Int32) : Met l yX2_tellNeeds wsX2_tellNeeds ({ frames := 3, cells := 0, slots := 0, locals := 67 }) (GPc D cI cB (wX cI ad f a ta) [.ref (ad 0), .int p0]) (va_Qv (fun u : SX => u = FX2_tellNeeds f a ta n z c p0) (fun u t => va_P D vwCl (wX cI ad u.1 u.2.1 u.2.2) t.heap) (wA 25 ad)) 0 0 (wA 25 ad) := by
  refine Met.ofW (cc := cX2_tellNeeds) (maxL := 3) (ret := none) (by decide) rfl ?_
  intro p e s m args below meth cd s₁ B hml hv
  obtain ⟨rfl, hP, hK⟩ := hv
  have hts := atoms_spec (ws := wsX2_tellNeeds) B.pre
  have E : CallFix p m cd cX2_tellNeeds 3 s _ wsX2_tellNeeds RX2 := ⟨B.exec, B.bytes, hml, findClass_of_methodNamed B.named, hts⟩
  have hr := B.returns
  have hlocks := B.notSynchronized
  have h2n := pow6 (n := n) (by have := hX.2.1; omega)
  obtain ⟨hn, hn6, hz, hz21, hc, hc6⟩ := id hX
  have hS : va_S (wA 25 ad) s.heap s.heap [] := va_S.rf
  have in_2 : ∀ w ∈ wsX20, w ∈ wsX2_tellNeeds := fun _ h => List.mem_cons_of_mem _ (List.mem_append_left _ (List.mem_append_right _ h))
  have w_0 : (Cond.fieldLink RX2 39 "SnowTerm" "sites" "I").before _ s = true := hts _ (by decide +kernel)
  have w_1 : (Cond.fieldLink RX2 36 "SnowTerm" "needs" "[I").before _ s = true := hts _ (by decide +kernel)
  have hl := lv_entry ([.ref (ad 0), .int p0]) (n := 3) (Nat.le_of_ble_eq_true rfl)
  rw [lg_entry_eq]
  generalize (lg_sl ([.ref (ad 0), .int p0]) ++ List.replicate (3 - (lg_sl ([.ref (ad 0), .int p0])).length) Slot.unset).toArray = ls at hl ⊢
  have hl : lv_has ls 3 [(0, .ref (ad 0)), (1, .int p0)] := hl
  refine lv_iconst (v := 0) E.1 E.2.1 dX2_tellNeeds_0 (by decide) ?_
  refine lv_istore_n (lv' := [(2, .int 0), (0, .ref (ad 0)), (1, .int p0)]) E.1 E.2.1 dX2_tellNeeds_1 rfl hl (by decide) rfl (fun ls hl => ?_)
  have loop1 : ∀ (d_1 k_2 : Nat) (ta1 : Nat → Nat → Int32) (H : Heap) (locs : List Loc) (ls : Array Slot), k_2 + d_1 = n → va_P D vwCl (wX cI ad f a ta1) H → va_S (wA 25 ad) s.heap H locs → lv_has ls 3 [(2, .int (nI k_2)), (0, .ref (ad 0)), (1, .int p0)] → W p l e (headSpec wsX2_tellNeeds { frames := 3, cells := 0, slots := 0, locals := 67 }).room s m ([.ref (ad 0), .int p0] : List Value).toArray below meth cd H locs 0 0 (MQ below (va_Qv (fun u : SX => u = FX2_tellNeeds_L2 f a n z c p0 d_1 k_2 ta1) (fun u t => va_P D vwCl (wX cI ad u.1 u.2.1 u.2.2) t.heap) (wA 25 ad)) ([.ref (ad 0), .int p0] : List Value).toArray s 0 0 (wA 25 ad)) (F0 m 2 ls []) := by
    intro d_1
    induction d_1 with
    | zero =>
      intro k_2 ta1 H locs ls hk1 hP hS hl
      refine lv_iload_n E.1 E.2.1 dX2_tellNeeds_2 rfl (lv_at hl 0 rfl) ?_
      refine lv_aload_n E.1 E.2.1 dX2_tellNeeds_3 rfl (lv_at hl 1 rfl) ?_
      refine xg_0_7 E hK hP in_2 w_0 dX2_tellNeeds_4 ?_
      refine lv_topi (fun y_3 ey_3 => ?_)
      obtain rfl : y_3 = nI n := ey_3.trans (hn)
      refine lv_icmp_ge (x := nI k_2) (y := nI n) (tgt := 28) E.1 E.2.1 dX2_tellNeeds_7 (by decide) (fun _ => ?_) (fun h9 => absurd (nI_le (a := n) (b := k_2) (by omega) (by omega)) h9)
      exact W.vret E.1 E.2.1 hr (fun t ht _ => ⟨⟨(f, a, ta1), rfl, (by rw [FX2_tellNeeds_L2]), (show va_P D vwCl (wX cI ad f a ta1) t.heap from by rw [ht]; exact hP)⟩, hS.F ht⟩) hS.2.2 dX2_tellNeeds_28
    | succ d_1 ih1 =>
      intro k_2 ta1 H locs ls hk1 hP hS hl
      refine lv_iload_n E.1 E.2.1 dX2_tellNeeds_2 rfl (lv_at hl 0 rfl) ?_
      refine lv_aload_n E.1 E.2.1 dX2_tellNeeds_3 rfl (lv_at hl 1 rfl) ?_
      refine xg_0_7 E hK hP in_2 w_0 dX2_tellNeeds_4 ?_
      refine lv_topi (fun y_4 ey_4 => ?_)
      obtain rfl : y_4 = nI n := ey_4.trans (hn)
      refine lv_icmp_ge (x := nI k_2) (y := nI n) (tgt := 28) E.1 E.2.1 dX2_tellNeeds_7 (by decide) (fun h9 => absurd h9 (nI_ge (a := k_2) (b := n) (by omega) (by omega))) (fun _ => ?_)
      refine lv_aload_n E.1 E.2.1 dX2_tellNeeds_10 rfl (lv_at hl 1 rfl) ?_
      refine xg_0_6 E hK hP in_2 w_1 dX2_tellNeeds_11 ?_
      refine lv_iload_n E.1 E.2.1 dX2_tellNeeds_14 rfl (lv_at hl 0 rfl) ?_
      refine lv_aload_n E.1 E.2.1 dX2_tellNeeds_15 rfl (lv_at hl 1 rfl) ?_
      refine lv_iload_n E.1 E.2.1 dX2_tellNeeds_16 rfl (lv_at hl 0 rfl) ?_
      refine lv_iload_n E.1 E.2.1 dX2_tellNeeds_17 rfl (lv_at hl 2 rfl) ?_
      refine g_VR (As := [.int (nI k_2), .int p0]) (rest := [.int (nI k_2), .ref (ad 7)]) E hK hP (c_X2_loadsNeeded l D cI cB ad f a ta1 n z c hX (nI k_2) p0 (vp_in_nI (by omega) (by omega))) (cwV 2 E.2.2.2.2 gX2_tellNeeds_X2_loadsNeeded rfl rfl rfl (by decide +kernel) ⟨Nat.le_of_ble_eq_true rfl, Nat.le_of_ble_eq_true rfl⟩) (rx hK hP) rfl hl.1 rfl (Nat.le_of_ble_eq_true rfl) dX2_tellNeeds_18 ⟨Nat.zero_le _, Nat.zero_le _⟩ ?_
      refine xs_7 (v := FX2_loadsNeeded f a ta1 n z c (nI k_2) p0) (i := nI k_2) E hK hP hI hS (vp_in_nI (by omega) (by omega)) dX2_tellNeeds_21 (fun H locs hP hS => ?_)
      rw [nI_clamp (show k_2 < 2 ^ 31 by omega)] at hP
      have hP : va_P D vwCl (wX cI ad f a (uA ta1 7 (upd (ta1 7) k_2 (FX2_loadsNeeded f a ta1 n z c (nI k_2) p0)))) H := hP
      refine lv_iinc (v := nI (k_2 + 1)) (k := 0) (lv' := [(2, .int (nI (k_2 + 1))), (0, .ref (ad 0)), (1, .int p0)]) E.1 E.2.1 dX2_tellNeeds_22 hl rfl (nI_1 k_2) (by decide) rfl (fun ls hl => ?_)
      refine lv_goto (tgt := 2) E.1 E.2.1 dX2_tellNeeds_25 (by decide) ?_
      rw [show FX2_tellNeeds_L2 f a n z c p0 (d_1 + 1) k_2 ta1 = FX2_tellNeeds_L2 f a n z c p0 d_1 (k_2 + 1) (uA ta1 7 (upd (ta1 7) k_2 (FX2_loadsNeeded f a ta1 n z c (nI k_2) p0))) from by rw [FX2_tellNeeds_L2]]
      exact ih1 (k_2 + 1) (uA ta1 7 (upd (ta1 7) k_2 (FX2_loadsNeeded f a ta1 n z c (nI k_2) p0))) _ _ ls (by omega) hP hS (lv_sub hl [0, 1, 2] rfl)
  rw [show FX2_tellNeeds f a ta n z c p0 = FX2_tellNeeds_L2 f a n z c p0 n 0 ta from by rw [FX2_tellNeeds]]
  have hl : lv_has ls 3 [(2, .int (nI 0)), (0, .ref (ad 0)), (1, .int p0)] := lv_sub hl [0, 1, 2] rfl
  exact loop1 _ _ ta _ _ ls (by omega) hP hS (lv_sub hl [0, 1, 2] rfl)
theorem kp_tell_L (f : Nat → Int32) (a : Nat → Nat → Int32) (n z c : Nat) (p0 : Int32) : ∀ (d k : Nat) (ta : Nat → Nat → Int32), (FX2_tellNeeds_L2 f a n z c p0 d k ta).1 = f ∧ (FX2_tellNeeds_L2 f a n z c p0 d k ta).2.1 = a := by
  intro d
  induction d with
  | zero => intro k ta; exact ⟨rfl, rfl⟩
  | succ d ih => intro k ta; rw [FX2_tellNeeds_L2]; exact ih _ _
theorem kp_tell_f (f : Nat → Int32) (a ta : Nat → Nat → Int32) (n z c : Nat) (p0 : Int32) : (FX2_tellNeeds f a ta n z c p0).1 = f := (kp_tell_L f a n z c p0 n 0 ta).1
theorem kp_tell_a (f : Nat → Int32) (a ta : Nat → Nat → Int32) (n z c : Nat) (p0 : Int32) : (FX2_tellNeeds f a ta n z c p0).2.1 = a := (kp_tell_L f a n z c p0 n 0 ta).2

def FX2_plan (f : Nat → Int32) (a : Nat → Nat → Int32) (ta : Nat → Nat → Int32) (n : Nat) (z : Nat) (c : Nat) (p0 : Int32) (p1 : Int32) (p2 : Int32) : Int32 × SX := (if FX2_isWithin p0 0 60 = 0 then ((-102), f, a, ta) else (if FX2_isWithin p1 0 9 = 0 then ((-102), f, a, ta) else (if FX2_isWithin p2 0 3 = 0 then ((-102), f, a, ta) else (if nI n = 0 then ((-103), f, a, ta) else (if p2 = 0 then (FJ6_bitCount_0f7a4 (FX2_bestPlan f a ((FX2_tellNeeds f a ta n z c p1).2.2) n z c p0), f, a, (FX2_tellNeeds f a ta n z c p1).2.2) else (if p2 = 1 then (FX2_bestPlan f a ((FX2_tellNeeds f a ta n z c p1).2.2) n z c p0, f, a, (FX2_tellNeeds f a ta n z c p1).2.2) else (if p2 = 2 then (FX2_loadsOf f a ((FX2_tellNeeds f a ta n z c p1).2.2) n z c (FX2_bestPlan f a ((FX2_tellNeeds f a ta n z c p1).2.2) n z c p0), f, a, (FX2_tellNeeds f a ta n z c p1).2.2) else (FX2_costOf f a ((FX2_tellNeeds f a ta n z c p1).2.2) n z c (FX2_bestPlan f a ((FX2_tellNeeds f a ta n z c p1).2.2) n z c p0), f, a, (FX2_tellNeeds f a ta n z c p1).2.2))))))))
set_option maxHeartbeats 4000000 in
set_option maxRecDepth 100000 in
/-- plan -/
theorem c_X2_plan (l : Launch) (D : va_G) (cI cB : ClassId) (ad : Nat → Nat) (f : Nat → Int32) (a ta : Nat → Nat → Int32) (n z c : Nat) (hX : IX n z c f) (hI : wI 25 ad) (p0 : Int32) (p1 : Int32) (p2 : Int32) : Met l yX2_plan wsX2_plan ({ frames := 4, cells := 0, slots := 0, locals := 91 }) (GPc D cI cB (wX cI ad f a ta) [.ref (ad 0), .int p0, .int p1, .int p2]) (va_Qi (fun (r : Int32) (u : SX) => (r, u) = FX2_plan f a ta n z c p0 p1 p2) (fun u t => va_P D vwCl (wX cI ad u.1 u.2.1 u.2.2) t.heap) (wA 25 ad)) 0 0 (wA 25 ad) := by
  refine Met.ofW (cc := cX2_plan) (maxL := 5) (ret := (some .int)) (by decide) rfl ?_
  intro p e s m args below meth cd s₁ B hml hv
  obtain ⟨rfl, hP, hK⟩ := hv
  have hts := atoms_spec (ws := wsX2_plan) B.pre
  have E : CallFix p m cd cX2_plan 5 s _ wsX2_plan RX2 := ⟨B.exec, B.bytes, hml, findClass_of_methodNamed B.named, hts⟩
  have hr := B.returns
  have hlocks := B.notSynchronized
  have h2n := pow6 (n := n) (by have := hX.2.1; omega)
  obtain ⟨hn, hn6, hz, hz21, hc, hc6⟩ := id hX
  have hS : va_S (wA 25 ad) s.heap s.heap [] := va_S.rf
  have in_2 : ∀ w ∈ wsX20, w ∈ wsX2_plan := fun _ h => List.mem_cons_of_mem _ (List.mem_append_left _ (List.mem_append_right _ h))
  have w_0 : (Cond.fieldLink RX2 39 "SnowTerm" "sites" "I").before _ s = true := hts _ (by decide +kernel)
  have hl := lv_entry ([.ref (ad 0), .int p0, .int p1, .int p2]) (n := 5) (Nat.le_of_ble_eq_true rfl)
  rw [lg_entry_eq]
  generalize (lg_sl ([.ref (ad 0), .int p0, .int p1, .int p2]) ++ List.replicate (5 - (lg_sl ([.ref (ad 0), .int p0, .int p1, .int p2])).length) Slot.unset).toArray = ls at hl ⊢
  have hl : lv_has ls 5 [(0, .ref (ad 0)), (1, .int p0), (2, .int p1), (3, .int p2)] := hl
  refine lv_iload_n E.1 E.2.1 dX2_plan_0 rfl (lv_at hl 1 rfl) ?_
  refine lv_iconst (v := 0) E.1 E.2.1 dX2_plan_1 (by decide) ?_
  refine lv_bipush (v := 60) E.1 E.2.1 dX2_plan_2 (by decide) ?_
  refine g_SR (As := [.int p0, .int 0, .int 60]) (rest := []) E hK (c_X2_isWithin l D cI cB p0 0 60) (va_cwS 3 E.2.2.2.2 gX2_plan_X2_isWithin rfl rfl rfl (by decide +kernel) ⟨Nat.le_of_ble_eq_true rfl, Nat.le_of_ble_eq_true rfl⟩) rfl hl.1 rfl (Nat.le_of_ble_eq_true rfl) dX2_plan_4 ⟨Nat.zero_le _, Nat.zero_le _⟩ ?_
  refine lv_if_eq (x := FX2_isWithin p0 0 60) (tgt := 29) E.1 E.2.1 dX2_plan_7 (by decide) (fun h7 => ?_) (fun h7 => ?_)
  · have h7 := h7
    refine lv_bipush (v := (-102)) E.1 E.2.1 dX2_plan_29 (by decide) ?_
    exact W.iret (v := (-102)) E.1 E.2.1 hr (fun t ht _ => ⟨⟨(-102), (f, a, ta), rfl, (by rw [FX2_plan, if_pos h7]), (show va_P D vwCl (wX cI ad f a ta) t.heap from by rw [ht]; exact hP)⟩, hS.F ht⟩) hS.2.2 dX2_plan_31
  · have h7 := h7
    refine lv_iload_n E.1 E.2.1 dX2_plan_10 rfl (lv_at hl 2 rfl) ?_
    refine lv_iconst (v := 0) E.1 E.2.1 dX2_plan_11 (by decide) ?_
    refine lv_bipush (v := 9) E.1 E.2.1 dX2_plan_12 (by decide) ?_
    refine g_SR (As := [.int p1, .int 0, .int 9]) (rest := []) E hK (c_X2_isWithin l D cI cB p1 0 9) (va_cwS 3 E.2.2.2.2 gX2_plan_X2_isWithin rfl rfl rfl (by decide +kernel) ⟨Nat.le_of_ble_eq_true rfl, Nat.le_of_ble_eq_true rfl⟩) rfl hl.1 rfl (Nat.le_of_ble_eq_true rfl) dX2_plan_14 ⟨Nat.zero_le _, Nat.zero_le _⟩ ?_
    refine lv_if_eq (x := FX2_isWithin p1 0 9) (tgt := 29) E.1 E.2.1 dX2_plan_17 (by decide) (fun h17 => ?_) (fun h17 => ?_)
    · have h17 := h17
      refine lv_bipush (v := (-102)) E.1 E.2.1 dX2_plan_29 (by decide) ?_
      exact W.iret (v := (-102)) E.1 E.2.1 hr (fun t ht _ => ⟨⟨(-102), (f, a, ta), rfl, (by rw [FX2_plan, if_neg h7, if_pos h17]), (show va_P D vwCl (wX cI ad f a ta) t.heap from by rw [ht]; exact hP)⟩, hS.F ht⟩) hS.2.2 dX2_plan_31
    · have h17 := h17
      refine lv_iload_n E.1 E.2.1 dX2_plan_20 rfl (lv_at hl 3 rfl) ?_
      refine lv_iconst (v := 0) E.1 E.2.1 dX2_plan_21 (by decide) ?_
      refine lv_iconst (v := 3) E.1 E.2.1 dX2_plan_22 (by decide) ?_
      refine g_SR (As := [.int p2, .int 0, .int 3]) (rest := []) E hK (c_X2_isWithin l D cI cB p2 0 3) (va_cwS 3 E.2.2.2.2 gX2_plan_X2_isWithin rfl rfl rfl (by decide +kernel) ⟨Nat.le_of_ble_eq_true rfl, Nat.le_of_ble_eq_true rfl⟩) rfl hl.1 rfl (Nat.le_of_ble_eq_true rfl) dX2_plan_23 ⟨Nat.zero_le _, Nat.zero_le _⟩ ?_
      refine lv_if_ne (x := FX2_isWithin p2 0 3) (tgt := 32) E.1 E.2.1 dX2_plan_26 (by decide) (fun h26 => ?_) (fun h26 => ?_)
      · have h26 := h26
        refine lv_aload_n E.1 E.2.1 dX2_plan_32 rfl (lv_at hl 0 rfl) ?_
        refine xg_0_7 E hK hP in_2 w_0 dX2_plan_33 ?_
        refine lv_topi (fun y_1 ey_1 => ?_)
        obtain rfl : y_1 = nI n := ey_1.trans (hn)
        refine lv_if_ne (x := nI n) (tgt := 42) E.1 E.2.1 dX2_plan_36 (by decide) (fun h36 => ?_) (fun h36 => ?_)
        · have h36 := h36
          refine lv_aload_n E.1 E.2.1 dX2_plan_42 rfl (lv_at hl 0 rfl) ?_
          refine lv_iload_n E.1 E.2.1 dX2_plan_43 rfl (lv_at hl 2 rfl) ?_
          refine g_VWv (As := [.int p1]) (rest := []) E hK hP hS (fun q h => h) (c_X2_tellNeeds l D cI cB ad f a ta n z c hX hI p1) (cwV 1 E.2.2.2.2 gX2_plan_X2_tellNeeds rfl rfl rfl (by decide +kernel) ⟨Nat.le_of_ble_eq_true rfl, Nat.le_of_ble_eq_true rfl⟩) (rx hK hP) rfl hl.1 rfl (Nat.le_of_ble_eq_true rfl) dX2_plan_44 ⟨Nat.zero_le _, Nat.zero_le _⟩ (fun u_2 H1 locs hp_4 hP1 hq_5 hS => ?_)
          obtain rfl : u_2 = FX2_tellNeeds f a ta n z c p1 := hp_4
          have hP : va_P D vwCl (wX cI ad ((FX2_tellNeeds f a ta n z c p1).1) ((FX2_tellNeeds f a ta n z c p1).2.1) ((FX2_tellNeeds f a ta n z c p1).2.2)) H1 := hP1
          clear hP1
          generalize H1 = H at hP hS ⊢
          rw [show (FX2_tellNeeds f a ta n z c p1).1 = f from kp_tell_f ..] at hP
          rw [show (FX2_tellNeeds f a ta n z c p1).2.1 = a from kp_tell_a ..] at hP
          have hP : va_P D vwCl (wX cI ad f a ((FX2_tellNeeds f a ta n z c p1).2.2)) H := hP
          refine lv_aload_n E.1 E.2.1 dX2_plan_47 rfl (lv_at hl 0 rfl) ?_
          refine lv_iload_n E.1 E.2.1 dX2_plan_48 rfl (lv_at hl 1 rfl) ?_
          refine g_VR (As := [.int p0]) (rest := []) E hK hP (c_X2_bestPlan l D cI cB ad f a ((FX2_tellNeeds f a ta n z c p1).2.2) n z c hX p0) (cwV 1 E.2.2.2.2 gX2_plan_X2_bestPlan rfl rfl rfl (by decide +kernel) ⟨Nat.le_of_ble_eq_true rfl, Nat.le_of_ble_eq_true rfl⟩) (rx hK hP) rfl hl.1 rfl (Nat.le_of_ble_eq_true rfl) dX2_plan_49 ⟨Nat.zero_le _, Nat.zero_le _⟩ ?_
          refine lv_istore (lv' := [(4, .int (FX2_bestPlan f a ((FX2_tellNeeds f a ta n z c p1).2.2) n z c p0)), (0, .ref (ad 0)), (1, .int p0), (2, .int p1), (3, .int p2)]) E.1 E.2.1 dX2_plan_52 hl (by decide) rfl (fun ls hl => ?_)
          refine lv_iload_n E.1 E.2.1 dX2_plan_54 rfl (lv_at hl 4 rfl) ?_
          by_cases hs55_0 : p2 = 0
          · have hs55_0 := hs55_0
            refine lv_topi (fun y9 ey9 => ?_)
            obtain rfl : y9 = 0 := ey9.trans hs55_0
            refine lv_tableIn (x := 0) (off := 25) (tgt := 80) E.1 E.2.1 dX2_plan_55 (by decide) (by decide) (by decide) (by decide) ?_
            refine lv_iload E.1 E.2.1 dX2_plan_80 (lv_at hl 0 rfl) ?_
            refine g_SR (As := [.int (FX2_bestPlan f a ((FX2_tellNeeds f a ta n z c p1).2.2) n z c p0)]) (rest := []) E hK (c_J6_bitCount_0f7a4 l D cI cB (FX2_bestPlan f a ((FX2_tellNeeds f a ta n z c p1).2.2) n z c p0)) (va_cwS 1 E.2.2.2.2 gX2_plan_J6_bitCount_0f7a4 rfl rfl rfl (by decide +kernel) ⟨Nat.le_of_ble_eq_true rfl, Nat.le_of_ble_eq_true rfl⟩) rfl hl.1 rfl (Nat.le_of_ble_eq_true rfl) dX2_plan_82 ⟨Nat.zero_le _, Nat.zero_le _⟩ ?_
            exact W.iret (v := FJ6_bitCount_0f7a4 (FX2_bestPlan f a ((FX2_tellNeeds f a ta n z c p1).2.2) n z c p0)) E.1 E.2.1 hr (fun t ht _ => ⟨⟨FJ6_bitCount_0f7a4 (FX2_bestPlan f a ((FX2_tellNeeds f a ta n z c p1).2.2) n z c p0), (f, a, (FX2_tellNeeds f a ta n z c p1).2.2), rfl, (by rw [FX2_plan, if_neg h7, if_neg h17, if_neg h26, if_neg h36, if_pos hs55_0]), (show va_P D vwCl (wX cI ad f a ((FX2_tellNeeds f a ta n z c p1).2.2)) t.heap from by rw [ht]; exact hP)⟩, hS.F ht⟩) hS.2.2 dX2_plan_85
          · have hs55_0 := hs55_0
            by_cases hs55_1 : p2 = 1
            · have hs55_1 := hs55_1
              refine lv_topi (fun y9 ey9 => ?_)
              obtain rfl : y9 = 1 := ey9.trans hs55_1
              refine lv_tableIn (x := 1) (off := 31) (tgt := 86) E.1 E.2.1 dX2_plan_55 (by decide) (by decide) (by decide) (by decide) ?_
              refine lv_iload E.1 E.2.1 dX2_plan_86 (lv_at hl 0 rfl) ?_
              exact W.iret (v := FX2_bestPlan f a ((FX2_tellNeeds f a ta n z c p1).2.2) n z c p0) E.1 E.2.1 hr (fun t ht _ => ⟨⟨FX2_bestPlan f a ((FX2_tellNeeds f a ta n z c p1).2.2) n z c p0, (f, a, (FX2_tellNeeds f a ta n z c p1).2.2), rfl, (by rw [FX2_plan, if_neg h7, if_neg h17, if_neg h26, if_neg h36, if_neg hs55_0, if_pos hs55_1]), (show va_P D vwCl (wX cI ad f a ((FX2_tellNeeds f a ta n z c p1).2.2)) t.heap from by rw [ht]; exact hP)⟩, hS.F ht⟩) hS.2.2 dX2_plan_88
            · have hs55_1 := hs55_1
              by_cases hs55_2 : p2 = 2
              · have hs55_2 := hs55_2
                refine lv_topi (fun y9 ey9 => ?_)
                obtain rfl : y9 = 2 := ey9.trans hs55_2
                refine lv_tableIn (x := 2) (off := 34) (tgt := 89) E.1 E.2.1 dX2_plan_55 (by decide) (by decide) (by decide) (by decide) ?_
                refine lv_aload_n E.1 E.2.1 dX2_plan_89 rfl (lv_at hl 1 rfl) ?_
                refine lv_iload E.1 E.2.1 dX2_plan_90 (lv_at hl 0 rfl) ?_
                refine g_VR (As := [.int (FX2_bestPlan f a ((FX2_tellNeeds f a ta n z c p1).2.2) n z c p0)]) (rest := []) E hK hP (c_X2_loadsOf l D cI cB ad f a ((FX2_tellNeeds f a ta n z c p1).2.2) n z c hX (FX2_bestPlan f a ((FX2_tellNeeds f a ta n z c p1).2.2) n z c p0)) (cwV 1 E.2.2.2.2 gX2_plan_X2_loadsOf rfl rfl rfl (by decide +kernel) ⟨Nat.le_of_ble_eq_true rfl, Nat.le_of_ble_eq_true rfl⟩) (rx hK hP) rfl hl.1 rfl (Nat.le_of_ble_eq_true rfl) dX2_plan_92 ⟨Nat.zero_le _, Nat.zero_le _⟩ ?_
                exact W.iret (v := FX2_loadsOf f a ((FX2_tellNeeds f a ta n z c p1).2.2) n z c (FX2_bestPlan f a ((FX2_tellNeeds f a ta n z c p1).2.2) n z c p0)) E.1 E.2.1 hr (fun t ht _ => ⟨⟨FX2_loadsOf f a ((FX2_tellNeeds f a ta n z c p1).2.2) n z c (FX2_bestPlan f a ((FX2_tellNeeds f a ta n z c p1).2.2) n z c p0), (f, a, (FX2_tellNeeds f a ta n z c p1).2.2), rfl, (by rw [FX2_plan, if_neg h7, if_neg h17, if_neg h26, if_neg h36, if_neg hs55_0, if_neg hs55_1, if_pos hs55_2]), (show va_P D vwCl (wX cI ad f a ((FX2_tellNeeds f a ta n z c p1).2.2)) t.heap from by rw [ht]; exact hP)⟩, hS.F ht⟩) hS.2.2 dX2_plan_95
              · have hs55_2 := hs55_2
                refine lv_tableOut (x := p2) (tgt := 96) E.1 E.2.1 dX2_plan_55 (by have q0 := lv_neT hs55_0 (a := 0) (by decide); have q1 := lv_neT hs55_1 (a := 1) (by decide); have q2 := lv_neT hs55_2 (a := 2) (by decide); omega) (by decide) ?_
                refine lv_aload_n E.1 E.2.1 dX2_plan_96 rfl (lv_at hl 1 rfl) ?_
                refine lv_iload E.1 E.2.1 dX2_plan_97 (lv_at hl 0 rfl) ?_
                refine g_VR (As := [.int (FX2_bestPlan f a ((FX2_tellNeeds f a ta n z c p1).2.2) n z c p0)]) (rest := []) E hK hP (c_X2_costOf l D cI cB ad f a ((FX2_tellNeeds f a ta n z c p1).2.2) n z c hX (FX2_bestPlan f a ((FX2_tellNeeds f a ta n z c p1).2.2) n z c p0)) (cwV 1 E.2.2.2.2 gX2_plan_X2_costOf rfl rfl rfl (by decide +kernel) ⟨Nat.le_of_ble_eq_true rfl, Nat.le_of_ble_eq_true rfl⟩) (rx hK hP) rfl hl.1 rfl (Nat.le_of_ble_eq_true rfl) dX2_plan_99 ⟨Nat.zero_le _, Nat.zero_le _⟩ ?_
                exact W.iret (v := FX2_costOf f a ((FX2_tellNeeds f a ta n z c p1).2.2) n z c (FX2_bestPlan f a ((FX2_tellNeeds f a ta n z c p1).2.2) n z c p0)) E.1 E.2.1 hr (fun t ht _ => ⟨⟨FX2_costOf f a ((FX2_tellNeeds f a ta n z c p1).2.2) n z c (FX2_bestPlan f a ((FX2_tellNeeds f a ta n z c p1).2.2) n z c p0), (f, a, (FX2_tellNeeds f a ta n z c p1).2.2), rfl, (by rw [FX2_plan, if_neg h7, if_neg h17, if_neg h26, if_neg h36, if_neg hs55_0, if_neg hs55_1, if_neg hs55_2]), (show va_P D vwCl (wX cI ad f a ((FX2_tellNeeds f a ta n z c p1).2.2)) t.heap from by rw [ht]; exact hP)⟩, hS.F ht⟩) hS.2.2 dX2_plan_102
        · have h36 := h36
          refine lv_bipush (v := (-103)) E.1 E.2.1 dX2_plan_39 (by decide) ?_
          exact W.iret (v := (-103)) E.1 E.2.1 hr (fun t ht _ => ⟨⟨(-103), (f, a, ta), rfl, (by rw [FX2_plan, if_neg h7, if_neg h17, if_neg h26, if_pos h36]), (show va_P D vwCl (wX cI ad f a ta) t.heap from by rw [ht]; exact hP)⟩, hS.F ht⟩) hS.2.2 dX2_plan_41
      · have h26 := h26
        refine lv_bipush (v := (-102)) E.1 E.2.1 dX2_plan_29 (by decide) ?_
        exact W.iret (v := (-102)) E.1 E.2.1 hr (fun t ht _ => ⟨⟨(-102), (f, a, ta), rfl, (by rw [FX2_plan, if_neg h7, if_neg h17, if_pos h26]), (show va_P D vwCl (wX cI ad f a ta) t.heap from by rw [ht]; exact hP)⟩, hS.F ht⟩) hS.2.2 dX2_plan_31
def FX2_bringOneLoad_at6 (f : Nat → Int32) (a : Nat → Nat → Int32) (ta : Nat → Nat → Int32) (n : Nat) (z : Nat) (c : Nat) (p0 : Int32) : SX := (if FX2_isSite f a ta n z c p0 = 0 then (f, a, ta) else (f, a, uA ta 6 (upd (ta 6) p0.toNatClampNeg (FX2_deepened (ta 6 p0.toNatClampNeg) 1))))
set_option maxHeartbeats 4000000 in
set_option maxRecDepth 100000 in
/-- a load -/
theorem c_X2_bringOneLoad_at6 (l : Launch) (D : va_G) (cI cB : ClassId) (ad : Nat → Nat) (f : Nat → Int32) (a ta : Nat → Nat → Int32) (n z c : Nat) (hX : IX n z c f) (hI : wI 25 ad) (p0 : Int32) : Met l yX2_bringOneLoad wsX2_bringOneLoad ({ frames := 2, cells := 0, slots := 0, locals := 34 }) (GPc D cI cB (wX cI ad f a ta) [.ref (ad 0), .ref (ad 6), .int p0]) (va_Qv (fun u : SX => u = FX2_bringOneLoad_at6 f a ta n z c p0) (fun u t => va_P D vwCl (wX cI ad u.1 u.2.1 u.2.2) t.heap) (wA 25 ad)) 0 0 (wA 25 ad) := by
  refine Met.ofW (cc := cX2_bringOneLoad) (maxL := 3) (ret := none) (by decide) rfl ?_
  intro p e s m args below meth cd s₁ B hml hv
  obtain ⟨rfl, hP, hK⟩ := hv
  have hts := atoms_spec (ws := wsX2_bringOneLoad) B.pre
  have E : CallFix p m cd cX2_bringOneLoad 3 s _ wsX2_bringOneLoad RX2 := ⟨B.exec, B.bytes, hml, findClass_of_methodNamed B.named, hts⟩
  have hr := B.returns
  have hlocks := B.notSynchronized
  have h2n := pow6 (n := n) (by have := hX.2.1; omega)
  obtain ⟨hn, hn6, hz, hz21, hc, hc6⟩ := id hX
  have hS : va_S (wA 25 ad) s.heap s.heap [] := va_S.rf
  have hl := lv_entry ([.ref (ad 0), .ref (ad 6), .int p0]) (n := 3) (Nat.le_of_ble_eq_true rfl)
  rw [lg_entry_eq]
  generalize (lg_sl ([.ref (ad 0), .ref (ad 6), .int p0]) ++ List.replicate (3 - (lg_sl ([.ref (ad 0), .ref (ad 6), .int p0])).length) Slot.unset).toArray = ls at hl ⊢
  have hl : lv_has ls 3 [(0, .ref (ad 0)), (1, .ref (ad 6)), (2, .int p0)] := hl
  refine lv_aload_n E.1 E.2.1 dX2_bringOneLoad_0 rfl (lv_at hl 0 rfl) ?_
  refine lv_iload_n E.1 E.2.1 dX2_bringOneLoad_1 rfl (lv_at hl 2 rfl) ?_
  refine g_VR (As := [.int p0]) (rest := []) E hK hP (c_X2_isSite l D cI cB ad f a ta n z c hX p0) (cwV 1 E.2.2.2.2 gX2_bringOneLoad_X2_isSite rfl rfl rfl (by decide +kernel) ⟨Nat.le_of_ble_eq_true rfl, Nat.le_of_ble_eq_true rfl⟩) (rx hK hP) rfl hl.1 rfl (Nat.le_of_ble_eq_true rfl) dX2_bringOneLoad_2 ⟨Nat.zero_le _, Nat.zero_le _⟩ ?_
  refine lv_if_eq (x := FX2_isSite f a ta n z c p0) (tgt := 18) E.1 E.2.1 dX2_bringOneLoad_5 (by decide) (fun h5 => ?_) (fun h5 => ?_)
  · have h5 := h5
    exact W.vret E.1 E.2.1 hr (fun t ht _ => ⟨⟨(f, a, ta), rfl, (by rw [FX2_bringOneLoad_at6, if_pos h5]), (show va_P D vwCl (wX cI ad f a ta) t.heap from by rw [ht]; exact hP)⟩, hS.F ht⟩) hS.2.2 dX2_bringOneLoad_18
  · have h5 := h5
    refine lv_aload_n E.1 E.2.1 dX2_bringOneLoad_8 rfl (lv_at hl 1 rfl) ?_
    refine lv_iload_n E.1 E.2.1 dX2_bringOneLoad_9 rfl (lv_at hl 2 rfl) ?_
    refine lv_aload_n E.1 E.2.1 dX2_bringOneLoad_10 rfl (lv_at hl 1 rfl) ?_
    refine lv_iload_n E.1 E.2.1 dX2_bringOneLoad_11 rfl (lv_at hl 2 rfl) ?_
    refine xl_6 (i := p0) E hK hP (site_X hX h5) dX2_bringOneLoad_12 ?_
    refine lv_iconst (v := 1) E.1 E.2.1 dX2_bringOneLoad_13 (by decide) ?_
    refine g_SR (As := [.int (ta 6 p0.toNatClampNeg), .int 1]) (rest := [.int p0, .ref (ad 6)]) E hK (c_X2_deepened l D cI cB (ta 6 p0.toNatClampNeg) 1) (va_cwS 2 E.2.2.2.2 gX2_bringOneLoad_X2_deepened rfl rfl rfl (by decide +kernel) ⟨Nat.le_of_ble_eq_true rfl, Nat.le_of_ble_eq_true rfl⟩) rfl hl.1 rfl (Nat.le_of_ble_eq_true rfl) dX2_bringOneLoad_14 ⟨Nat.zero_le _, Nat.zero_le _⟩ ?_
    refine xs_6 (v := FX2_deepened (ta 6 p0.toNatClampNeg) 1) (i := p0) E hK hP hI hS (site_X hX h5) dX2_bringOneLoad_17 (fun H locs hP hS => ?_)
    have hP : va_P D vwCl (wX cI ad f a (uA ta 6 (upd (ta 6) p0.toNatClampNeg (FX2_deepened (ta 6 p0.toNatClampNeg) 1)))) H := hP
    exact W.vret E.1 E.2.1 hr (fun t ht _ => ⟨⟨(f, a, uA ta 6 (upd (ta 6) p0.toNatClampNeg (FX2_deepened (ta 6 p0.toNatClampNeg) 1))), rfl, (by rw [FX2_bringOneLoad_at6, if_neg h5]), (show va_P D vwCl (wX cI ad f a (uA ta 6 (upd (ta 6) p0.toNatClampNeg (FX2_deepened (ta 6 p0.toNatClampNeg) 1)))) t.heap from by rw [ht]; exact hP)⟩, hS.F ht⟩) hS.2.2 dX2_bringOneLoad_18
theorem kp_load6_f (f : Nat → Int32) (a ta : Nat → Nat → Int32) (n z c : Nat) (p0 : Int32) : (FX2_bringOneLoad_at6 f a ta n z c p0).1 = f := by
  rw [FX2_bringOneLoad_at6]; split <;> rfl
theorem kp_load6_a (f : Nat → Int32) (a ta : Nat → Nat → Int32) (n z c : Nat) (p0 : Int32) : (FX2_bringOneLoad_at6 f a ta n z c p0).2.1 = a := by
  rw [FX2_bringOneLoad_at6]; split <;> rfl
theorem nlt0 {x : Int32} (h : ¬ x < 1) : ¬ x < 0 := by
  rw [Int32.lt_iff_toInt_lt] at h ⊢
  have e0 : (0 : Int32).toInt = 0 := by decide
  have e1 : (1 : Int32).toInt = 1 := by decide
  omega
theorem withinX_t {x lo hi : Int32} (h : ¬ FX2_isWithin x lo hi = 0) : ¬ x < lo ∧ ¬ hi < x := by
  rw [FX2_isWithin] at h
  by_cases h1 : x < lo
  · rw [if_pos h1] at h; exact absurd rfl h
  · rw [if_neg h1] at h
    by_cases h2 : hi < x
    · rw [if_pos h2] at h; exact absurd rfl h
    · exact ⟨h1, h2⟩

def FX2_winters_L63 (f : Nat → Int32) (a : Nat → Nat → Int32) (n : Nat) (z : Nat) (c : Nat) (p0 : Int32) (p1 : Int32) (p2 : Int32) : Nat → Nat → Int32 → Int32 → (Nat → Nat → Int32) → Int32 × SX
  | 0, k_3, x4_2, x5_2, ta2 => (if p2 = 0 then (x4_2, f, a, ta2) else (if p2 = 1 then (FX2_snowIn_at6 f a ta2 n z c, f, a, ta2) else (x5_2, f, a, ta2)))
  | d_2 + 1, k_3, x4_2, x5_2, ta2 => FX2_winters_L63 f a n z c p0 p1 p2 d_2 (k_3 + 1) (x4_2 + ((FX2_meltAll_at6 f a ((FX2_bringOneLoad_at6 f a ta2 n z c (FX2_drawOf (nI n) (FX2_seedAfter (FX2_seedAfter x5_2)))).2.2) n z c (FX2_drawOf 5 (FX2_seedAfter x5_2))).1)) (FX2_seedAfter (FX2_seedAfter x5_2)) ((FX2_meltAll_at6 f a ((FX2_bringOneLoad_at6 f a ta2 n z c (FX2_drawOf (nI n) (FX2_seedAfter (FX2_seedAfter x5_2)))).2.2) n z c (FX2_drawOf 5 (FX2_seedAfter x5_2))).2.2.2)
def FX2_winters (f : Nat → Int32) (a : Nat → Nat → Int32) (ta : Nat → Nat → Int32) (n : Nat) (z : Nat) (c : Nat) (p0 : Int32) (p1 : Int32) (p2 : Int32) : Int32 × SX := (if FX2_isWithin p0 1 60 = 0 then ((-102), f, a, ta) else (if p1 < 0 then ((-102), f, a, ta) else (if FX2_isWithin p2 0 2 = 0 then ((-102), f, a, ta) else (if nI n = 0 then ((-103), f, a, ta) else FX2_winters_L63 f a n z c p0 p1 p2 p0.toNatClampNeg 0 0 p1 (uA ta 6 (va_cpy (a 9) (ta 6) 0 0 6))))))
set_option maxHeartbeats 4000000 in
set_option maxRecDepth 100000 in
/-- winters -/
theorem c_X2_winters (l : Launch) (D : va_G) (cI cB : ClassId) (ad : Nat → Nat) (f : Nat → Int32) (a ta : Nat → Nat → Int32) (n z c : Nat) (hX : IX n z c f) (hI : wI 25 ad) (p0 : Int32) (p1 : Int32) (p2 : Int32) : Met l yX2_winters wsX2_winters ({ frames := 3, cells := 0, slots := 0, locals := 68 }) (GPc D cI cB (wX cI ad f a ta) [.ref (ad 0), .int p0, .int p1, .int p2]) (va_Qi (fun (r : Int32) (u : SX) => (r, u) = FX2_winters f a ta n z c p0 p1 p2) (fun u t => va_P D vwCl (wX cI ad u.1 u.2.1 u.2.2) t.heap) (wA 25 ad)) 0 0 (wA 25 ad) := by
  refine Met.ofW (cc := cX2_winters) (maxL := 8) (ret := (some .int)) (by decide) rfl ?_
  intro p e s m args below meth cd s₁ B hml hv
  obtain ⟨rfl, hP, hK⟩ := hv
  have hts := atoms_spec (ws := wsX2_winters) B.pre
  have E : CallFix p m cd cX2_winters 8 s _ wsX2_winters RX2 := ⟨B.exec, B.bytes, hml, findClass_of_methodNamed B.named, hts⟩
  have hr := B.returns
  have hlocks := B.notSynchronized
  have h2n := pow6 (n := n) (by have := hX.2.1; omega)
  obtain ⟨hn, hn6, hz, hz21, hc, hc6⟩ := id hX
  have hS : va_S (wA 25 ad) s.heap s.heap [] := va_S.rf
  have in_1 : ∀ w ∈ wsX10, w ∈ wsX2_winters := fun _ h => List.mem_cons_of_mem _ (List.mem_append_right _ h)
  have in_2 : ∀ w ∈ wsX20, w ∈ wsX2_winters := fun _ h => List.mem_cons_of_mem _ (List.mem_append_left _ (List.mem_append_right _ h))
  have w_0 : (Cond.fieldLink RX2 39 "SnowTerm" "sites" "I").before _ s = true := hts _ (by decide +kernel)
  have w_1 : (Cond.fieldLink RX2 26 "SnowTerm" "now" "LSnowTerm$Term;").before _ s = true := hts _ (by decide +kernel)
  have w_2 : (Cond.fieldLink RX2 92 "SnowTerm$Term" "snow" "[I").before _ s = true := hts _ (by decide +kernel)
  have w_3 : (Cond.fieldLink RX2 33 "SnowTerm" "wouldBe" "[I").before _ s = true := hts _ (by decide +kernel)
  have w_4 : (Cond.methodLink RX2 170 arraycopyName).before _ s = true := hts _ (by decide +kernel)
  have w_5 : (Cond.native arraycopyName).before _ s = true := hts _ (by decide +kernel)
  have w_6 : (Cond.static arraycopyName).before _ s = true := hts _ (by decide +kernel)
  have w_7 : (Cond.initialized "java/lang/System").before _ s = true := hts _ (by decide +kernel)
  have hl := lv_entry ([.ref (ad 0), .int p0, .int p1, .int p2]) (n := 8) (Nat.le_of_ble_eq_true rfl)
  rw [lg_entry_eq]
  generalize (lg_sl ([.ref (ad 0), .int p0, .int p1, .int p2]) ++ List.replicate (8 - (lg_sl ([.ref (ad 0), .int p0, .int p1, .int p2])).length) Slot.unset).toArray = ls at hl ⊢
  have hl : lv_has ls 8 [(0, .ref (ad 0)), (1, .int p0), (2, .int p1), (3, .int p2)] := hl
  have hq9 := cl_lt p0
  refine lv_iload_n E.1 E.2.1 dX2_winters_0 rfl (lv_at hl 1 rfl) ?_
  refine lv_iconst (v := 1) E.1 E.2.1 dX2_winters_1 (by decide) ?_
  refine lv_bipush (v := 60) E.1 E.2.1 dX2_winters_2 (by decide) ?_
  refine g_SR (As := [.int p0, .int 1, .int 60]) (rest := []) E hK (c_X2_isWithin l D cI cB p0 1 60) (va_cwS 3 E.2.2.2.2 gX2_winters_X2_isWithin rfl rfl rfl (by decide +kernel) ⟨Nat.le_of_ble_eq_true rfl, Nat.le_of_ble_eq_true rfl⟩) rfl hl.1 rfl (Nat.le_of_ble_eq_true rfl) dX2_winters_4 ⟨Nat.zero_le _, Nat.zero_le _⟩ ?_
  refine lv_if_eq (x := FX2_isWithin p0 1 60) (tgt := 23) E.1 E.2.1 dX2_winters_7 (by decide) (fun h7 => ?_) (fun h7 => ?_)
  · have h7 := h7
    refine lv_bipush (v := (-102)) E.1 E.2.1 dX2_winters_23 (by decide) ?_
    exact W.iret (v := (-102)) E.1 E.2.1 hr (fun t ht _ => ⟨⟨(-102), (f, a, ta), rfl, (by rw [FX2_winters, if_pos h7]), (show va_P D vwCl (wX cI ad f a ta) t.heap from by rw [ht]; exact hP)⟩, hS.F ht⟩) hS.2.2 dX2_winters_25
  · have h7 := h7
    refine lv_iload_n E.1 E.2.1 dX2_winters_10 rfl (lv_at hl 2 rfl) ?_
    refine lv_if_lt (x := p1) (tgt := 23) E.1 E.2.1 dX2_winters_11 (by decide) (fun h11 => ?_) (fun h11 => ?_)
    · have h11 := h11
      refine lv_bipush (v := (-102)) E.1 E.2.1 dX2_winters_23 (by decide) ?_
      exact W.iret (v := (-102)) E.1 E.2.1 hr (fun t ht _ => ⟨⟨(-102), (f, a, ta), rfl, (by rw [FX2_winters, if_neg h7, if_pos h11]), (show va_P D vwCl (wX cI ad f a ta) t.heap from by rw [ht]; exact hP)⟩, hS.F ht⟩) hS.2.2 dX2_winters_25
    · have h11 := h11
      refine lv_iload_n E.1 E.2.1 dX2_winters_14 rfl (lv_at hl 3 rfl) ?_
      refine lv_iconst (v := 0) E.1 E.2.1 dX2_winters_15 (by decide) ?_
      refine lv_iconst (v := 2) E.1 E.2.1 dX2_winters_16 (by decide) ?_
      refine g_SR (As := [.int p2, .int 0, .int 2]) (rest := []) E hK (c_X2_isWithin l D cI cB p2 0 2) (va_cwS 3 E.2.2.2.2 gX2_winters_X2_isWithin rfl rfl rfl (by decide +kernel) ⟨Nat.le_of_ble_eq_true rfl, Nat.le_of_ble_eq_true rfl⟩) rfl hl.1 rfl (Nat.le_of_ble_eq_true rfl) dX2_winters_17 ⟨Nat.zero_le _, Nat.zero_le _⟩ ?_
      refine lv_if_ne (x := FX2_isWithin p2 0 2) (tgt := 26) E.1 E.2.1 dX2_winters_20 (by decide) (fun h20 => ?_) (fun h20 => ?_)
      · have h20 := h20
        refine lv_aload_n E.1 E.2.1 dX2_winters_26 rfl (lv_at hl 0 rfl) ?_
        refine xg_0_7 E hK hP in_2 w_0 dX2_winters_27 ?_
        refine lv_topi (fun y_1 ey_1 => ?_)
        obtain rfl : y_1 = nI n := ey_1.trans (hn)
        refine lv_if_ne (x := nI n) (tgt := 36) E.1 E.2.1 dX2_winters_30 (by decide) (fun h30 => ?_) (fun h30 => ?_)
        · have h30 := h30
          refine lv_aload_n E.1 E.2.1 dX2_winters_36 rfl (lv_at hl 0 rfl) ?_
          refine xg_0_3 E hK hP in_2 w_1 dX2_winters_37 ?_
          refine xg_4_4 E hK hP in_1 w_2 dX2_winters_40 ?_
          refine lv_iconst (v := 0) E.1 E.2.1 dX2_winters_43 (by decide) ?_
          refine lv_aload_n E.1 E.2.1 dX2_winters_44 rfl (lv_at hl 0 rfl) ?_
          refine xg_0_5 E hK hP in_2 w_3 dX2_winters_45 ?_
          refine lv_iconst (v := 0) E.1 E.2.1 dX2_winters_48 (by decide) ?_
          refine lv_bipush (v := 6) E.1 E.2.1 dX2_winters_49 (by decide) ?_
          refine va_copyi (ty := .int) (sp := 0) (dp := 0) (n := 6) E.1 E.2.1 (E.2.2.1.trans hl.1.symm) E.2.2.2.1 w_4 w_5 w_6 w_7 hK hP (wX_D hI) hS 9 6 0 0 rfl rfl rfl rfl rfl (by decide) (by decide) (by decide) (by decide) (by decide) (fun i _ => rfl) (Nat.le_of_ble_eq_true rfl) (Nat.le_of_ble_eq_true rfl) dX2_winters_51 (fun H locs hP _ hS => ?_)
          have hP : va_P D vwCl (wX cI ad f a (uA ta 6 (va_cpy (a 9) (ta 6) 0 0 6))) H := hP
          refine lv_iconst (v := 0) E.1 E.2.1 dX2_winters_54 (by decide) ?_
          refine lv_istore (lv' := [(4, .int 0), (0, .ref (ad 0)), (1, .int p0), (2, .int p1), (3, .int p2)]) E.1 E.2.1 dX2_winters_55 hl (by decide) rfl (fun ls hl => ?_)
          refine lv_iload_n E.1 E.2.1 dX2_winters_57 rfl (lv_at hl 3 rfl) ?_
          refine lv_istore (lv' := [(5, .int p1), (4, .int 0), (0, .ref (ad 0)), (1, .int p0), (2, .int p1), (3, .int p2)]) E.1 E.2.1 dX2_winters_58 hl (by decide) rfl (fun ls hl => ?_)
          refine lv_iconst (v := 0) E.1 E.2.1 dX2_winters_60 (by decide) ?_
          refine lv_istore (lv' := [(6, .int 0), (5, .int p1), (4, .int 0), (0, .ref (ad 0)), (1, .int p0), (2, .int p1), (3, .int p2)]) E.1 E.2.1 dX2_winters_61 hl (by decide) rfl (fun ls hl => ?_)
          have loop2 : ∀ (d_2 k_3 : Nat) (x4_2 x5_2 : Int32) (ta2 : Nat → Nat → Int32) (H : Heap) (locs : List Loc) (ls : Array Slot), k_3 + d_2 = p0.toNatClampNeg → va_P D vwCl (wX cI ad f a ta2) H → va_S (wA 25 ad) s.heap H locs → lv_has ls 8 [(6, .int (nI k_3)), (4, .int x4_2), (5, .int x5_2), (0, .ref (ad 0)), (1, .int p0), (2, .int p1), (3, .int p2)] → W p l e (headSpec wsX2_winters { frames := 3, cells := 0, slots := 0, locals := 68 }).room s m ([.ref (ad 0), .int p0, .int p1, .int p2] : List Value).toArray below meth cd H locs 0 0 (MQ below (va_Qi (fun (r : Int32) (u : SX) => (r, u) = FX2_winters_L63 f a n z c p0 p1 p2 d_2 k_3 x4_2 x5_2 ta2) (fun u t => va_P D vwCl (wX cI ad u.1 u.2.1 u.2.2) t.heap) (wA 25 ad)) ([.ref (ad 0), .int p0, .int p1, .int p2] : List Value).toArray s 0 0 (wA 25 ad)) (F0 m 63 ls []) := by
            intro d_2
            induction d_2 with
            | zero =>
              intro k_3 x4_2 x5_2 ta2 H locs ls hk2 hP hS hl
              refine lv_iload E.1 E.2.1 dX2_winters_63 (lv_at hl 0 rfl) ?_
              refine lv_iload_n E.1 E.2.1 dX2_winters_65 rfl (lv_at hl 4 rfl) ?_
              refine lv_topi (fun y_4 ey_4 => ?_)
              obtain rfl : y_4 = nI p0.toNatClampNeg := ey_4.trans (nI_cl (nlt0 (withinX_t h7).1))
              refine lv_icmp_ge (x := nI k_3) (y := nI p0.toNatClampNeg) (tgt := 129) E.1 E.2.1 dX2_winters_66 (by decide) (fun _ => ?_) (fun h9 => absurd (nI_le (a := p0.toNatClampNeg) (b := k_3) (by omega) (by omega)) h9)
              refine lv_iload_n E.1 E.2.1 dX2_winters_129 rfl (lv_at hl 6 rfl) ?_
              by_cases hs130_0 : p2 = 0
              · have hs130_0 := hs130_0
                refine lv_topi (fun y9 ey9 => ?_)
                obtain rfl : y9 = 0 := ey9.trans hs130_0
                refine lv_lookup (x := 0) (tgt := 156) E.1 E.2.1 dX2_winters_130 (by decide) rfl (by decide) ?_
                refine lv_iload E.1 E.2.1 dX2_winters_156 (lv_at hl 1 rfl) ?_
                exact W.iret (v := x4_2) E.1 E.2.1 hr (fun t ht _ => ⟨⟨x4_2, (f, a, ta2), rfl, (by rw [FX2_winters_L63, if_pos hs130_0]), (show va_P D vwCl (wX cI ad f a ta2) t.heap from by rw [ht]; exact hP)⟩, hS.F ht⟩) hS.2.2 dX2_winters_158
              · have hs130_0 := hs130_0
                by_cases hs130_1 : p2 = 1
                · have hs130_1 := hs130_1
                  refine lv_topi (fun y9 ey9 => ?_)
                  obtain rfl : y9 = 1 := ey9.trans hs130_1
                  refine lv_lookup (x := 1) (tgt := 159) E.1 E.2.1 dX2_winters_130 (by decide) rfl (by decide) ?_
                  refine lv_aload_n E.1 E.2.1 dX2_winters_159 rfl (lv_at hl 3 rfl) ?_
                  refine lv_aload_n E.1 E.2.1 dX2_winters_160 rfl (lv_at hl 3 rfl) ?_
                  refine xg_0_5 E hK hP in_2 w_3 dX2_winters_161 ?_
                  refine g_VR (As := [.ref (ad 6)]) (rest := []) E hK hP (c_X2_snowIn_at6 l D cI cB ad f a ta2 n z c hX) (cwV 1 E.2.2.2.2 gX2_winters_X2_snowIn rfl rfl rfl (by decide +kernel) ⟨Nat.le_of_ble_eq_true rfl, Nat.le_of_ble_eq_true rfl⟩) (rx hK hP) rfl hl.1 rfl (Nat.le_of_ble_eq_true rfl) dX2_winters_164 ⟨Nat.zero_le _, Nat.zero_le _⟩ ?_
                  exact W.iret (v := FX2_snowIn_at6 f a ta2 n z c) E.1 E.2.1 hr (fun t ht _ => ⟨⟨FX2_snowIn_at6 f a ta2 n z c, (f, a, ta2), rfl, (by rw [FX2_winters_L63, if_neg hs130_0, if_pos hs130_1]), (show va_P D vwCl (wX cI ad f a ta2) t.heap from by rw [ht]; exact hP)⟩, hS.F ht⟩) hS.2.2 dX2_winters_167
                · have hs130_1 := hs130_1
                  refine lv_lookup (x := p2) (off := 38) (tgt := 168) E.1 E.2.1 dX2_winters_130 (by decide) ((lv_osw hs130_0 (by decide)).trans ((lv_osw hs130_1 (by decide)).trans (rfl))) (by decide) ?_
                  refine lv_iload E.1 E.2.1 dX2_winters_168 (lv_at hl 2 rfl) ?_
                  exact W.iret (v := x5_2) E.1 E.2.1 hr (fun t ht _ => ⟨⟨x5_2, (f, a, ta2), rfl, (by rw [FX2_winters_L63, if_neg hs130_0, if_neg hs130_1]), (show va_P D vwCl (wX cI ad f a ta2) t.heap from by rw [ht]; exact hP)⟩, hS.F ht⟩) hS.2.2 dX2_winters_170
            | succ d_2 ih2 =>
              intro k_3 x4_2 x5_2 ta2 H locs ls hk2 hP hS hl
              refine lv_iload E.1 E.2.1 dX2_winters_63 (lv_at hl 0 rfl) ?_
              refine lv_iload_n E.1 E.2.1 dX2_winters_65 rfl (lv_at hl 4 rfl) ?_
              refine lv_topi (fun y_5 ey_5 => ?_)
              obtain rfl : y_5 = nI p0.toNatClampNeg := ey_5.trans (nI_cl (nlt0 (withinX_t h7).1))
              refine lv_icmp_ge (x := nI k_3) (y := nI p0.toNatClampNeg) (tgt := 129) E.1 E.2.1 dX2_winters_66 (by decide) (fun h9 => absurd h9 (nI_ge (a := k_3) (b := p0.toNatClampNeg) (by omega) (by omega))) (fun _ => ?_)
              refine lv_iload E.1 E.2.1 dX2_winters_69 (lv_at hl 2 rfl) ?_
              refine g_SR (As := [.int x5_2]) (rest := []) E hK (c_X2_seedAfter l D cI cB x5_2) (va_cwS 1 E.2.2.2.2 gX2_winters_X2_seedAfter rfl rfl rfl (by decide +kernel) ⟨Nat.le_of_ble_eq_true rfl, Nat.le_of_ble_eq_true rfl⟩) rfl hl.1 rfl (Nat.le_of_ble_eq_true rfl) dX2_winters_71 ⟨Nat.zero_le _, Nat.zero_le _⟩ ?_
              refine lv_istore (lv' := [(5, .int (FX2_seedAfter x5_2)), (6, .int (nI k_3)), (4, .int x4_2), (0, .ref (ad 0)), (1, .int p0), (2, .int p1), (3, .int p2)]) E.1 E.2.1 dX2_winters_74 hl (by decide) rfl (fun ls hl => ?_)
              refine lv_iconst (v := 5) E.1 E.2.1 dX2_winters_76 (by decide) ?_
              refine lv_iload E.1 E.2.1 dX2_winters_77 (lv_at hl 0 rfl) ?_
              refine g_SR (As := [.int 5, .int (FX2_seedAfter x5_2)]) (rest := []) E hK (c_X2_drawOf l D cI cB 5 (FX2_seedAfter x5_2)) (va_cwS 2 E.2.2.2.2 gX2_winters_X2_drawOf rfl rfl rfl (by decide +kernel) ⟨Nat.le_of_ble_eq_true rfl, Nat.le_of_ble_eq_true rfl⟩) rfl hl.1 rfl (Nat.le_of_ble_eq_true rfl) dX2_winters_79 ⟨Nat.zero_le _, Nat.zero_le _⟩ ?_
              refine lv_istore (lv' := [(7, .int (FX2_drawOf 5 (FX2_seedAfter x5_2))), (5, .int (FX2_seedAfter x5_2)), (6, .int (nI k_3)), (4, .int x4_2), (0, .ref (ad 0)), (1, .int p0), (2, .int p1), (3, .int p2)]) E.1 E.2.1 dX2_winters_82 hl (by decide) rfl (fun ls hl => ?_)
              refine lv_iload E.1 E.2.1 dX2_winters_84 (lv_at hl 1 rfl) ?_
              refine g_SR (As := [.int (FX2_seedAfter x5_2)]) (rest := []) E hK (c_X2_seedAfter l D cI cB (FX2_seedAfter x5_2)) (va_cwS 1 E.2.2.2.2 gX2_winters_X2_seedAfter rfl rfl rfl (by decide +kernel) ⟨Nat.le_of_ble_eq_true rfl, Nat.le_of_ble_eq_true rfl⟩) rfl hl.1 rfl (Nat.le_of_ble_eq_true rfl) dX2_winters_86 ⟨Nat.zero_le _, Nat.zero_le _⟩ ?_
              refine lv_istore (lv' := [(5, .int (FX2_seedAfter (FX2_seedAfter x5_2))), (7, .int (FX2_drawOf 5 (FX2_seedAfter x5_2))), (6, .int (nI k_3)), (4, .int x4_2), (0, .ref (ad 0)), (1, .int p0), (2, .int p1), (3, .int p2)]) E.1 E.2.1 dX2_winters_89 hl (by decide) rfl (fun ls hl => ?_)
              refine lv_aload_n E.1 E.2.1 dX2_winters_91 rfl (lv_at hl 4 rfl) ?_
              refine lv_aload_n E.1 E.2.1 dX2_winters_92 rfl (lv_at hl 4 rfl) ?_
              refine xg_0_5 E hK hP in_2 w_3 dX2_winters_93 ?_
              refine lv_aload_n E.1 E.2.1 dX2_winters_96 rfl (lv_at hl 4 rfl) ?_
              refine xg_0_7 E hK hP in_2 w_0 dX2_winters_97 ?_
              refine lv_topi (fun y_6 ey_6 => ?_)
              obtain rfl : y_6 = nI n := ey_6.trans (hn)
              refine lv_iload E.1 E.2.1 dX2_winters_100 (lv_at hl 0 rfl) ?_
              refine g_SR (As := [.int (nI n), .int (FX2_seedAfter (FX2_seedAfter x5_2))]) (rest := [.ref (ad 6), .ref (ad 0)]) E hK (c_X2_drawOf l D cI cB (nI n) (FX2_seedAfter (FX2_seedAfter x5_2))) (va_cwS 2 E.2.2.2.2 gX2_winters_X2_drawOf rfl rfl rfl (by decide +kernel) ⟨Nat.le_of_ble_eq_true rfl, Nat.le_of_ble_eq_true rfl⟩) rfl hl.1 rfl (Nat.le_of_ble_eq_true rfl) dX2_winters_102 ⟨Nat.zero_le _, Nat.zero_le _⟩ ?_
              refine g_VWv (As := [.ref (ad 6), .int (FX2_drawOf (nI n) (FX2_seedAfter (FX2_seedAfter x5_2)))]) (rest := []) E hK hP hS (fun q h => h) (c_X2_bringOneLoad_at6 l D cI cB ad f a ta2 n z c hX hI (FX2_drawOf (nI n) (FX2_seedAfter (FX2_seedAfter x5_2)))) (cwV 2 E.2.2.2.2 gX2_winters_X2_bringOneLoad rfl rfl rfl (by decide +kernel) ⟨Nat.le_of_ble_eq_true rfl, Nat.le_of_ble_eq_true rfl⟩) (rx hK hP) rfl hl.1 rfl (Nat.le_of_ble_eq_true rfl) dX2_winters_105 ⟨Nat.zero_le _, Nat.zero_le _⟩ (fun u_7 H1 locs hp_9 hP1 hq_10 hS => ?_)
              obtain rfl : u_7 = FX2_bringOneLoad_at6 f a ta2 n z c (FX2_drawOf (nI n) (FX2_seedAfter (FX2_seedAfter x5_2))) := hp_9
              have hP : va_P D vwCl (wX cI ad ((FX2_bringOneLoad_at6 f a ta2 n z c (FX2_drawOf (nI n) (FX2_seedAfter (FX2_seedAfter x5_2)))).1) ((FX2_bringOneLoad_at6 f a ta2 n z c (FX2_drawOf (nI n) (FX2_seedAfter (FX2_seedAfter x5_2)))).2.1) ((FX2_bringOneLoad_at6 f a ta2 n z c (FX2_drawOf (nI n) (FX2_seedAfter (FX2_seedAfter x5_2)))).2.2)) H1 := hP1
              clear hP1
              generalize H1 = H at hP hS ⊢
              rw [show (FX2_bringOneLoad_at6 f a ta2 n z c (FX2_drawOf (nI n) (FX2_seedAfter (FX2_seedAfter x5_2)))).1 = f from kp_load6_f ..] at hP
              rw [show (FX2_bringOneLoad_at6 f a ta2 n z c (FX2_drawOf (nI n) (FX2_seedAfter (FX2_seedAfter x5_2)))).2.1 = a from kp_load6_a ..] at hP
              have hP : va_P D vwCl (wX cI ad f a ((FX2_bringOneLoad_at6 f a ta2 n z c (FX2_drawOf (nI n) (FX2_seedAfter (FX2_seedAfter x5_2)))).2.2)) H := hP
              refine lv_iload E.1 E.2.1 dX2_winters_108 (lv_at hl 3 rfl) ?_
              refine lv_aload_n E.1 E.2.1 dX2_winters_110 rfl (lv_at hl 4 rfl) ?_
              refine lv_aload_n E.1 E.2.1 dX2_winters_111 rfl (lv_at hl 4 rfl) ?_
              refine xg_0_5 E hK hP in_2 w_3 dX2_winters_112 ?_
              refine lv_iload E.1 E.2.1 dX2_winters_115 (lv_at hl 1 rfl) ?_
              refine g_VWi (As := [.ref (ad 6), .int (FX2_drawOf 5 (FX2_seedAfter x5_2))]) (rest := [.int x4_2]) E hK hP hS (fun q h => h) (c_X2_meltAll_at6 l D cI cB ad f a ((FX2_bringOneLoad_at6 f a ta2 n z c (FX2_drawOf (nI n) (FX2_seedAfter (FX2_seedAfter x5_2)))).2.2) n z c hX hI (FX2_drawOf 5 (FX2_seedAfter x5_2))) (cwV 2 E.2.2.2.2 gX2_winters_X2_meltAll rfl rfl rfl (by decide +kernel) ⟨Nat.le_of_ble_eq_true rfl, Nat.le_of_ble_eq_true rfl⟩) (rx hK hP) rfl hl.1 rfl (Nat.le_of_ble_eq_true rfl) dX2_winters_117 ⟨Nat.zero_le _, Nat.zero_le _⟩ (fun r_12 u_11 H1 locs hp_13 hP1 hq_14 hS => ?_)
              obtain rfl : r_12 = (FX2_meltAll_at6 f a ((FX2_bringOneLoad_at6 f a ta2 n z c (FX2_drawOf (nI n) (FX2_seedAfter (FX2_seedAfter x5_2)))).2.2) n z c (FX2_drawOf 5 (FX2_seedAfter x5_2))).1 := congrArg Prod.fst hp_13
              obtain rfl : u_11 = (FX2_meltAll_at6 f a ((FX2_bringOneLoad_at6 f a ta2 n z c (FX2_drawOf (nI n) (FX2_seedAfter (FX2_seedAfter x5_2)))).2.2) n z c (FX2_drawOf 5 (FX2_seedAfter x5_2))).2 := congrArg Prod.snd hp_13
              have hP : va_P D vwCl (wX cI ad ((FX2_meltAll_at6 f a ((FX2_bringOneLoad_at6 f a ta2 n z c (FX2_drawOf (nI n) (FX2_seedAfter (FX2_seedAfter x5_2)))).2.2) n z c (FX2_drawOf 5 (FX2_seedAfter x5_2))).2.1) ((FX2_meltAll_at6 f a ((FX2_bringOneLoad_at6 f a ta2 n z c (FX2_drawOf (nI n) (FX2_seedAfter (FX2_seedAfter x5_2)))).2.2) n z c (FX2_drawOf 5 (FX2_seedAfter x5_2))).2.2.1) ((FX2_meltAll_at6 f a ((FX2_bringOneLoad_at6 f a ta2 n z c (FX2_drawOf (nI n) (FX2_seedAfter (FX2_seedAfter x5_2)))).2.2) n z c (FX2_drawOf 5 (FX2_seedAfter x5_2))).2.2.2)) H1 := hP1
              clear hP1
              generalize H1 = H at hP hS ⊢
              rw [show (FX2_meltAll_at6 f a ((FX2_bringOneLoad_at6 f a ta2 n z c (FX2_drawOf (nI n) (FX2_seedAfter (FX2_seedAfter x5_2)))).2.2) n z c (FX2_drawOf 5 (FX2_seedAfter x5_2))).2.1 = f from kp_melt6_f ..] at hP
              rw [show (FX2_meltAll_at6 f a ((FX2_bringOneLoad_at6 f a ta2 n z c (FX2_drawOf (nI n) (FX2_seedAfter (FX2_seedAfter x5_2)))).2.2) n z c (FX2_drawOf 5 (FX2_seedAfter x5_2))).2.2.1 = a from kp_melt6_a ..] at hP
              have hP : va_P D vwCl (wX cI ad f a ((FX2_meltAll_at6 f a ((FX2_bringOneLoad_at6 f a ta2 n z c (FX2_drawOf (nI n) (FX2_seedAfter (FX2_seedAfter x5_2)))).2.2) n z c (FX2_drawOf 5 (FX2_seedAfter x5_2))).2.2.2)) H := hP
              refine lv_iadd (x := x4_2) (y := (FX2_meltAll_at6 f a ((FX2_bringOneLoad_at6 f a ta2 n z c (FX2_drawOf (nI n) (FX2_seedAfter (FX2_seedAfter x5_2)))).2.2) n z c (FX2_drawOf 5 (FX2_seedAfter x5_2))).1) E.1 E.2.1 dX2_winters_120 ?_
              refine lv_istore (lv' := [(4, .int (x4_2 + ((FX2_meltAll_at6 f a ((FX2_bringOneLoad_at6 f a ta2 n z c (FX2_drawOf (nI n) (FX2_seedAfter (FX2_seedAfter x5_2)))).2.2) n z c (FX2_drawOf 5 (FX2_seedAfter x5_2))).1))), (5, .int (FX2_seedAfter (FX2_seedAfter x5_2))), (7, .int (FX2_drawOf 5 (FX2_seedAfter x5_2))), (6, .int (nI k_3)), (0, .ref (ad 0)), (1, .int p0), (2, .int p1), (3, .int p2)]) E.1 E.2.1 dX2_winters_121 hl (by decide) rfl (fun ls hl => ?_)
              refine lv_iinc (v := nI (k_3 + 1)) (k := 3) (lv' := [(6, .int (nI (k_3 + 1))), (4, .int (x4_2 + ((FX2_meltAll_at6 f a ((FX2_bringOneLoad_at6 f a ta2 n z c (FX2_drawOf (nI n) (FX2_seedAfter (FX2_seedAfter x5_2)))).2.2) n z c (FX2_drawOf 5 (FX2_seedAfter x5_2))).1))), (5, .int (FX2_seedAfter (FX2_seedAfter x5_2))), (7, .int (FX2_drawOf 5 (FX2_seedAfter x5_2))), (0, .ref (ad 0)), (1, .int p0), (2, .int p1), (3, .int p2)]) E.1 E.2.1 dX2_winters_123 hl rfl (nI_1 k_3) (by decide) rfl (fun ls hl => ?_)
              refine lv_goto (tgt := 63) E.1 E.2.1 dX2_winters_126 (by decide) ?_
              rw [show FX2_winters_L63 f a n z c p0 p1 p2 (d_2 + 1) k_3 x4_2 x5_2 ta2 = FX2_winters_L63 f a n z c p0 p1 p2 d_2 (k_3 + 1) (x4_2 + ((FX2_meltAll_at6 f a ((FX2_bringOneLoad_at6 f a ta2 n z c (FX2_drawOf (nI n) (FX2_seedAfter (FX2_seedAfter x5_2)))).2.2) n z c (FX2_drawOf 5 (FX2_seedAfter x5_2))).1)) (FX2_seedAfter (FX2_seedAfter x5_2)) ((FX2_meltAll_at6 f a ((FX2_bringOneLoad_at6 f a ta2 n z c (FX2_drawOf (nI n) (FX2_seedAfter (FX2_seedAfter x5_2)))).2.2) n z c (FX2_drawOf 5 (FX2_seedAfter x5_2))).2.2.2) from by rw [FX2_winters_L63]]
              exact ih2 (k_3 + 1) (x4_2 + ((FX2_meltAll_at6 f a ((FX2_bringOneLoad_at6 f a ta2 n z c (FX2_drawOf (nI n) (FX2_seedAfter (FX2_seedAfter x5_2)))).2.2) n z c (FX2_drawOf 5 (FX2_seedAfter x5_2))).1)) (FX2_seedAfter (FX2_seedAfter x5_2)) ((FX2_meltAll_at6 f a ((FX2_bringOneLoad_at6 f a ta2 n z c (FX2_drawOf (nI n) (FX2_seedAfter (FX2_seedAfter x5_2)))).2.2) n z c (FX2_drawOf 5 (FX2_seedAfter x5_2))).2.2.2) _ _ ls (by omega) hP hS (lv_sub hl [0, 1, 2, 4, 5, 6, 7] rfl)
          rw [show FX2_winters f a ta n z c p0 p1 p2 = FX2_winters_L63 f a n z c p0 p1 p2 p0.toNatClampNeg 0 0 p1 (uA ta 6 (va_cpy (a 9) (ta 6) 0 0 6)) from by rw [FX2_winters, if_neg h7, if_neg h11, if_neg h20, if_neg h30]]
          have hl : lv_has ls 8 [(6, .int (nI 0)), (4, .int 0), (5, .int p1), (0, .ref (ad 0)), (1, .int p0), (2, .int p1), (3, .int p2)] := lv_sub hl [0, 2, 1, 3, 4, 5, 6] rfl
          exact loop2 _ _ 0 p1 (uA ta 6 (va_cpy (a 9) (ta 6) 0 0 6)) _ _ ls (by omega) hP hS (lv_sub hl [0, 1, 2, 3, 4, 5, 6] rfl)
        · have h30 := h30
          refine lv_bipush (v := (-103)) E.1 E.2.1 dX2_winters_33 (by decide) ?_
          exact W.iret (v := (-103)) E.1 E.2.1 hr (fun t ht _ => ⟨⟨(-103), (f, a, ta), rfl, (by rw [FX2_winters, if_neg h7, if_neg h11, if_neg h20, if_pos h30]), (show va_P D vwCl (wX cI ad f a ta) t.heap from by rw [ht]; exact hP)⟩, hS.F ht⟩) hS.2.2 dX2_winters_35
      · have h20 := h20
        refine lv_bipush (v := (-102)) E.1 E.2.1 dX2_winters_23 (by decide) ?_
        exact W.iret (v := (-102)) E.1 E.2.1 hr (fun t ht _ => ⟨⟨(-102), (f, a, ta), rfl, (by rw [FX2_winters, if_neg h7, if_neg h11, if_pos h20]), (show va_P D vwCl (wX cI ad f a ta) t.heap from by rw [ht]; exact hP)⟩, hS.F ht⟩) hS.2.2 dX2_winters_25
def FX1_copyRow_at9_17 (f : Nat → Int32) (a : Nat → Nat → Int32) (ta : Nat → Nat → Int32) (n : Nat) (z : Nat) (c : Nat) : SX := (f, uA a 17 (va_cpy (a 9) (a 17) 0 0 6), ta)
set_option maxHeartbeats 4000000 in
set_option maxRecDepth 100000 in
/-- a row copied -/
theorem c_X1_copyRow_at9_17 (l : Launch) (D : va_G) (cI cB : ClassId) (ad : Nat → Nat) (f : Nat → Int32) (a ta : Nat → Nat → Int32) (n z c : Nat) (hX : IX n z c f) (hI : wI 25 ad)  : Met l yX1_copyRow wsX1_copyRow ({ frames := 1, cells := 0, slots := 0, locals := 64 }) (GPc D cI cB (wX cI ad f a ta) [.ref (ad 9), .ref (ad 17)]) (va_Qv (fun u : SX => u = FX1_copyRow_at9_17 f a ta n z c) (fun u t => va_P D vwCl (wX cI ad u.1 u.2.1 u.2.2) t.heap) (wA 25 ad)) 0 0 (wA 25 ad) := by
  refine Met.ofW (cc := cX1_copyRow) (maxL := 2) (ret := none) (by decide) rfl ?_
  intro p e s m args below meth cd s₁ B hml hv
  obtain ⟨rfl, hP, hK⟩ := hv
  have hts := atoms_spec (ws := wsX1_copyRow) B.pre
  have E : CallFix p m cd cX1_copyRow 2 s _ wsX1_copyRow RX1 := ⟨B.exec, B.bytes, hml, findClass_of_methodNamed B.named, hts⟩
  have hr := B.returns
  have hlocks := B.notSynchronized
  have h2n := pow6 (n := n) (by have := hX.2.1; omega)
  obtain ⟨hn, hn6, hz, hz21, hc, hc6⟩ := id hX
  have hS : va_S (wA 25 ad) s.heap s.heap [] := va_S.rf
  have w_0 : (Cond.methodLink RX1 56 Lib.Math.min.name).before _ s = true := hts _ (by decide +kernel)
  have w_1 : (Cond.static Lib.Math.min.name).before _ s = true := hts _ (by decide +kernel)
  have w_2 : (Cond.initialized "java/lang/Math").before _ s = true := hts _ (by decide +kernel)
  have w_3 : (Cond.code Lib.Math.min.name Lib.Math.min.code 2 (some .int)).before _ s = true := hts _ (by decide +kernel)
  have w_4 : (Cond.methodLink RX1 62 arraycopyName).before _ s = true := hts _ (by decide +kernel)
  have w_5 : (Cond.native arraycopyName).before _ s = true := hts _ (by decide +kernel)
  have w_6 : (Cond.static arraycopyName).before _ s = true := hts _ (by decide +kernel)
  have w_7 : (Cond.initialized "java/lang/System").before _ s = true := hts _ (by decide +kernel)
  have hl := lv_entry ([.ref (ad 9), .ref (ad 17)]) (n := 2) (Nat.le_of_ble_eq_true rfl)
  rw [lg_entry_eq]
  generalize (lg_sl ([.ref (ad 9), .ref (ad 17)]) ++ List.replicate (2 - (lg_sl ([.ref (ad 9), .ref (ad 17)])).length) Slot.unset).toArray = ls at hl ⊢
  have hl : lv_has ls 2 [(0, .ref (ad 9)), (1, .ref (ad 17))] := hl
  refine lv_aload_n E.1 E.2.1 dX1_copyRow_0 rfl (lv_at hl 0 rfl) ?_
  refine lv_iconst (v := 0) E.1 E.2.1 dX1_copyRow_1 (by decide) ?_
  refine lv_aload_n E.1 E.2.1 dX1_copyRow_2 rfl (lv_at hl 1 rfl) ?_
  refine lv_iconst (v := 0) E.1 E.2.1 dX1_copyRow_3 (by decide) ?_
  refine lv_aload_n E.1 E.2.1 dX1_copyRow_4 rfl (lv_at hl 0 rfl) ?_
  refine xn_9 E hK hP dX1_copyRow_5 ?_
  refine lv_aload_n E.1 E.2.1 dX1_copyRow_6 rfl (lv_at hl 1 rfl) ?_
  refine xn_17 E hK hP dX1_copyRow_7 ?_
  refine va_mmin (x := 6) (y := 6) E.1 E.2.1 (E.2.2.1.trans hl.1.symm) E.2.2.2.1 w_0 w_1 w_2 w_3 (Nat.le_of_ble_eq_true rfl) (Nat.le_of_ble_eq_true rfl) (Nat.zero_le _) (Nat.zero_le _) dX1_copyRow_8 ?_
  refine lv_topi (fun y_1 ey_1 => ?_)
  obtain rfl : y_1 = 6 := ey_1.trans (by decide)
  refine va_copyi (ty := .int) (sp := 0) (dp := 0) (n := 6) E.1 E.2.1 (E.2.2.1.trans hl.1.symm) E.2.2.2.1 w_4 w_5 w_6 w_7 hK hP (wX_D hI) hS 9 17 0 0 rfl rfl rfl rfl rfl (by decide) (by decide) (by decide) (by decide) (by decide) (fun i _ => rfl) (Nat.le_of_ble_eq_true rfl) (Nat.le_of_ble_eq_true rfl) dX1_copyRow_11 (fun H locs hP _ hS => ?_)
  have hP : va_P D vwCl (wX cI ad f (uA a 17 (va_cpy (a 9) (a 17) 0 0 6)) ta) H := hP
  exact W.vret E.1 E.2.1 hr (fun t ht _ => ⟨⟨(f, uA a 17 (va_cpy (a 9) (a 17) 0 0 6), ta), rfl, (by rw [FX1_copyRow_at9_17]), (show va_P D vwCl (wX cI ad f (uA a 17 (va_cpy (a 9) (a 17) 0 0 6)) ta) t.heap from by rw [ht]; exact hP)⟩, hS.F ht⟩) hS.2.2 dX1_copyRow_14
def FX1_copyRow_at10_18 (f : Nat → Int32) (a : Nat → Nat → Int32) (ta : Nat → Nat → Int32) (n : Nat) (z : Nat) (c : Nat) : SX := (f, uA a 18 (va_cpy (a 10) (a 18) 0 0 6), ta)
set_option maxHeartbeats 4000000 in
set_option maxRecDepth 100000 in
/-- a row copied -/
theorem c_X1_copyRow_at10_18 (l : Launch) (D : va_G) (cI cB : ClassId) (ad : Nat → Nat) (f : Nat → Int32) (a ta : Nat → Nat → Int32) (n z c : Nat) (hX : IX n z c f) (hI : wI 25 ad)  : Met l yX1_copyRow wsX1_copyRow ({ frames := 1, cells := 0, slots := 0, locals := 64 }) (GPc D cI cB (wX cI ad f a ta) [.ref (ad 10), .ref (ad 18)]) (va_Qv (fun u : SX => u = FX1_copyRow_at10_18 f a ta n z c) (fun u t => va_P D vwCl (wX cI ad u.1 u.2.1 u.2.2) t.heap) (wA 25 ad)) 0 0 (wA 25 ad) := by
  refine Met.ofW (cc := cX1_copyRow) (maxL := 2) (ret := none) (by decide) rfl ?_
  intro p e s m args below meth cd s₁ B hml hv
  obtain ⟨rfl, hP, hK⟩ := hv
  have hts := atoms_spec (ws := wsX1_copyRow) B.pre
  have E : CallFix p m cd cX1_copyRow 2 s _ wsX1_copyRow RX1 := ⟨B.exec, B.bytes, hml, findClass_of_methodNamed B.named, hts⟩
  have hr := B.returns
  have hlocks := B.notSynchronized
  have h2n := pow6 (n := n) (by have := hX.2.1; omega)
  obtain ⟨hn, hn6, hz, hz21, hc, hc6⟩ := id hX
  have hS : va_S (wA 25 ad) s.heap s.heap [] := va_S.rf
  have w_0 : (Cond.methodLink RX1 56 Lib.Math.min.name).before _ s = true := hts _ (by decide +kernel)
  have w_1 : (Cond.static Lib.Math.min.name).before _ s = true := hts _ (by decide +kernel)
  have w_2 : (Cond.initialized "java/lang/Math").before _ s = true := hts _ (by decide +kernel)
  have w_3 : (Cond.code Lib.Math.min.name Lib.Math.min.code 2 (some .int)).before _ s = true := hts _ (by decide +kernel)
  have w_4 : (Cond.methodLink RX1 62 arraycopyName).before _ s = true := hts _ (by decide +kernel)
  have w_5 : (Cond.native arraycopyName).before _ s = true := hts _ (by decide +kernel)
  have w_6 : (Cond.static arraycopyName).before _ s = true := hts _ (by decide +kernel)
  have w_7 : (Cond.initialized "java/lang/System").before _ s = true := hts _ (by decide +kernel)
  have hl := lv_entry ([.ref (ad 10), .ref (ad 18)]) (n := 2) (Nat.le_of_ble_eq_true rfl)
  rw [lg_entry_eq]
  generalize (lg_sl ([.ref (ad 10), .ref (ad 18)]) ++ List.replicate (2 - (lg_sl ([.ref (ad 10), .ref (ad 18)])).length) Slot.unset).toArray = ls at hl ⊢
  have hl : lv_has ls 2 [(0, .ref (ad 10)), (1, .ref (ad 18))] := hl
  refine lv_aload_n E.1 E.2.1 dX1_copyRow_0 rfl (lv_at hl 0 rfl) ?_
  refine lv_iconst (v := 0) E.1 E.2.1 dX1_copyRow_1 (by decide) ?_
  refine lv_aload_n E.1 E.2.1 dX1_copyRow_2 rfl (lv_at hl 1 rfl) ?_
  refine lv_iconst (v := 0) E.1 E.2.1 dX1_copyRow_3 (by decide) ?_
  refine lv_aload_n E.1 E.2.1 dX1_copyRow_4 rfl (lv_at hl 0 rfl) ?_
  refine xn_10 E hK hP dX1_copyRow_5 ?_
  refine lv_aload_n E.1 E.2.1 dX1_copyRow_6 rfl (lv_at hl 1 rfl) ?_
  refine xn_18 E hK hP dX1_copyRow_7 ?_
  refine va_mmin (x := 6) (y := 6) E.1 E.2.1 (E.2.2.1.trans hl.1.symm) E.2.2.2.1 w_0 w_1 w_2 w_3 (Nat.le_of_ble_eq_true rfl) (Nat.le_of_ble_eq_true rfl) (Nat.zero_le _) (Nat.zero_le _) dX1_copyRow_8 ?_
  refine lv_topi (fun y_1 ey_1 => ?_)
  obtain rfl : y_1 = 6 := ey_1.trans (by decide)
  refine va_copyi (ty := .int) (sp := 0) (dp := 0) (n := 6) E.1 E.2.1 (E.2.2.1.trans hl.1.symm) E.2.2.2.1 w_4 w_5 w_6 w_7 hK hP (wX_D hI) hS 10 18 0 0 rfl rfl rfl rfl rfl (by decide) (by decide) (by decide) (by decide) (by decide) (fun i _ => rfl) (Nat.le_of_ble_eq_true rfl) (Nat.le_of_ble_eq_true rfl) dX1_copyRow_11 (fun H locs hP _ hS => ?_)
  have hP : va_P D vwCl (wX cI ad f (uA a 18 (va_cpy (a 10) (a 18) 0 0 6)) ta) H := hP
  exact W.vret E.1 E.2.1 hr (fun t ht _ => ⟨⟨(f, uA a 18 (va_cpy (a 10) (a 18) 0 0 6), ta), rfl, (by rw [FX1_copyRow_at10_18]), (show va_P D vwCl (wX cI ad f (uA a 18 (va_cpy (a 10) (a 18) 0 0 6)) ta) t.heap from by rw [ht]; exact hP)⟩, hS.F ht⟩) hS.2.2 dX1_copyRow_14
def FX1_copyRow_at11_19 (f : Nat → Int32) (a : Nat → Nat → Int32) (ta : Nat → Nat → Int32) (n : Nat) (z : Nat) (c : Nat) : SX := (f, uA a 19 (va_cpy (a 11) (a 19) 0 0 6), ta)
set_option maxHeartbeats 4000000 in
set_option maxRecDepth 100000 in
/-- a row copied -/
theorem c_X1_copyRow_at11_19 (l : Launch) (D : va_G) (cI cB : ClassId) (ad : Nat → Nat) (f : Nat → Int32) (a ta : Nat → Nat → Int32) (n z c : Nat) (hX : IX n z c f) (hI : wI 25 ad)  : Met l yX1_copyRow wsX1_copyRow ({ frames := 1, cells := 0, slots := 0, locals := 64 }) (GPc D cI cB (wX cI ad f a ta) [.ref (ad 11), .ref (ad 19)]) (va_Qv (fun u : SX => u = FX1_copyRow_at11_19 f a ta n z c) (fun u t => va_P D vwCl (wX cI ad u.1 u.2.1 u.2.2) t.heap) (wA 25 ad)) 0 0 (wA 25 ad) := by
  refine Met.ofW (cc := cX1_copyRow) (maxL := 2) (ret := none) (by decide) rfl ?_
  intro p e s m args below meth cd s₁ B hml hv
  obtain ⟨rfl, hP, hK⟩ := hv
  have hts := atoms_spec (ws := wsX1_copyRow) B.pre
  have E : CallFix p m cd cX1_copyRow 2 s _ wsX1_copyRow RX1 := ⟨B.exec, B.bytes, hml, findClass_of_methodNamed B.named, hts⟩
  have hr := B.returns
  have hlocks := B.notSynchronized
  have h2n := pow6 (n := n) (by have := hX.2.1; omega)
  obtain ⟨hn, hn6, hz, hz21, hc, hc6⟩ := id hX
  have hS : va_S (wA 25 ad) s.heap s.heap [] := va_S.rf
  have w_0 : (Cond.methodLink RX1 56 Lib.Math.min.name).before _ s = true := hts _ (by decide +kernel)
  have w_1 : (Cond.static Lib.Math.min.name).before _ s = true := hts _ (by decide +kernel)
  have w_2 : (Cond.initialized "java/lang/Math").before _ s = true := hts _ (by decide +kernel)
  have w_3 : (Cond.code Lib.Math.min.name Lib.Math.min.code 2 (some .int)).before _ s = true := hts _ (by decide +kernel)
  have w_4 : (Cond.methodLink RX1 62 arraycopyName).before _ s = true := hts _ (by decide +kernel)
  have w_5 : (Cond.native arraycopyName).before _ s = true := hts _ (by decide +kernel)
  have w_6 : (Cond.static arraycopyName).before _ s = true := hts _ (by decide +kernel)
  have w_7 : (Cond.initialized "java/lang/System").before _ s = true := hts _ (by decide +kernel)
  have hl := lv_entry ([.ref (ad 11), .ref (ad 19)]) (n := 2) (Nat.le_of_ble_eq_true rfl)
  rw [lg_entry_eq]
  generalize (lg_sl ([.ref (ad 11), .ref (ad 19)]) ++ List.replicate (2 - (lg_sl ([.ref (ad 11), .ref (ad 19)])).length) Slot.unset).toArray = ls at hl ⊢
  have hl : lv_has ls 2 [(0, .ref (ad 11)), (1, .ref (ad 19))] := hl
  refine lv_aload_n E.1 E.2.1 dX1_copyRow_0 rfl (lv_at hl 0 rfl) ?_
  refine lv_iconst (v := 0) E.1 E.2.1 dX1_copyRow_1 (by decide) ?_
  refine lv_aload_n E.1 E.2.1 dX1_copyRow_2 rfl (lv_at hl 1 rfl) ?_
  refine lv_iconst (v := 0) E.1 E.2.1 dX1_copyRow_3 (by decide) ?_
  refine lv_aload_n E.1 E.2.1 dX1_copyRow_4 rfl (lv_at hl 0 rfl) ?_
  refine xn_11 E hK hP dX1_copyRow_5 ?_
  refine lv_aload_n E.1 E.2.1 dX1_copyRow_6 rfl (lv_at hl 1 rfl) ?_
  refine xn_19 E hK hP dX1_copyRow_7 ?_
  refine va_mmin (x := 6) (y := 6) E.1 E.2.1 (E.2.2.1.trans hl.1.symm) E.2.2.2.1 w_0 w_1 w_2 w_3 (Nat.le_of_ble_eq_true rfl) (Nat.le_of_ble_eq_true rfl) (Nat.zero_le _) (Nat.zero_le _) dX1_copyRow_8 ?_
  refine lv_topi (fun y_1 ey_1 => ?_)
  obtain rfl : y_1 = 6 := ey_1.trans (by decide)
  refine va_copyi (ty := .int) (sp := 0) (dp := 0) (n := 6) E.1 E.2.1 (E.2.2.1.trans hl.1.symm) E.2.2.2.1 w_4 w_5 w_6 w_7 hK hP (wX_D hI) hS 11 19 0 0 rfl rfl rfl rfl rfl (by decide) (by decide) (by decide) (by decide) (by decide) (fun i _ => rfl) (Nat.le_of_ble_eq_true rfl) (Nat.le_of_ble_eq_true rfl) dX1_copyRow_11 (fun H locs hP _ hS => ?_)
  have hP : va_P D vwCl (wX cI ad f (uA a 19 (va_cpy (a 11) (a 19) 0 0 6)) ta) H := hP
  exact W.vret E.1 E.2.1 hr (fun t ht _ => ⟨⟨(f, uA a 19 (va_cpy (a 11) (a 19) 0 0 6), ta), rfl, (by rw [FX1_copyRow_at11_19]), (show va_P D vwCl (wX cI ad f (uA a 19 (va_cpy (a 11) (a 19) 0 0 6)) ta) t.heap from by rw [ht]; exact hP)⟩, hS.F ht⟩) hS.2.2 dX1_copyRow_14
def FX1_copyRow_at12_20 (f : Nat → Int32) (a : Nat → Nat → Int32) (ta : Nat → Nat → Int32) (n : Nat) (z : Nat) (c : Nat) : SX := (f, uA a 20 (va_cpy (a 12) (a 20) 0 0 6), ta)
set_option maxHeartbeats 4000000 in
set_option maxRecDepth 100000 in
/-- a row copied -/
theorem c_X1_copyRow_at12_20 (l : Launch) (D : va_G) (cI cB : ClassId) (ad : Nat → Nat) (f : Nat → Int32) (a ta : Nat → Nat → Int32) (n z c : Nat) (hX : IX n z c f) (hI : wI 25 ad)  : Met l yX1_copyRow wsX1_copyRow ({ frames := 1, cells := 0, slots := 0, locals := 64 }) (GPc D cI cB (wX cI ad f a ta) [.ref (ad 12), .ref (ad 20)]) (va_Qv (fun u : SX => u = FX1_copyRow_at12_20 f a ta n z c) (fun u t => va_P D vwCl (wX cI ad u.1 u.2.1 u.2.2) t.heap) (wA 25 ad)) 0 0 (wA 25 ad) := by
  refine Met.ofW (cc := cX1_copyRow) (maxL := 2) (ret := none) (by decide) rfl ?_
  intro p e s m args below meth cd s₁ B hml hv
  obtain ⟨rfl, hP, hK⟩ := hv
  have hts := atoms_spec (ws := wsX1_copyRow) B.pre
  have E : CallFix p m cd cX1_copyRow 2 s _ wsX1_copyRow RX1 := ⟨B.exec, B.bytes, hml, findClass_of_methodNamed B.named, hts⟩
  have hr := B.returns
  have hlocks := B.notSynchronized
  have h2n := pow6 (n := n) (by have := hX.2.1; omega)
  obtain ⟨hn, hn6, hz, hz21, hc, hc6⟩ := id hX
  have hS : va_S (wA 25 ad) s.heap s.heap [] := va_S.rf
  have w_0 : (Cond.methodLink RX1 56 Lib.Math.min.name).before _ s = true := hts _ (by decide +kernel)
  have w_1 : (Cond.static Lib.Math.min.name).before _ s = true := hts _ (by decide +kernel)
  have w_2 : (Cond.initialized "java/lang/Math").before _ s = true := hts _ (by decide +kernel)
  have w_3 : (Cond.code Lib.Math.min.name Lib.Math.min.code 2 (some .int)).before _ s = true := hts _ (by decide +kernel)
  have w_4 : (Cond.methodLink RX1 62 arraycopyName).before _ s = true := hts _ (by decide +kernel)
  have w_5 : (Cond.native arraycopyName).before _ s = true := hts _ (by decide +kernel)
  have w_6 : (Cond.static arraycopyName).before _ s = true := hts _ (by decide +kernel)
  have w_7 : (Cond.initialized "java/lang/System").before _ s = true := hts _ (by decide +kernel)
  have hl := lv_entry ([.ref (ad 12), .ref (ad 20)]) (n := 2) (Nat.le_of_ble_eq_true rfl)
  rw [lg_entry_eq]
  generalize (lg_sl ([.ref (ad 12), .ref (ad 20)]) ++ List.replicate (2 - (lg_sl ([.ref (ad 12), .ref (ad 20)])).length) Slot.unset).toArray = ls at hl ⊢
  have hl : lv_has ls 2 [(0, .ref (ad 12)), (1, .ref (ad 20))] := hl
  refine lv_aload_n E.1 E.2.1 dX1_copyRow_0 rfl (lv_at hl 0 rfl) ?_
  refine lv_iconst (v := 0) E.1 E.2.1 dX1_copyRow_1 (by decide) ?_
  refine lv_aload_n E.1 E.2.1 dX1_copyRow_2 rfl (lv_at hl 1 rfl) ?_
  refine lv_iconst (v := 0) E.1 E.2.1 dX1_copyRow_3 (by decide) ?_
  refine lv_aload_n E.1 E.2.1 dX1_copyRow_4 rfl (lv_at hl 0 rfl) ?_
  refine xn_12 E hK hP dX1_copyRow_5 ?_
  refine lv_aload_n E.1 E.2.1 dX1_copyRow_6 rfl (lv_at hl 1 rfl) ?_
  refine xn_20 E hK hP dX1_copyRow_7 ?_
  refine va_mmin (x := 6) (y := 6) E.1 E.2.1 (E.2.2.1.trans hl.1.symm) E.2.2.2.1 w_0 w_1 w_2 w_3 (Nat.le_of_ble_eq_true rfl) (Nat.le_of_ble_eq_true rfl) (Nat.zero_le _) (Nat.zero_le _) dX1_copyRow_8 ?_
  refine lv_topi (fun y_1 ey_1 => ?_)
  obtain rfl : y_1 = 6 := ey_1.trans (by decide)
  refine va_copyi (ty := .int) (sp := 0) (dp := 0) (n := 6) E.1 E.2.1 (E.2.2.1.trans hl.1.symm) E.2.2.2.1 w_4 w_5 w_6 w_7 hK hP (wX_D hI) hS 12 20 0 0 rfl rfl rfl rfl rfl (by decide) (by decide) (by decide) (by decide) (by decide) (fun i _ => rfl) (Nat.le_of_ble_eq_true rfl) (Nat.le_of_ble_eq_true rfl) dX1_copyRow_11 (fun H locs hP _ hS => ?_)
  have hP : va_P D vwCl (wX cI ad f (uA a 20 (va_cpy (a 12) (a 20) 0 0 6)) ta) H := hP
  exact W.vret E.1 E.2.1 hr (fun t ht _ => ⟨⟨(f, uA a 20 (va_cpy (a 12) (a 20) 0 0 6), ta), rfl, (by rw [FX1_copyRow_at12_20]), (show va_P D vwCl (wX cI ad f (uA a 20 (va_cpy (a 12) (a 20) 0 0 6)) ta) t.heap from by rw [ht]; exact hP)⟩, hS.F ht⟩) hS.2.2 dX1_copyRow_14
def FX1_copyRow_at13_21 (f : Nat → Int32) (a : Nat → Nat → Int32) (ta : Nat → Nat → Int32) (n : Nat) (z : Nat) (c : Nat) : SX := (f, uA a 21 (va_cpy (a 13) (a 21) 0 0 6), ta)
set_option maxHeartbeats 4000000 in
set_option maxRecDepth 100000 in
/-- a row copied -/
theorem c_X1_copyRow_at13_21 (l : Launch) (D : va_G) (cI cB : ClassId) (ad : Nat → Nat) (f : Nat → Int32) (a ta : Nat → Nat → Int32) (n z c : Nat) (hX : IX n z c f) (hI : wI 25 ad)  : Met l yX1_copyRow wsX1_copyRow ({ frames := 1, cells := 0, slots := 0, locals := 64 }) (GPc D cI cB (wX cI ad f a ta) [.ref (ad 13), .ref (ad 21)]) (va_Qv (fun u : SX => u = FX1_copyRow_at13_21 f a ta n z c) (fun u t => va_P D vwCl (wX cI ad u.1 u.2.1 u.2.2) t.heap) (wA 25 ad)) 0 0 (wA 25 ad) := by
  refine Met.ofW (cc := cX1_copyRow) (maxL := 2) (ret := none) (by decide) rfl ?_
  intro p e s m args below meth cd s₁ B hml hv
  obtain ⟨rfl, hP, hK⟩ := hv
  have hts := atoms_spec (ws := wsX1_copyRow) B.pre
  have E : CallFix p m cd cX1_copyRow 2 s _ wsX1_copyRow RX1 := ⟨B.exec, B.bytes, hml, findClass_of_methodNamed B.named, hts⟩
  have hr := B.returns
  have hlocks := B.notSynchronized
  have h2n := pow6 (n := n) (by have := hX.2.1; omega)
  obtain ⟨hn, hn6, hz, hz21, hc, hc6⟩ := id hX
  have hS : va_S (wA 25 ad) s.heap s.heap [] := va_S.rf
  have w_0 : (Cond.methodLink RX1 56 Lib.Math.min.name).before _ s = true := hts _ (by decide +kernel)
  have w_1 : (Cond.static Lib.Math.min.name).before _ s = true := hts _ (by decide +kernel)
  have w_2 : (Cond.initialized "java/lang/Math").before _ s = true := hts _ (by decide +kernel)
  have w_3 : (Cond.code Lib.Math.min.name Lib.Math.min.code 2 (some .int)).before _ s = true := hts _ (by decide +kernel)
  have w_4 : (Cond.methodLink RX1 62 arraycopyName).before _ s = true := hts _ (by decide +kernel)
  have w_5 : (Cond.native arraycopyName).before _ s = true := hts _ (by decide +kernel)
  have w_6 : (Cond.static arraycopyName).before _ s = true := hts _ (by decide +kernel)
  have w_7 : (Cond.initialized "java/lang/System").before _ s = true := hts _ (by decide +kernel)
  have hl := lv_entry ([.ref (ad 13), .ref (ad 21)]) (n := 2) (Nat.le_of_ble_eq_true rfl)
  rw [lg_entry_eq]
  generalize (lg_sl ([.ref (ad 13), .ref (ad 21)]) ++ List.replicate (2 - (lg_sl ([.ref (ad 13), .ref (ad 21)])).length) Slot.unset).toArray = ls at hl ⊢
  have hl : lv_has ls 2 [(0, .ref (ad 13)), (1, .ref (ad 21))] := hl
  refine lv_aload_n E.1 E.2.1 dX1_copyRow_0 rfl (lv_at hl 0 rfl) ?_
  refine lv_iconst (v := 0) E.1 E.2.1 dX1_copyRow_1 (by decide) ?_
  refine lv_aload_n E.1 E.2.1 dX1_copyRow_2 rfl (lv_at hl 1 rfl) ?_
  refine lv_iconst (v := 0) E.1 E.2.1 dX1_copyRow_3 (by decide) ?_
  refine lv_aload_n E.1 E.2.1 dX1_copyRow_4 rfl (lv_at hl 0 rfl) ?_
  refine xn_13 E hK hP dX1_copyRow_5 ?_
  refine lv_aload_n E.1 E.2.1 dX1_copyRow_6 rfl (lv_at hl 1 rfl) ?_
  refine xn_21 E hK hP dX1_copyRow_7 ?_
  refine va_mmin (x := 6) (y := 6) E.1 E.2.1 (E.2.2.1.trans hl.1.symm) E.2.2.2.1 w_0 w_1 w_2 w_3 (Nat.le_of_ble_eq_true rfl) (Nat.le_of_ble_eq_true rfl) (Nat.zero_le _) (Nat.zero_le _) dX1_copyRow_8 ?_
  refine lv_topi (fun y_1 ey_1 => ?_)
  obtain rfl : y_1 = 6 := ey_1.trans (by decide)
  refine va_copyi (ty := .int) (sp := 0) (dp := 0) (n := 6) E.1 E.2.1 (E.2.2.1.trans hl.1.symm) E.2.2.2.1 w_4 w_5 w_6 w_7 hK hP (wX_D hI) hS 13 21 0 0 rfl rfl rfl rfl rfl (by decide) (by decide) (by decide) (by decide) (by decide) (fun i _ => rfl) (Nat.le_of_ble_eq_true rfl) (Nat.le_of_ble_eq_true rfl) dX1_copyRow_11 (fun H locs hP _ hS => ?_)
  have hP : va_P D vwCl (wX cI ad f (uA a 21 (va_cpy (a 13) (a 21) 0 0 6)) ta) H := hP
  exact W.vret E.1 E.2.1 hr (fun t ht _ => ⟨⟨(f, uA a 21 (va_cpy (a 13) (a 21) 0 0 6), ta), rfl, (by rw [FX1_copyRow_at13_21]), (show va_P D vwCl (wX cI ad f (uA a 21 (va_cpy (a 13) (a 21) 0 0 6)) ta) t.heap from by rw [ht]; exact hP)⟩, hS.F ht⟩) hS.2.2 dX1_copyRow_14
def FX1_copyRow_at14_22 (f : Nat → Int32) (a : Nat → Nat → Int32) (ta : Nat → Nat → Int32) (n : Nat) (z : Nat) (c : Nat) : SX := (f, uA a 22 (va_cpy (a 14) (a 22) 0 0 6), ta)
set_option maxHeartbeats 4000000 in
set_option maxRecDepth 100000 in
/-- a row copied -/
theorem c_X1_copyRow_at14_22 (l : Launch) (D : va_G) (cI cB : ClassId) (ad : Nat → Nat) (f : Nat → Int32) (a ta : Nat → Nat → Int32) (n z c : Nat) (hX : IX n z c f) (hI : wI 25 ad)  : Met l yX1_copyRow wsX1_copyRow ({ frames := 1, cells := 0, slots := 0, locals := 64 }) (GPc D cI cB (wX cI ad f a ta) [.ref (ad 14), .ref (ad 22)]) (va_Qv (fun u : SX => u = FX1_copyRow_at14_22 f a ta n z c) (fun u t => va_P D vwCl (wX cI ad u.1 u.2.1 u.2.2) t.heap) (wA 25 ad)) 0 0 (wA 25 ad) := by
  refine Met.ofW (cc := cX1_copyRow) (maxL := 2) (ret := none) (by decide) rfl ?_
  intro p e s m args below meth cd s₁ B hml hv
  obtain ⟨rfl, hP, hK⟩ := hv
  have hts := atoms_spec (ws := wsX1_copyRow) B.pre
  have E : CallFix p m cd cX1_copyRow 2 s _ wsX1_copyRow RX1 := ⟨B.exec, B.bytes, hml, findClass_of_methodNamed B.named, hts⟩
  have hr := B.returns
  have hlocks := B.notSynchronized
  have h2n := pow6 (n := n) (by have := hX.2.1; omega)
  obtain ⟨hn, hn6, hz, hz21, hc, hc6⟩ := id hX
  have hS : va_S (wA 25 ad) s.heap s.heap [] := va_S.rf
  have w_0 : (Cond.methodLink RX1 56 Lib.Math.min.name).before _ s = true := hts _ (by decide +kernel)
  have w_1 : (Cond.static Lib.Math.min.name).before _ s = true := hts _ (by decide +kernel)
  have w_2 : (Cond.initialized "java/lang/Math").before _ s = true := hts _ (by decide +kernel)
  have w_3 : (Cond.code Lib.Math.min.name Lib.Math.min.code 2 (some .int)).before _ s = true := hts _ (by decide +kernel)
  have w_4 : (Cond.methodLink RX1 62 arraycopyName).before _ s = true := hts _ (by decide +kernel)
  have w_5 : (Cond.native arraycopyName).before _ s = true := hts _ (by decide +kernel)
  have w_6 : (Cond.static arraycopyName).before _ s = true := hts _ (by decide +kernel)
  have w_7 : (Cond.initialized "java/lang/System").before _ s = true := hts _ (by decide +kernel)
  have hl := lv_entry ([.ref (ad 14), .ref (ad 22)]) (n := 2) (Nat.le_of_ble_eq_true rfl)
  rw [lg_entry_eq]
  generalize (lg_sl ([.ref (ad 14), .ref (ad 22)]) ++ List.replicate (2 - (lg_sl ([.ref (ad 14), .ref (ad 22)])).length) Slot.unset).toArray = ls at hl ⊢
  have hl : lv_has ls 2 [(0, .ref (ad 14)), (1, .ref (ad 22))] := hl
  refine lv_aload_n E.1 E.2.1 dX1_copyRow_0 rfl (lv_at hl 0 rfl) ?_
  refine lv_iconst (v := 0) E.1 E.2.1 dX1_copyRow_1 (by decide) ?_
  refine lv_aload_n E.1 E.2.1 dX1_copyRow_2 rfl (lv_at hl 1 rfl) ?_
  refine lv_iconst (v := 0) E.1 E.2.1 dX1_copyRow_3 (by decide) ?_
  refine lv_aload_n E.1 E.2.1 dX1_copyRow_4 rfl (lv_at hl 0 rfl) ?_
  refine xn_14 E hK hP dX1_copyRow_5 ?_
  refine lv_aload_n E.1 E.2.1 dX1_copyRow_6 rfl (lv_at hl 1 rfl) ?_
  refine xn_22 E hK hP dX1_copyRow_7 ?_
  refine va_mmin (x := 6) (y := 6) E.1 E.2.1 (E.2.2.1.trans hl.1.symm) E.2.2.2.1 w_0 w_1 w_2 w_3 (Nat.le_of_ble_eq_true rfl) (Nat.le_of_ble_eq_true rfl) (Nat.zero_le _) (Nat.zero_le _) dX1_copyRow_8 ?_
  refine lv_topi (fun y_1 ey_1 => ?_)
  obtain rfl : y_1 = 6 := ey_1.trans (by decide)
  refine va_copyi (ty := .int) (sp := 0) (dp := 0) (n := 6) E.1 E.2.1 (E.2.2.1.trans hl.1.symm) E.2.2.2.1 w_4 w_5 w_6 w_7 hK hP (wX_D hI) hS 14 22 0 0 rfl rfl rfl rfl rfl (by decide) (by decide) (by decide) (by decide) (by decide) (fun i _ => rfl) (Nat.le_of_ble_eq_true rfl) (Nat.le_of_ble_eq_true rfl) dX1_copyRow_11 (fun H locs hP _ hS => ?_)
  have hP : va_P D vwCl (wX cI ad f (uA a 22 (va_cpy (a 14) (a 22) 0 0 6)) ta) H := hP
  exact W.vret E.1 E.2.1 hr (fun t ht _ => ⟨⟨(f, uA a 22 (va_cpy (a 14) (a 22) 0 0 6), ta), rfl, (by rw [FX1_copyRow_at14_22]), (show va_P D vwCl (wX cI ad f (uA a 22 (va_cpy (a 14) (a 22) 0 0 6)) ta) t.heap from by rw [ht]; exact hP)⟩, hS.F ht⟩) hS.2.2 dX1_copyRow_14
def FX1_copyRow_at15_23 (f : Nat → Int32) (a : Nat → Nat → Int32) (ta : Nat → Nat → Int32) (n : Nat) (z : Nat) (c : Nat) : SX := (f, uA a 23 (va_cpy (a 15) (a 23) 0 0 6), ta)
set_option maxHeartbeats 4000000 in
set_option maxRecDepth 100000 in
/-- a row copied -/
theorem c_X1_copyRow_at15_23 (l : Launch) (D : va_G) (cI cB : ClassId) (ad : Nat → Nat) (f : Nat → Int32) (a ta : Nat → Nat → Int32) (n z c : Nat) (hX : IX n z c f) (hI : wI 25 ad)  : Met l yX1_copyRow wsX1_copyRow ({ frames := 1, cells := 0, slots := 0, locals := 64 }) (GPc D cI cB (wX cI ad f a ta) [.ref (ad 15), .ref (ad 23)]) (va_Qv (fun u : SX => u = FX1_copyRow_at15_23 f a ta n z c) (fun u t => va_P D vwCl (wX cI ad u.1 u.2.1 u.2.2) t.heap) (wA 25 ad)) 0 0 (wA 25 ad) := by
  refine Met.ofW (cc := cX1_copyRow) (maxL := 2) (ret := none) (by decide) rfl ?_
  intro p e s m args below meth cd s₁ B hml hv
  obtain ⟨rfl, hP, hK⟩ := hv
  have hts := atoms_spec (ws := wsX1_copyRow) B.pre
  have E : CallFix p m cd cX1_copyRow 2 s _ wsX1_copyRow RX1 := ⟨B.exec, B.bytes, hml, findClass_of_methodNamed B.named, hts⟩
  have hr := B.returns
  have hlocks := B.notSynchronized
  have h2n := pow6 (n := n) (by have := hX.2.1; omega)
  obtain ⟨hn, hn6, hz, hz21, hc, hc6⟩ := id hX
  have hS : va_S (wA 25 ad) s.heap s.heap [] := va_S.rf
  have w_0 : (Cond.methodLink RX1 56 Lib.Math.min.name).before _ s = true := hts _ (by decide +kernel)
  have w_1 : (Cond.static Lib.Math.min.name).before _ s = true := hts _ (by decide +kernel)
  have w_2 : (Cond.initialized "java/lang/Math").before _ s = true := hts _ (by decide +kernel)
  have w_3 : (Cond.code Lib.Math.min.name Lib.Math.min.code 2 (some .int)).before _ s = true := hts _ (by decide +kernel)
  have w_4 : (Cond.methodLink RX1 62 arraycopyName).before _ s = true := hts _ (by decide +kernel)
  have w_5 : (Cond.native arraycopyName).before _ s = true := hts _ (by decide +kernel)
  have w_6 : (Cond.static arraycopyName).before _ s = true := hts _ (by decide +kernel)
  have w_7 : (Cond.initialized "java/lang/System").before _ s = true := hts _ (by decide +kernel)
  have hl := lv_entry ([.ref (ad 15), .ref (ad 23)]) (n := 2) (Nat.le_of_ble_eq_true rfl)
  rw [lg_entry_eq]
  generalize (lg_sl ([.ref (ad 15), .ref (ad 23)]) ++ List.replicate (2 - (lg_sl ([.ref (ad 15), .ref (ad 23)])).length) Slot.unset).toArray = ls at hl ⊢
  have hl : lv_has ls 2 [(0, .ref (ad 15)), (1, .ref (ad 23))] := hl
  refine lv_aload_n E.1 E.2.1 dX1_copyRow_0 rfl (lv_at hl 0 rfl) ?_
  refine lv_iconst (v := 0) E.1 E.2.1 dX1_copyRow_1 (by decide) ?_
  refine lv_aload_n E.1 E.2.1 dX1_copyRow_2 rfl (lv_at hl 1 rfl) ?_
  refine lv_iconst (v := 0) E.1 E.2.1 dX1_copyRow_3 (by decide) ?_
  refine lv_aload_n E.1 E.2.1 dX1_copyRow_4 rfl (lv_at hl 0 rfl) ?_
  refine xn_15 E hK hP dX1_copyRow_5 ?_
  refine lv_aload_n E.1 E.2.1 dX1_copyRow_6 rfl (lv_at hl 1 rfl) ?_
  refine xn_23 E hK hP dX1_copyRow_7 ?_
  refine va_mmin (x := 6) (y := 6) E.1 E.2.1 (E.2.2.1.trans hl.1.symm) E.2.2.2.1 w_0 w_1 w_2 w_3 (Nat.le_of_ble_eq_true rfl) (Nat.le_of_ble_eq_true rfl) (Nat.zero_le _) (Nat.zero_le _) dX1_copyRow_8 ?_
  refine lv_topi (fun y_1 ey_1 => ?_)
  obtain rfl : y_1 = 6 := ey_1.trans (by decide)
  refine va_copyi (ty := .int) (sp := 0) (dp := 0) (n := 6) E.1 E.2.1 (E.2.2.1.trans hl.1.symm) E.2.2.2.1 w_4 w_5 w_6 w_7 hK hP (wX_D hI) hS 15 23 0 0 rfl rfl rfl rfl rfl (by decide) (by decide) (by decide) (by decide) (by decide) (fun i _ => rfl) (Nat.le_of_ble_eq_true rfl) (Nat.le_of_ble_eq_true rfl) dX1_copyRow_11 (fun H locs hP _ hS => ?_)
  have hP : va_P D vwCl (wX cI ad f (uA a 23 (va_cpy (a 15) (a 23) 0 0 6)) ta) H := hP
  exact W.vret E.1 E.2.1 hr (fun t ht _ => ⟨⟨(f, uA a 23 (va_cpy (a 15) (a 23) 0 0 6), ta), rfl, (by rw [FX1_copyRow_at15_23]), (show va_P D vwCl (wX cI ad f (uA a 23 (va_cpy (a 15) (a 23) 0 0 6)) ta) t.heap from by rw [ht]; exact hP)⟩, hS.F ht⟩) hS.2.2 dX1_copyRow_14
def FX1_copyRow_at16_24 (f : Nat → Int32) (a : Nat → Nat → Int32) (ta : Nat → Nat → Int32) (n : Nat) (z : Nat) (c : Nat) : SX := (f, uA a 24 (va_cpy (a 16) (a 24) 0 0 6), ta)
set_option maxHeartbeats 4000000 in
set_option maxRecDepth 100000 in
/-- a row copied -/
theorem c_X1_copyRow_at16_24 (l : Launch) (D : va_G) (cI cB : ClassId) (ad : Nat → Nat) (f : Nat → Int32) (a ta : Nat → Nat → Int32) (n z c : Nat) (hX : IX n z c f) (hI : wI 25 ad)  : Met l yX1_copyRow wsX1_copyRow ({ frames := 1, cells := 0, slots := 0, locals := 64 }) (GPc D cI cB (wX cI ad f a ta) [.ref (ad 16), .ref (ad 24)]) (va_Qv (fun u : SX => u = FX1_copyRow_at16_24 f a ta n z c) (fun u t => va_P D vwCl (wX cI ad u.1 u.2.1 u.2.2) t.heap) (wA 25 ad)) 0 0 (wA 25 ad) := by
  refine Met.ofW (cc := cX1_copyRow) (maxL := 2) (ret := none) (by decide) rfl ?_
  intro p e s m args below meth cd s₁ B hml hv
  obtain ⟨rfl, hP, hK⟩ := hv
  have hts := atoms_spec (ws := wsX1_copyRow) B.pre
  have E : CallFix p m cd cX1_copyRow 2 s _ wsX1_copyRow RX1 := ⟨B.exec, B.bytes, hml, findClass_of_methodNamed B.named, hts⟩
  have hr := B.returns
  have hlocks := B.notSynchronized
  have h2n := pow6 (n := n) (by have := hX.2.1; omega)
  obtain ⟨hn, hn6, hz, hz21, hc, hc6⟩ := id hX
  have hS : va_S (wA 25 ad) s.heap s.heap [] := va_S.rf
  have w_0 : (Cond.methodLink RX1 56 Lib.Math.min.name).before _ s = true := hts _ (by decide +kernel)
  have w_1 : (Cond.static Lib.Math.min.name).before _ s = true := hts _ (by decide +kernel)
  have w_2 : (Cond.initialized "java/lang/Math").before _ s = true := hts _ (by decide +kernel)
  have w_3 : (Cond.code Lib.Math.min.name Lib.Math.min.code 2 (some .int)).before _ s = true := hts _ (by decide +kernel)
  have w_4 : (Cond.methodLink RX1 62 arraycopyName).before _ s = true := hts _ (by decide +kernel)
  have w_5 : (Cond.native arraycopyName).before _ s = true := hts _ (by decide +kernel)
  have w_6 : (Cond.static arraycopyName).before _ s = true := hts _ (by decide +kernel)
  have w_7 : (Cond.initialized "java/lang/System").before _ s = true := hts _ (by decide +kernel)
  have hl := lv_entry ([.ref (ad 16), .ref (ad 24)]) (n := 2) (Nat.le_of_ble_eq_true rfl)
  rw [lg_entry_eq]
  generalize (lg_sl ([.ref (ad 16), .ref (ad 24)]) ++ List.replicate (2 - (lg_sl ([.ref (ad 16), .ref (ad 24)])).length) Slot.unset).toArray = ls at hl ⊢
  have hl : lv_has ls 2 [(0, .ref (ad 16)), (1, .ref (ad 24))] := hl
  refine lv_aload_n E.1 E.2.1 dX1_copyRow_0 rfl (lv_at hl 0 rfl) ?_
  refine lv_iconst (v := 0) E.1 E.2.1 dX1_copyRow_1 (by decide) ?_
  refine lv_aload_n E.1 E.2.1 dX1_copyRow_2 rfl (lv_at hl 1 rfl) ?_
  refine lv_iconst (v := 0) E.1 E.2.1 dX1_copyRow_3 (by decide) ?_
  refine lv_aload_n E.1 E.2.1 dX1_copyRow_4 rfl (lv_at hl 0 rfl) ?_
  refine xn_16 E hK hP dX1_copyRow_5 ?_
  refine lv_aload_n E.1 E.2.1 dX1_copyRow_6 rfl (lv_at hl 1 rfl) ?_
  refine xn_24 E hK hP dX1_copyRow_7 ?_
  refine va_mmin (x := 6) (y := 6) E.1 E.2.1 (E.2.2.1.trans hl.1.symm) E.2.2.2.1 w_0 w_1 w_2 w_3 (Nat.le_of_ble_eq_true rfl) (Nat.le_of_ble_eq_true rfl) (Nat.zero_le _) (Nat.zero_le _) dX1_copyRow_8 ?_
  refine lv_topi (fun y_1 ey_1 => ?_)
  obtain rfl : y_1 = 6 := ey_1.trans (by decide)
  refine va_copyi (ty := .int) (sp := 0) (dp := 0) (n := 6) E.1 E.2.1 (E.2.2.1.trans hl.1.symm) E.2.2.2.1 w_4 w_5 w_6 w_7 hK hP (wX_D hI) hS 16 24 0 0 rfl rfl rfl rfl rfl (by decide) (by decide) (by decide) (by decide) (by decide) (fun i _ => rfl) (Nat.le_of_ble_eq_true rfl) (Nat.le_of_ble_eq_true rfl) dX1_copyRow_11 (fun H locs hP _ hS => ?_)
  have hP : va_P D vwCl (wX cI ad f (uA a 24 (va_cpy (a 16) (a 24) 0 0 6)) ta) H := hP
  exact W.vret E.1 E.2.1 hr (fun t ht _ => ⟨⟨(f, uA a 24 (va_cpy (a 16) (a 24) 0 0 6), ta), rfl, (by rw [FX1_copyRow_at16_24]), (show va_P D vwCl (wX cI ad f (uA a 24 (va_cpy (a 16) (a 24) 0 0 6)) ta) t.heap from by rw [ht]; exact hP)⟩, hS.F ht⟩) hS.2.2 dX1_copyRow_14
def FX1_copyRow_at17_9 (f : Nat → Int32) (a : Nat → Nat → Int32) (ta : Nat → Nat → Int32) (n : Nat) (z : Nat) (c : Nat) : SX := (f, uA a 9 (va_cpy (a 17) (a 9) 0 0 6), ta)
set_option maxHeartbeats 4000000 in
set_option maxRecDepth 100000 in
/-- a row copied -/
theorem c_X1_copyRow_at17_9 (l : Launch) (D : va_G) (cI cB : ClassId) (ad : Nat → Nat) (f : Nat → Int32) (a ta : Nat → Nat → Int32) (n z c : Nat) (hX : IX n z c f) (hI : wI 25 ad)  : Met l yX1_copyRow wsX1_copyRow ({ frames := 1, cells := 0, slots := 0, locals := 64 }) (GPc D cI cB (wX cI ad f a ta) [.ref (ad 17), .ref (ad 9)]) (va_Qv (fun u : SX => u = FX1_copyRow_at17_9 f a ta n z c) (fun u t => va_P D vwCl (wX cI ad u.1 u.2.1 u.2.2) t.heap) (wA 25 ad)) 0 0 (wA 25 ad) := by
  refine Met.ofW (cc := cX1_copyRow) (maxL := 2) (ret := none) (by decide) rfl ?_
  intro p e s m args below meth cd s₁ B hml hv
  obtain ⟨rfl, hP, hK⟩ := hv
  have hts := atoms_spec (ws := wsX1_copyRow) B.pre
  have E : CallFix p m cd cX1_copyRow 2 s _ wsX1_copyRow RX1 := ⟨B.exec, B.bytes, hml, findClass_of_methodNamed B.named, hts⟩
  have hr := B.returns
  have hlocks := B.notSynchronized
  have h2n := pow6 (n := n) (by have := hX.2.1; omega)
  obtain ⟨hn, hn6, hz, hz21, hc, hc6⟩ := id hX
  have hS : va_S (wA 25 ad) s.heap s.heap [] := va_S.rf
  have w_0 : (Cond.methodLink RX1 56 Lib.Math.min.name).before _ s = true := hts _ (by decide +kernel)
  have w_1 : (Cond.static Lib.Math.min.name).before _ s = true := hts _ (by decide +kernel)
  have w_2 : (Cond.initialized "java/lang/Math").before _ s = true := hts _ (by decide +kernel)
  have w_3 : (Cond.code Lib.Math.min.name Lib.Math.min.code 2 (some .int)).before _ s = true := hts _ (by decide +kernel)
  have w_4 : (Cond.methodLink RX1 62 arraycopyName).before _ s = true := hts _ (by decide +kernel)
  have w_5 : (Cond.native arraycopyName).before _ s = true := hts _ (by decide +kernel)
  have w_6 : (Cond.static arraycopyName).before _ s = true := hts _ (by decide +kernel)
  have w_7 : (Cond.initialized "java/lang/System").before _ s = true := hts _ (by decide +kernel)
  have hl := lv_entry ([.ref (ad 17), .ref (ad 9)]) (n := 2) (Nat.le_of_ble_eq_true rfl)
  rw [lg_entry_eq]
  generalize (lg_sl ([.ref (ad 17), .ref (ad 9)]) ++ List.replicate (2 - (lg_sl ([.ref (ad 17), .ref (ad 9)])).length) Slot.unset).toArray = ls at hl ⊢
  have hl : lv_has ls 2 [(0, .ref (ad 17)), (1, .ref (ad 9))] := hl
  refine lv_aload_n E.1 E.2.1 dX1_copyRow_0 rfl (lv_at hl 0 rfl) ?_
  refine lv_iconst (v := 0) E.1 E.2.1 dX1_copyRow_1 (by decide) ?_
  refine lv_aload_n E.1 E.2.1 dX1_copyRow_2 rfl (lv_at hl 1 rfl) ?_
  refine lv_iconst (v := 0) E.1 E.2.1 dX1_copyRow_3 (by decide) ?_
  refine lv_aload_n E.1 E.2.1 dX1_copyRow_4 rfl (lv_at hl 0 rfl) ?_
  refine xn_17 E hK hP dX1_copyRow_5 ?_
  refine lv_aload_n E.1 E.2.1 dX1_copyRow_6 rfl (lv_at hl 1 rfl) ?_
  refine xn_9 E hK hP dX1_copyRow_7 ?_
  refine va_mmin (x := 6) (y := 6) E.1 E.2.1 (E.2.2.1.trans hl.1.symm) E.2.2.2.1 w_0 w_1 w_2 w_3 (Nat.le_of_ble_eq_true rfl) (Nat.le_of_ble_eq_true rfl) (Nat.zero_le _) (Nat.zero_le _) dX1_copyRow_8 ?_
  refine lv_topi (fun y_1 ey_1 => ?_)
  obtain rfl : y_1 = 6 := ey_1.trans (by decide)
  refine va_copyi (ty := .int) (sp := 0) (dp := 0) (n := 6) E.1 E.2.1 (E.2.2.1.trans hl.1.symm) E.2.2.2.1 w_4 w_5 w_6 w_7 hK hP (wX_D hI) hS 17 9 0 0 rfl rfl rfl rfl rfl (by decide) (by decide) (by decide) (by decide) (by decide) (fun i _ => rfl) (Nat.le_of_ble_eq_true rfl) (Nat.le_of_ble_eq_true rfl) dX1_copyRow_11 (fun H locs hP _ hS => ?_)
  have hP : va_P D vwCl (wX cI ad f (uA a 9 (va_cpy (a 17) (a 9) 0 0 6)) ta) H := hP
  exact W.vret E.1 E.2.1 hr (fun t ht _ => ⟨⟨(f, uA a 9 (va_cpy (a 17) (a 9) 0 0 6), ta), rfl, (by rw [FX1_copyRow_at17_9]), (show va_P D vwCl (wX cI ad f (uA a 9 (va_cpy (a 17) (a 9) 0 0 6)) ta) t.heap from by rw [ht]; exact hP)⟩, hS.F ht⟩) hS.2.2 dX1_copyRow_14
def FX1_copyRow_at18_10 (f : Nat → Int32) (a : Nat → Nat → Int32) (ta : Nat → Nat → Int32) (n : Nat) (z : Nat) (c : Nat) : SX := (f, uA a 10 (va_cpy (a 18) (a 10) 0 0 6), ta)
set_option maxHeartbeats 4000000 in
set_option maxRecDepth 100000 in
/-- a row copied -/
theorem c_X1_copyRow_at18_10 (l : Launch) (D : va_G) (cI cB : ClassId) (ad : Nat → Nat) (f : Nat → Int32) (a ta : Nat → Nat → Int32) (n z c : Nat) (hX : IX n z c f) (hI : wI 25 ad)  : Met l yX1_copyRow wsX1_copyRow ({ frames := 1, cells := 0, slots := 0, locals := 64 }) (GPc D cI cB (wX cI ad f a ta) [.ref (ad 18), .ref (ad 10)]) (va_Qv (fun u : SX => u = FX1_copyRow_at18_10 f a ta n z c) (fun u t => va_P D vwCl (wX cI ad u.1 u.2.1 u.2.2) t.heap) (wA 25 ad)) 0 0 (wA 25 ad) := by
  refine Met.ofW (cc := cX1_copyRow) (maxL := 2) (ret := none) (by decide) rfl ?_
  intro p e s m args below meth cd s₁ B hml hv
  obtain ⟨rfl, hP, hK⟩ := hv
  have hts := atoms_spec (ws := wsX1_copyRow) B.pre
  have E : CallFix p m cd cX1_copyRow 2 s _ wsX1_copyRow RX1 := ⟨B.exec, B.bytes, hml, findClass_of_methodNamed B.named, hts⟩
  have hr := B.returns
  have hlocks := B.notSynchronized
  have h2n := pow6 (n := n) (by have := hX.2.1; omega)
  obtain ⟨hn, hn6, hz, hz21, hc, hc6⟩ := id hX
  have hS : va_S (wA 25 ad) s.heap s.heap [] := va_S.rf
  have w_0 : (Cond.methodLink RX1 56 Lib.Math.min.name).before _ s = true := hts _ (by decide +kernel)
  have w_1 : (Cond.static Lib.Math.min.name).before _ s = true := hts _ (by decide +kernel)
  have w_2 : (Cond.initialized "java/lang/Math").before _ s = true := hts _ (by decide +kernel)
  have w_3 : (Cond.code Lib.Math.min.name Lib.Math.min.code 2 (some .int)).before _ s = true := hts _ (by decide +kernel)
  have w_4 : (Cond.methodLink RX1 62 arraycopyName).before _ s = true := hts _ (by decide +kernel)
  have w_5 : (Cond.native arraycopyName).before _ s = true := hts _ (by decide +kernel)
  have w_6 : (Cond.static arraycopyName).before _ s = true := hts _ (by decide +kernel)
  have w_7 : (Cond.initialized "java/lang/System").before _ s = true := hts _ (by decide +kernel)
  have hl := lv_entry ([.ref (ad 18), .ref (ad 10)]) (n := 2) (Nat.le_of_ble_eq_true rfl)
  rw [lg_entry_eq]
  generalize (lg_sl ([.ref (ad 18), .ref (ad 10)]) ++ List.replicate (2 - (lg_sl ([.ref (ad 18), .ref (ad 10)])).length) Slot.unset).toArray = ls at hl ⊢
  have hl : lv_has ls 2 [(0, .ref (ad 18)), (1, .ref (ad 10))] := hl
  refine lv_aload_n E.1 E.2.1 dX1_copyRow_0 rfl (lv_at hl 0 rfl) ?_
  refine lv_iconst (v := 0) E.1 E.2.1 dX1_copyRow_1 (by decide) ?_
  refine lv_aload_n E.1 E.2.1 dX1_copyRow_2 rfl (lv_at hl 1 rfl) ?_
  refine lv_iconst (v := 0) E.1 E.2.1 dX1_copyRow_3 (by decide) ?_
  refine lv_aload_n E.1 E.2.1 dX1_copyRow_4 rfl (lv_at hl 0 rfl) ?_
  refine xn_18 E hK hP dX1_copyRow_5 ?_
  refine lv_aload_n E.1 E.2.1 dX1_copyRow_6 rfl (lv_at hl 1 rfl) ?_
  refine xn_10 E hK hP dX1_copyRow_7 ?_
  refine va_mmin (x := 6) (y := 6) E.1 E.2.1 (E.2.2.1.trans hl.1.symm) E.2.2.2.1 w_0 w_1 w_2 w_3 (Nat.le_of_ble_eq_true rfl) (Nat.le_of_ble_eq_true rfl) (Nat.zero_le _) (Nat.zero_le _) dX1_copyRow_8 ?_
  refine lv_topi (fun y_1 ey_1 => ?_)
  obtain rfl : y_1 = 6 := ey_1.trans (by decide)
  refine va_copyi (ty := .int) (sp := 0) (dp := 0) (n := 6) E.1 E.2.1 (E.2.2.1.trans hl.1.symm) E.2.2.2.1 w_4 w_5 w_6 w_7 hK hP (wX_D hI) hS 18 10 0 0 rfl rfl rfl rfl rfl (by decide) (by decide) (by decide) (by decide) (by decide) (fun i _ => rfl) (Nat.le_of_ble_eq_true rfl) (Nat.le_of_ble_eq_true rfl) dX1_copyRow_11 (fun H locs hP _ hS => ?_)
  have hP : va_P D vwCl (wX cI ad f (uA a 10 (va_cpy (a 18) (a 10) 0 0 6)) ta) H := hP
  exact W.vret E.1 E.2.1 hr (fun t ht _ => ⟨⟨(f, uA a 10 (va_cpy (a 18) (a 10) 0 0 6), ta), rfl, (by rw [FX1_copyRow_at18_10]), (show va_P D vwCl (wX cI ad f (uA a 10 (va_cpy (a 18) (a 10) 0 0 6)) ta) t.heap from by rw [ht]; exact hP)⟩, hS.F ht⟩) hS.2.2 dX1_copyRow_14
def FX1_copyRow_at19_11 (f : Nat → Int32) (a : Nat → Nat → Int32) (ta : Nat → Nat → Int32) (n : Nat) (z : Nat) (c : Nat) : SX := (f, uA a 11 (va_cpy (a 19) (a 11) 0 0 6), ta)
set_option maxHeartbeats 4000000 in
set_option maxRecDepth 100000 in
/-- a row copied -/
theorem c_X1_copyRow_at19_11 (l : Launch) (D : va_G) (cI cB : ClassId) (ad : Nat → Nat) (f : Nat → Int32) (a ta : Nat → Nat → Int32) (n z c : Nat) (hX : IX n z c f) (hI : wI 25 ad)  : Met l yX1_copyRow wsX1_copyRow ({ frames := 1, cells := 0, slots := 0, locals := 64 }) (GPc D cI cB (wX cI ad f a ta) [.ref (ad 19), .ref (ad 11)]) (va_Qv (fun u : SX => u = FX1_copyRow_at19_11 f a ta n z c) (fun u t => va_P D vwCl (wX cI ad u.1 u.2.1 u.2.2) t.heap) (wA 25 ad)) 0 0 (wA 25 ad) := by
  refine Met.ofW (cc := cX1_copyRow) (maxL := 2) (ret := none) (by decide) rfl ?_
  intro p e s m args below meth cd s₁ B hml hv
  obtain ⟨rfl, hP, hK⟩ := hv
  have hts := atoms_spec (ws := wsX1_copyRow) B.pre
  have E : CallFix p m cd cX1_copyRow 2 s _ wsX1_copyRow RX1 := ⟨B.exec, B.bytes, hml, findClass_of_methodNamed B.named, hts⟩
  have hr := B.returns
  have hlocks := B.notSynchronized
  have h2n := pow6 (n := n) (by have := hX.2.1; omega)
  obtain ⟨hn, hn6, hz, hz21, hc, hc6⟩ := id hX
  have hS : va_S (wA 25 ad) s.heap s.heap [] := va_S.rf
  have w_0 : (Cond.methodLink RX1 56 Lib.Math.min.name).before _ s = true := hts _ (by decide +kernel)
  have w_1 : (Cond.static Lib.Math.min.name).before _ s = true := hts _ (by decide +kernel)
  have w_2 : (Cond.initialized "java/lang/Math").before _ s = true := hts _ (by decide +kernel)
  have w_3 : (Cond.code Lib.Math.min.name Lib.Math.min.code 2 (some .int)).before _ s = true := hts _ (by decide +kernel)
  have w_4 : (Cond.methodLink RX1 62 arraycopyName).before _ s = true := hts _ (by decide +kernel)
  have w_5 : (Cond.native arraycopyName).before _ s = true := hts _ (by decide +kernel)
  have w_6 : (Cond.static arraycopyName).before _ s = true := hts _ (by decide +kernel)
  have w_7 : (Cond.initialized "java/lang/System").before _ s = true := hts _ (by decide +kernel)
  have hl := lv_entry ([.ref (ad 19), .ref (ad 11)]) (n := 2) (Nat.le_of_ble_eq_true rfl)
  rw [lg_entry_eq]
  generalize (lg_sl ([.ref (ad 19), .ref (ad 11)]) ++ List.replicate (2 - (lg_sl ([.ref (ad 19), .ref (ad 11)])).length) Slot.unset).toArray = ls at hl ⊢
  have hl : lv_has ls 2 [(0, .ref (ad 19)), (1, .ref (ad 11))] := hl
  refine lv_aload_n E.1 E.2.1 dX1_copyRow_0 rfl (lv_at hl 0 rfl) ?_
  refine lv_iconst (v := 0) E.1 E.2.1 dX1_copyRow_1 (by decide) ?_
  refine lv_aload_n E.1 E.2.1 dX1_copyRow_2 rfl (lv_at hl 1 rfl) ?_
  refine lv_iconst (v := 0) E.1 E.2.1 dX1_copyRow_3 (by decide) ?_
  refine lv_aload_n E.1 E.2.1 dX1_copyRow_4 rfl (lv_at hl 0 rfl) ?_
  refine xn_19 E hK hP dX1_copyRow_5 ?_
  refine lv_aload_n E.1 E.2.1 dX1_copyRow_6 rfl (lv_at hl 1 rfl) ?_
  refine xn_11 E hK hP dX1_copyRow_7 ?_
  refine va_mmin (x := 6) (y := 6) E.1 E.2.1 (E.2.2.1.trans hl.1.symm) E.2.2.2.1 w_0 w_1 w_2 w_3 (Nat.le_of_ble_eq_true rfl) (Nat.le_of_ble_eq_true rfl) (Nat.zero_le _) (Nat.zero_le _) dX1_copyRow_8 ?_
  refine lv_topi (fun y_1 ey_1 => ?_)
  obtain rfl : y_1 = 6 := ey_1.trans (by decide)
  refine va_copyi (ty := .int) (sp := 0) (dp := 0) (n := 6) E.1 E.2.1 (E.2.2.1.trans hl.1.symm) E.2.2.2.1 w_4 w_5 w_6 w_7 hK hP (wX_D hI) hS 19 11 0 0 rfl rfl rfl rfl rfl (by decide) (by decide) (by decide) (by decide) (by decide) (fun i _ => rfl) (Nat.le_of_ble_eq_true rfl) (Nat.le_of_ble_eq_true rfl) dX1_copyRow_11 (fun H locs hP _ hS => ?_)
  have hP : va_P D vwCl (wX cI ad f (uA a 11 (va_cpy (a 19) (a 11) 0 0 6)) ta) H := hP
  exact W.vret E.1 E.2.1 hr (fun t ht _ => ⟨⟨(f, uA a 11 (va_cpy (a 19) (a 11) 0 0 6), ta), rfl, (by rw [FX1_copyRow_at19_11]), (show va_P D vwCl (wX cI ad f (uA a 11 (va_cpy (a 19) (a 11) 0 0 6)) ta) t.heap from by rw [ht]; exact hP)⟩, hS.F ht⟩) hS.2.2 dX1_copyRow_14
def FX1_copyRow_at20_12 (f : Nat → Int32) (a : Nat → Nat → Int32) (ta : Nat → Nat → Int32) (n : Nat) (z : Nat) (c : Nat) : SX := (f, uA a 12 (va_cpy (a 20) (a 12) 0 0 6), ta)
set_option maxHeartbeats 4000000 in
set_option maxRecDepth 100000 in
/-- a row copied -/
theorem c_X1_copyRow_at20_12 (l : Launch) (D : va_G) (cI cB : ClassId) (ad : Nat → Nat) (f : Nat → Int32) (a ta : Nat → Nat → Int32) (n z c : Nat) (hX : IX n z c f) (hI : wI 25 ad)  : Met l yX1_copyRow wsX1_copyRow ({ frames := 1, cells := 0, slots := 0, locals := 64 }) (GPc D cI cB (wX cI ad f a ta) [.ref (ad 20), .ref (ad 12)]) (va_Qv (fun u : SX => u = FX1_copyRow_at20_12 f a ta n z c) (fun u t => va_P D vwCl (wX cI ad u.1 u.2.1 u.2.2) t.heap) (wA 25 ad)) 0 0 (wA 25 ad) := by
  refine Met.ofW (cc := cX1_copyRow) (maxL := 2) (ret := none) (by decide) rfl ?_
  intro p e s m args below meth cd s₁ B hml hv
  obtain ⟨rfl, hP, hK⟩ := hv
  have hts := atoms_spec (ws := wsX1_copyRow) B.pre
  have E : CallFix p m cd cX1_copyRow 2 s _ wsX1_copyRow RX1 := ⟨B.exec, B.bytes, hml, findClass_of_methodNamed B.named, hts⟩
  have hr := B.returns
  have hlocks := B.notSynchronized
  have h2n := pow6 (n := n) (by have := hX.2.1; omega)
  obtain ⟨hn, hn6, hz, hz21, hc, hc6⟩ := id hX
  have hS : va_S (wA 25 ad) s.heap s.heap [] := va_S.rf
  have w_0 : (Cond.methodLink RX1 56 Lib.Math.min.name).before _ s = true := hts _ (by decide +kernel)
  have w_1 : (Cond.static Lib.Math.min.name).before _ s = true := hts _ (by decide +kernel)
  have w_2 : (Cond.initialized "java/lang/Math").before _ s = true := hts _ (by decide +kernel)
  have w_3 : (Cond.code Lib.Math.min.name Lib.Math.min.code 2 (some .int)).before _ s = true := hts _ (by decide +kernel)
  have w_4 : (Cond.methodLink RX1 62 arraycopyName).before _ s = true := hts _ (by decide +kernel)
  have w_5 : (Cond.native arraycopyName).before _ s = true := hts _ (by decide +kernel)
  have w_6 : (Cond.static arraycopyName).before _ s = true := hts _ (by decide +kernel)
  have w_7 : (Cond.initialized "java/lang/System").before _ s = true := hts _ (by decide +kernel)
  have hl := lv_entry ([.ref (ad 20), .ref (ad 12)]) (n := 2) (Nat.le_of_ble_eq_true rfl)
  rw [lg_entry_eq]
  generalize (lg_sl ([.ref (ad 20), .ref (ad 12)]) ++ List.replicate (2 - (lg_sl ([.ref (ad 20), .ref (ad 12)])).length) Slot.unset).toArray = ls at hl ⊢
  have hl : lv_has ls 2 [(0, .ref (ad 20)), (1, .ref (ad 12))] := hl
  refine lv_aload_n E.1 E.2.1 dX1_copyRow_0 rfl (lv_at hl 0 rfl) ?_
  refine lv_iconst (v := 0) E.1 E.2.1 dX1_copyRow_1 (by decide) ?_
  refine lv_aload_n E.1 E.2.1 dX1_copyRow_2 rfl (lv_at hl 1 rfl) ?_
  refine lv_iconst (v := 0) E.1 E.2.1 dX1_copyRow_3 (by decide) ?_
  refine lv_aload_n E.1 E.2.1 dX1_copyRow_4 rfl (lv_at hl 0 rfl) ?_
  refine xn_20 E hK hP dX1_copyRow_5 ?_
  refine lv_aload_n E.1 E.2.1 dX1_copyRow_6 rfl (lv_at hl 1 rfl) ?_
  refine xn_12 E hK hP dX1_copyRow_7 ?_
  refine va_mmin (x := 6) (y := 6) E.1 E.2.1 (E.2.2.1.trans hl.1.symm) E.2.2.2.1 w_0 w_1 w_2 w_3 (Nat.le_of_ble_eq_true rfl) (Nat.le_of_ble_eq_true rfl) (Nat.zero_le _) (Nat.zero_le _) dX1_copyRow_8 ?_
  refine lv_topi (fun y_1 ey_1 => ?_)
  obtain rfl : y_1 = 6 := ey_1.trans (by decide)
  refine va_copyi (ty := .int) (sp := 0) (dp := 0) (n := 6) E.1 E.2.1 (E.2.2.1.trans hl.1.symm) E.2.2.2.1 w_4 w_5 w_6 w_7 hK hP (wX_D hI) hS 20 12 0 0 rfl rfl rfl rfl rfl (by decide) (by decide) (by decide) (by decide) (by decide) (fun i _ => rfl) (Nat.le_of_ble_eq_true rfl) (Nat.le_of_ble_eq_true rfl) dX1_copyRow_11 (fun H locs hP _ hS => ?_)
  have hP : va_P D vwCl (wX cI ad f (uA a 12 (va_cpy (a 20) (a 12) 0 0 6)) ta) H := hP
  exact W.vret E.1 E.2.1 hr (fun t ht _ => ⟨⟨(f, uA a 12 (va_cpy (a 20) (a 12) 0 0 6), ta), rfl, (by rw [FX1_copyRow_at20_12]), (show va_P D vwCl (wX cI ad f (uA a 12 (va_cpy (a 20) (a 12) 0 0 6)) ta) t.heap from by rw [ht]; exact hP)⟩, hS.F ht⟩) hS.2.2 dX1_copyRow_14
def FX1_copyRow_at21_13 (f : Nat → Int32) (a : Nat → Nat → Int32) (ta : Nat → Nat → Int32) (n : Nat) (z : Nat) (c : Nat) : SX := (f, uA a 13 (va_cpy (a 21) (a 13) 0 0 6), ta)
set_option maxHeartbeats 4000000 in
set_option maxRecDepth 100000 in
/-- a row copied -/
theorem c_X1_copyRow_at21_13 (l : Launch) (D : va_G) (cI cB : ClassId) (ad : Nat → Nat) (f : Nat → Int32) (a ta : Nat → Nat → Int32) (n z c : Nat) (hX : IX n z c f) (hI : wI 25 ad)  : Met l yX1_copyRow wsX1_copyRow ({ frames := 1, cells := 0, slots := 0, locals := 64 }) (GPc D cI cB (wX cI ad f a ta) [.ref (ad 21), .ref (ad 13)]) (va_Qv (fun u : SX => u = FX1_copyRow_at21_13 f a ta n z c) (fun u t => va_P D vwCl (wX cI ad u.1 u.2.1 u.2.2) t.heap) (wA 25 ad)) 0 0 (wA 25 ad) := by
  refine Met.ofW (cc := cX1_copyRow) (maxL := 2) (ret := none) (by decide) rfl ?_
  intro p e s m args below meth cd s₁ B hml hv
  obtain ⟨rfl, hP, hK⟩ := hv
  have hts := atoms_spec (ws := wsX1_copyRow) B.pre
  have E : CallFix p m cd cX1_copyRow 2 s _ wsX1_copyRow RX1 := ⟨B.exec, B.bytes, hml, findClass_of_methodNamed B.named, hts⟩
  have hr := B.returns
  have hlocks := B.notSynchronized
  have h2n := pow6 (n := n) (by have := hX.2.1; omega)
  obtain ⟨hn, hn6, hz, hz21, hc, hc6⟩ := id hX
  have hS : va_S (wA 25 ad) s.heap s.heap [] := va_S.rf
  have w_0 : (Cond.methodLink RX1 56 Lib.Math.min.name).before _ s = true := hts _ (by decide +kernel)
  have w_1 : (Cond.static Lib.Math.min.name).before _ s = true := hts _ (by decide +kernel)
  have w_2 : (Cond.initialized "java/lang/Math").before _ s = true := hts _ (by decide +kernel)
  have w_3 : (Cond.code Lib.Math.min.name Lib.Math.min.code 2 (some .int)).before _ s = true := hts _ (by decide +kernel)
  have w_4 : (Cond.methodLink RX1 62 arraycopyName).before _ s = true := hts _ (by decide +kernel)
  have w_5 : (Cond.native arraycopyName).before _ s = true := hts _ (by decide +kernel)
  have w_6 : (Cond.static arraycopyName).before _ s = true := hts _ (by decide +kernel)
  have w_7 : (Cond.initialized "java/lang/System").before _ s = true := hts _ (by decide +kernel)
  have hl := lv_entry ([.ref (ad 21), .ref (ad 13)]) (n := 2) (Nat.le_of_ble_eq_true rfl)
  rw [lg_entry_eq]
  generalize (lg_sl ([.ref (ad 21), .ref (ad 13)]) ++ List.replicate (2 - (lg_sl ([.ref (ad 21), .ref (ad 13)])).length) Slot.unset).toArray = ls at hl ⊢
  have hl : lv_has ls 2 [(0, .ref (ad 21)), (1, .ref (ad 13))] := hl
  refine lv_aload_n E.1 E.2.1 dX1_copyRow_0 rfl (lv_at hl 0 rfl) ?_
  refine lv_iconst (v := 0) E.1 E.2.1 dX1_copyRow_1 (by decide) ?_
  refine lv_aload_n E.1 E.2.1 dX1_copyRow_2 rfl (lv_at hl 1 rfl) ?_
  refine lv_iconst (v := 0) E.1 E.2.1 dX1_copyRow_3 (by decide) ?_
  refine lv_aload_n E.1 E.2.1 dX1_copyRow_4 rfl (lv_at hl 0 rfl) ?_
  refine xn_21 E hK hP dX1_copyRow_5 ?_
  refine lv_aload_n E.1 E.2.1 dX1_copyRow_6 rfl (lv_at hl 1 rfl) ?_
  refine xn_13 E hK hP dX1_copyRow_7 ?_
  refine va_mmin (x := 6) (y := 6) E.1 E.2.1 (E.2.2.1.trans hl.1.symm) E.2.2.2.1 w_0 w_1 w_2 w_3 (Nat.le_of_ble_eq_true rfl) (Nat.le_of_ble_eq_true rfl) (Nat.zero_le _) (Nat.zero_le _) dX1_copyRow_8 ?_
  refine lv_topi (fun y_1 ey_1 => ?_)
  obtain rfl : y_1 = 6 := ey_1.trans (by decide)
  refine va_copyi (ty := .int) (sp := 0) (dp := 0) (n := 6) E.1 E.2.1 (E.2.2.1.trans hl.1.symm) E.2.2.2.1 w_4 w_5 w_6 w_7 hK hP (wX_D hI) hS 21 13 0 0 rfl rfl rfl rfl rfl (by decide) (by decide) (by decide) (by decide) (by decide) (fun i _ => rfl) (Nat.le_of_ble_eq_true rfl) (Nat.le_of_ble_eq_true rfl) dX1_copyRow_11 (fun H locs hP _ hS => ?_)
  have hP : va_P D vwCl (wX cI ad f (uA a 13 (va_cpy (a 21) (a 13) 0 0 6)) ta) H := hP
  exact W.vret E.1 E.2.1 hr (fun t ht _ => ⟨⟨(f, uA a 13 (va_cpy (a 21) (a 13) 0 0 6), ta), rfl, (by rw [FX1_copyRow_at21_13]), (show va_P D vwCl (wX cI ad f (uA a 13 (va_cpy (a 21) (a 13) 0 0 6)) ta) t.heap from by rw [ht]; exact hP)⟩, hS.F ht⟩) hS.2.2 dX1_copyRow_14
def FX1_copyRow_at22_14 (f : Nat → Int32) (a : Nat → Nat → Int32) (ta : Nat → Nat → Int32) (n : Nat) (z : Nat) (c : Nat) : SX := (f, uA a 14 (va_cpy (a 22) (a 14) 0 0 6), ta)
set_option maxHeartbeats 4000000 in
set_option maxRecDepth 100000 in
/-- a row copied -/
theorem c_X1_copyRow_at22_14 (l : Launch) (D : va_G) (cI cB : ClassId) (ad : Nat → Nat) (f : Nat → Int32) (a ta : Nat → Nat → Int32) (n z c : Nat) (hX : IX n z c f) (hI : wI 25 ad)  : Met l yX1_copyRow wsX1_copyRow ({ frames := 1, cells := 0, slots := 0, locals := 64 }) (GPc D cI cB (wX cI ad f a ta) [.ref (ad 22), .ref (ad 14)]) (va_Qv (fun u : SX => u = FX1_copyRow_at22_14 f a ta n z c) (fun u t => va_P D vwCl (wX cI ad u.1 u.2.1 u.2.2) t.heap) (wA 25 ad)) 0 0 (wA 25 ad) := by
  refine Met.ofW (cc := cX1_copyRow) (maxL := 2) (ret := none) (by decide) rfl ?_
  intro p e s m args below meth cd s₁ B hml hv
  obtain ⟨rfl, hP, hK⟩ := hv
  have hts := atoms_spec (ws := wsX1_copyRow) B.pre
  have E : CallFix p m cd cX1_copyRow 2 s _ wsX1_copyRow RX1 := ⟨B.exec, B.bytes, hml, findClass_of_methodNamed B.named, hts⟩
  have hr := B.returns
  have hlocks := B.notSynchronized
  have h2n := pow6 (n := n) (by have := hX.2.1; omega)
  obtain ⟨hn, hn6, hz, hz21, hc, hc6⟩ := id hX
  have hS : va_S (wA 25 ad) s.heap s.heap [] := va_S.rf
  have w_0 : (Cond.methodLink RX1 56 Lib.Math.min.name).before _ s = true := hts _ (by decide +kernel)
  have w_1 : (Cond.static Lib.Math.min.name).before _ s = true := hts _ (by decide +kernel)
  have w_2 : (Cond.initialized "java/lang/Math").before _ s = true := hts _ (by decide +kernel)
  have w_3 : (Cond.code Lib.Math.min.name Lib.Math.min.code 2 (some .int)).before _ s = true := hts _ (by decide +kernel)
  have w_4 : (Cond.methodLink RX1 62 arraycopyName).before _ s = true := hts _ (by decide +kernel)
  have w_5 : (Cond.native arraycopyName).before _ s = true := hts _ (by decide +kernel)
  have w_6 : (Cond.static arraycopyName).before _ s = true := hts _ (by decide +kernel)
  have w_7 : (Cond.initialized "java/lang/System").before _ s = true := hts _ (by decide +kernel)
  have hl := lv_entry ([.ref (ad 22), .ref (ad 14)]) (n := 2) (Nat.le_of_ble_eq_true rfl)
  rw [lg_entry_eq]
  generalize (lg_sl ([.ref (ad 22), .ref (ad 14)]) ++ List.replicate (2 - (lg_sl ([.ref (ad 22), .ref (ad 14)])).length) Slot.unset).toArray = ls at hl ⊢
  have hl : lv_has ls 2 [(0, .ref (ad 22)), (1, .ref (ad 14))] := hl
  refine lv_aload_n E.1 E.2.1 dX1_copyRow_0 rfl (lv_at hl 0 rfl) ?_
  refine lv_iconst (v := 0) E.1 E.2.1 dX1_copyRow_1 (by decide) ?_
  refine lv_aload_n E.1 E.2.1 dX1_copyRow_2 rfl (lv_at hl 1 rfl) ?_
  refine lv_iconst (v := 0) E.1 E.2.1 dX1_copyRow_3 (by decide) ?_
  refine lv_aload_n E.1 E.2.1 dX1_copyRow_4 rfl (lv_at hl 0 rfl) ?_
  refine xn_22 E hK hP dX1_copyRow_5 ?_
  refine lv_aload_n E.1 E.2.1 dX1_copyRow_6 rfl (lv_at hl 1 rfl) ?_
  refine xn_14 E hK hP dX1_copyRow_7 ?_
  refine va_mmin (x := 6) (y := 6) E.1 E.2.1 (E.2.2.1.trans hl.1.symm) E.2.2.2.1 w_0 w_1 w_2 w_3 (Nat.le_of_ble_eq_true rfl) (Nat.le_of_ble_eq_true rfl) (Nat.zero_le _) (Nat.zero_le _) dX1_copyRow_8 ?_
  refine lv_topi (fun y_1 ey_1 => ?_)
  obtain rfl : y_1 = 6 := ey_1.trans (by decide)
  refine va_copyi (ty := .int) (sp := 0) (dp := 0) (n := 6) E.1 E.2.1 (E.2.2.1.trans hl.1.symm) E.2.2.2.1 w_4 w_5 w_6 w_7 hK hP (wX_D hI) hS 22 14 0 0 rfl rfl rfl rfl rfl (by decide) (by decide) (by decide) (by decide) (by decide) (fun i _ => rfl) (Nat.le_of_ble_eq_true rfl) (Nat.le_of_ble_eq_true rfl) dX1_copyRow_11 (fun H locs hP _ hS => ?_)
  have hP : va_P D vwCl (wX cI ad f (uA a 14 (va_cpy (a 22) (a 14) 0 0 6)) ta) H := hP
  exact W.vret E.1 E.2.1 hr (fun t ht _ => ⟨⟨(f, uA a 14 (va_cpy (a 22) (a 14) 0 0 6), ta), rfl, (by rw [FX1_copyRow_at22_14]), (show va_P D vwCl (wX cI ad f (uA a 14 (va_cpy (a 22) (a 14) 0 0 6)) ta) t.heap from by rw [ht]; exact hP)⟩, hS.F ht⟩) hS.2.2 dX1_copyRow_14
def FX1_copyRow_at23_15 (f : Nat → Int32) (a : Nat → Nat → Int32) (ta : Nat → Nat → Int32) (n : Nat) (z : Nat) (c : Nat) : SX := (f, uA a 15 (va_cpy (a 23) (a 15) 0 0 6), ta)
set_option maxHeartbeats 4000000 in
set_option maxRecDepth 100000 in
/-- a row copied -/
theorem c_X1_copyRow_at23_15 (l : Launch) (D : va_G) (cI cB : ClassId) (ad : Nat → Nat) (f : Nat → Int32) (a ta : Nat → Nat → Int32) (n z c : Nat) (hX : IX n z c f) (hI : wI 25 ad)  : Met l yX1_copyRow wsX1_copyRow ({ frames := 1, cells := 0, slots := 0, locals := 64 }) (GPc D cI cB (wX cI ad f a ta) [.ref (ad 23), .ref (ad 15)]) (va_Qv (fun u : SX => u = FX1_copyRow_at23_15 f a ta n z c) (fun u t => va_P D vwCl (wX cI ad u.1 u.2.1 u.2.2) t.heap) (wA 25 ad)) 0 0 (wA 25 ad) := by
  refine Met.ofW (cc := cX1_copyRow) (maxL := 2) (ret := none) (by decide) rfl ?_
  intro p e s m args below meth cd s₁ B hml hv
  obtain ⟨rfl, hP, hK⟩ := hv
  have hts := atoms_spec (ws := wsX1_copyRow) B.pre
  have E : CallFix p m cd cX1_copyRow 2 s _ wsX1_copyRow RX1 := ⟨B.exec, B.bytes, hml, findClass_of_methodNamed B.named, hts⟩
  have hr := B.returns
  have hlocks := B.notSynchronized
  have h2n := pow6 (n := n) (by have := hX.2.1; omega)
  obtain ⟨hn, hn6, hz, hz21, hc, hc6⟩ := id hX
  have hS : va_S (wA 25 ad) s.heap s.heap [] := va_S.rf
  have w_0 : (Cond.methodLink RX1 56 Lib.Math.min.name).before _ s = true := hts _ (by decide +kernel)
  have w_1 : (Cond.static Lib.Math.min.name).before _ s = true := hts _ (by decide +kernel)
  have w_2 : (Cond.initialized "java/lang/Math").before _ s = true := hts _ (by decide +kernel)
  have w_3 : (Cond.code Lib.Math.min.name Lib.Math.min.code 2 (some .int)).before _ s = true := hts _ (by decide +kernel)
  have w_4 : (Cond.methodLink RX1 62 arraycopyName).before _ s = true := hts _ (by decide +kernel)
  have w_5 : (Cond.native arraycopyName).before _ s = true := hts _ (by decide +kernel)
  have w_6 : (Cond.static arraycopyName).before _ s = true := hts _ (by decide +kernel)
  have w_7 : (Cond.initialized "java/lang/System").before _ s = true := hts _ (by decide +kernel)
  have hl := lv_entry ([.ref (ad 23), .ref (ad 15)]) (n := 2) (Nat.le_of_ble_eq_true rfl)
  rw [lg_entry_eq]
  generalize (lg_sl ([.ref (ad 23), .ref (ad 15)]) ++ List.replicate (2 - (lg_sl ([.ref (ad 23), .ref (ad 15)])).length) Slot.unset).toArray = ls at hl ⊢
  have hl : lv_has ls 2 [(0, .ref (ad 23)), (1, .ref (ad 15))] := hl
  refine lv_aload_n E.1 E.2.1 dX1_copyRow_0 rfl (lv_at hl 0 rfl) ?_
  refine lv_iconst (v := 0) E.1 E.2.1 dX1_copyRow_1 (by decide) ?_
  refine lv_aload_n E.1 E.2.1 dX1_copyRow_2 rfl (lv_at hl 1 rfl) ?_
  refine lv_iconst (v := 0) E.1 E.2.1 dX1_copyRow_3 (by decide) ?_
  refine lv_aload_n E.1 E.2.1 dX1_copyRow_4 rfl (lv_at hl 0 rfl) ?_
  refine xn_23 E hK hP dX1_copyRow_5 ?_
  refine lv_aload_n E.1 E.2.1 dX1_copyRow_6 rfl (lv_at hl 1 rfl) ?_
  refine xn_15 E hK hP dX1_copyRow_7 ?_
  refine va_mmin (x := 6) (y := 6) E.1 E.2.1 (E.2.2.1.trans hl.1.symm) E.2.2.2.1 w_0 w_1 w_2 w_3 (Nat.le_of_ble_eq_true rfl) (Nat.le_of_ble_eq_true rfl) (Nat.zero_le _) (Nat.zero_le _) dX1_copyRow_8 ?_
  refine lv_topi (fun y_1 ey_1 => ?_)
  obtain rfl : y_1 = 6 := ey_1.trans (by decide)
  refine va_copyi (ty := .int) (sp := 0) (dp := 0) (n := 6) E.1 E.2.1 (E.2.2.1.trans hl.1.symm) E.2.2.2.1 w_4 w_5 w_6 w_7 hK hP (wX_D hI) hS 23 15 0 0 rfl rfl rfl rfl rfl (by decide) (by decide) (by decide) (by decide) (by decide) (fun i _ => rfl) (Nat.le_of_ble_eq_true rfl) (Nat.le_of_ble_eq_true rfl) dX1_copyRow_11 (fun H locs hP _ hS => ?_)
  have hP : va_P D vwCl (wX cI ad f (uA a 15 (va_cpy (a 23) (a 15) 0 0 6)) ta) H := hP
  exact W.vret E.1 E.2.1 hr (fun t ht _ => ⟨⟨(f, uA a 15 (va_cpy (a 23) (a 15) 0 0 6), ta), rfl, (by rw [FX1_copyRow_at23_15]), (show va_P D vwCl (wX cI ad f (uA a 15 (va_cpy (a 23) (a 15) 0 0 6)) ta) t.heap from by rw [ht]; exact hP)⟩, hS.F ht⟩) hS.2.2 dX1_copyRow_14
def FX1_copyRow_at24_16 (f : Nat → Int32) (a : Nat → Nat → Int32) (ta : Nat → Nat → Int32) (n : Nat) (z : Nat) (c : Nat) : SX := (f, uA a 16 (va_cpy (a 24) (a 16) 0 0 6), ta)
set_option maxHeartbeats 4000000 in
set_option maxRecDepth 100000 in
/-- a row copied -/
theorem c_X1_copyRow_at24_16 (l : Launch) (D : va_G) (cI cB : ClassId) (ad : Nat → Nat) (f : Nat → Int32) (a ta : Nat → Nat → Int32) (n z c : Nat) (hX : IX n z c f) (hI : wI 25 ad)  : Met l yX1_copyRow wsX1_copyRow ({ frames := 1, cells := 0, slots := 0, locals := 64 }) (GPc D cI cB (wX cI ad f a ta) [.ref (ad 24), .ref (ad 16)]) (va_Qv (fun u : SX => u = FX1_copyRow_at24_16 f a ta n z c) (fun u t => va_P D vwCl (wX cI ad u.1 u.2.1 u.2.2) t.heap) (wA 25 ad)) 0 0 (wA 25 ad) := by
  refine Met.ofW (cc := cX1_copyRow) (maxL := 2) (ret := none) (by decide) rfl ?_
  intro p e s m args below meth cd s₁ B hml hv
  obtain ⟨rfl, hP, hK⟩ := hv
  have hts := atoms_spec (ws := wsX1_copyRow) B.pre
  have E : CallFix p m cd cX1_copyRow 2 s _ wsX1_copyRow RX1 := ⟨B.exec, B.bytes, hml, findClass_of_methodNamed B.named, hts⟩
  have hr := B.returns
  have hlocks := B.notSynchronized
  have h2n := pow6 (n := n) (by have := hX.2.1; omega)
  obtain ⟨hn, hn6, hz, hz21, hc, hc6⟩ := id hX
  have hS : va_S (wA 25 ad) s.heap s.heap [] := va_S.rf
  have w_0 : (Cond.methodLink RX1 56 Lib.Math.min.name).before _ s = true := hts _ (by decide +kernel)
  have w_1 : (Cond.static Lib.Math.min.name).before _ s = true := hts _ (by decide +kernel)
  have w_2 : (Cond.initialized "java/lang/Math").before _ s = true := hts _ (by decide +kernel)
  have w_3 : (Cond.code Lib.Math.min.name Lib.Math.min.code 2 (some .int)).before _ s = true := hts _ (by decide +kernel)
  have w_4 : (Cond.methodLink RX1 62 arraycopyName).before _ s = true := hts _ (by decide +kernel)
  have w_5 : (Cond.native arraycopyName).before _ s = true := hts _ (by decide +kernel)
  have w_6 : (Cond.static arraycopyName).before _ s = true := hts _ (by decide +kernel)
  have w_7 : (Cond.initialized "java/lang/System").before _ s = true := hts _ (by decide +kernel)
  have hl := lv_entry ([.ref (ad 24), .ref (ad 16)]) (n := 2) (Nat.le_of_ble_eq_true rfl)
  rw [lg_entry_eq]
  generalize (lg_sl ([.ref (ad 24), .ref (ad 16)]) ++ List.replicate (2 - (lg_sl ([.ref (ad 24), .ref (ad 16)])).length) Slot.unset).toArray = ls at hl ⊢
  have hl : lv_has ls 2 [(0, .ref (ad 24)), (1, .ref (ad 16))] := hl
  refine lv_aload_n E.1 E.2.1 dX1_copyRow_0 rfl (lv_at hl 0 rfl) ?_
  refine lv_iconst (v := 0) E.1 E.2.1 dX1_copyRow_1 (by decide) ?_
  refine lv_aload_n E.1 E.2.1 dX1_copyRow_2 rfl (lv_at hl 1 rfl) ?_
  refine lv_iconst (v := 0) E.1 E.2.1 dX1_copyRow_3 (by decide) ?_
  refine lv_aload_n E.1 E.2.1 dX1_copyRow_4 rfl (lv_at hl 0 rfl) ?_
  refine xn_24 E hK hP dX1_copyRow_5 ?_
  refine lv_aload_n E.1 E.2.1 dX1_copyRow_6 rfl (lv_at hl 1 rfl) ?_
  refine xn_16 E hK hP dX1_copyRow_7 ?_
  refine va_mmin (x := 6) (y := 6) E.1 E.2.1 (E.2.2.1.trans hl.1.symm) E.2.2.2.1 w_0 w_1 w_2 w_3 (Nat.le_of_ble_eq_true rfl) (Nat.le_of_ble_eq_true rfl) (Nat.zero_le _) (Nat.zero_le _) dX1_copyRow_8 ?_
  refine lv_topi (fun y_1 ey_1 => ?_)
  obtain rfl : y_1 = 6 := ey_1.trans (by decide)
  refine va_copyi (ty := .int) (sp := 0) (dp := 0) (n := 6) E.1 E.2.1 (E.2.2.1.trans hl.1.symm) E.2.2.2.1 w_4 w_5 w_6 w_7 hK hP (wX_D hI) hS 24 16 0 0 rfl rfl rfl rfl rfl (by decide) (by decide) (by decide) (by decide) (by decide) (fun i _ => rfl) (Nat.le_of_ble_eq_true rfl) (Nat.le_of_ble_eq_true rfl) dX1_copyRow_11 (fun H locs hP _ hS => ?_)
  have hP : va_P D vwCl (wX cI ad f (uA a 16 (va_cpy (a 24) (a 16) 0 0 6)) ta) H := hP
  exact W.vret E.1 E.2.1 hr (fun t ht _ => ⟨⟨(f, uA a 16 (va_cpy (a 24) (a 16) 0 0 6), ta), rfl, (by rw [FX1_copyRow_at24_16]), (show va_P D vwCl (wX cI ad f (uA a 16 (va_cpy (a 24) (a 16) 0 0 6)) ta) t.heap from by rw [ht]; exact hP)⟩, hS.F ht⟩) hS.2.2 dX1_copyRow_14
