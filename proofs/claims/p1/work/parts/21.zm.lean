set_option maxHeartbeats 4000000 in
set_option maxRecDepth 100000 in
/-- isSite of a fresh object -/
theorem z_X3_isSite (l : Launch) (D : va_G) (cI cB : ClassId) (ad : Nat → Nat) (gl : Nat → Int64) (p0 : Int32) : Met l yX3_isSite wsX3_isSite ({ frames := 1, cells := 0, slots := 0, locals := 22 }) (GPc D cI cB (wM cI cB ad z0 gl zz) [.ref (ad 0), .int p0]) (QcRead (0)) 0 0 (fun _ => False) := by
  refine Met.ofW (cc := cX3_isSite) (maxL := 2) (ret := (some .boolean)) (by decide) rfl ?_
  intro p e s m args below meth c s₁ B hml hv
  obtain ⟨rfl, hP, hK⟩ := hv
  have hts := atoms_spec (ws := wsX3_isSite) B.pre
  have E : CallFix p m c cX3_isSite 2 s _ wsX3_isSite RX3 := ⟨B.exec, B.bytes, hml, findClass_of_methodNamed B.named, hts⟩
  have hr := B.returns
  have hlocks := B.notSynchronized
  have in_3 : ∀ w ∈ wsX30, w ∈ wsX3_isSite := fun _ h => List.mem_cons_of_mem _ (List.mem_append_right _ h)
  have w_0 : (Cond.fieldLink RX3 94 "SnowTermModel" "sites" "I").before _ s = true := hts _ (by decide +kernel)
  have hl := lv_entry ([.ref (ad 0), .int p0]) (n := 2) (Nat.le_of_ble_eq_true rfl)
  rw [lg_entry_eq]
  generalize (lg_sl ([.ref (ad 0), .int p0]) ++ List.replicate (2 - (lg_sl ([.ref (ad 0), .int p0])).length) Slot.unset).toArray = ls at hl ⊢
  have hl : lv_has ls 2 [(0, .ref (ad 0)), (1, .int p0)] := hl
  refine lv_iload_n E.1 E.2.1 dX3_isSite_0 rfl (lv_at hl 1 rfl) ?_
  refine lv_iconst (v := 0) E.1 E.2.1 dX3_isSite_1 (by decide) ?_
  refine lv_aload_n E.1 E.2.1 dX3_isSite_2 rfl (lv_at hl 0 rfl) ?_
  refine mg_0_1 E hK hP in_3 w_0 dX3_isSite_3 ?_
  refine lv_iconst (v := 1) E.1 E.2.1 dX3_isSite_6 (by decide) ?_
  refine lv_isub E.1 E.2.1 dX3_isSite_7 ?_
  refine lv_topi (fun y_1 ey_1 => ?_)
  obtain rfl : y_1 = (-1) := ey_1.trans (by decide)
  refine g_SR (As := [.int p0, .int 0, .int (-1)]) (rest := []) E hK (m_within l D cI cB p0 0 (-1)) (va_cwS 3 E.2.2.2.2 gX3_isSite_X3_within rfl rfl rfl (by decide +kernel) ⟨Nat.le_of_ble_eq_true rfl, Nat.le_of_ble_eq_true rfl⟩) rfl hl.1 rfl (by decide) dX3_isSite_8 ⟨Nat.zero_le _, Nat.zero_le _⟩ ?_
  exact W.zret (v := if 0 ≤ p0 ∧ p0 ≤ (-1) then 1 else 0) E.1 E.2.1 hr (by rw [if_neg (no_site p0)]; rfl) (fun t ht _ => ⟨(congrArg (fun z : Int32 => Outcome.returned (some (Value.int z))) (if_neg (no_site p0))), ht⟩) (fun q hq => by cases hq) dX3_isSite_11
set_option maxHeartbeats 4000000 in
set_option maxRecDepth 100000 in
/-- letter of a fresh object -/
theorem z_X3_letter (l : Launch) (D : va_G) (cI cB : ClassId) (ad : Nat → Nat) (gl : Nat → Int64) (hI : wI 20 ad) (p0 : Int32) : Met l yX3_letter wsX3_letter ({ frames := 1, cells := 0, slots := 0, locals := 22 }) (GPc D cI cB (wM cI cB ad z0 gl zz) [.ref (ad 0), .int p0]) (va_Qi (fun (r : Int32) (_ : Unit) => r = if 32 ≤ p0 ∧ p0 ≤ 126 then 1 else (-102)) (fun _ t => va_P D vwCl [] t.heap) (wA 20 ad)) 0 0 (wA 20 ad) := by
  refine Met.ofW (cc := cX3_letter) (maxL := 2) (ret := (some .int)) (by decide) rfl ?_
  intro p e s m args below meth c s₁ B hml hv
  obtain ⟨rfl, hP, hK⟩ := hv
  have hts := atoms_spec (ws := wsX3_letter) B.pre
  have E : CallFix p m c cX3_letter 2 s _ wsX3_letter RX3 := ⟨B.exec, B.bytes, hml, findClass_of_methodNamed B.named, hts⟩
  have hr := B.returns
  have hlocks := B.notSynchronized
  have hS : va_S (wA 20 ad) s.heap s.heap [] := va_S.rf
  have in_3 : ∀ w ∈ wsX30, w ∈ wsX3_letter := fun _ h => List.mem_cons_of_mem _ (List.mem_append_right _ h)
  have w_0 : (Cond.fieldLink RX3 72 "SnowTermModel" "pageLength" "I").before _ s = true := hts _ (by decide +kernel)
  have w_1 : (Cond.fieldLink RX3 37 "SnowTermModel" "page" "[B").before _ s = true := hts _ (by decide +kernel)
  have hl := lv_entry ([.ref (ad 0), .int p0]) (n := 2) (Nat.le_of_ble_eq_true rfl)
  rw [lg_entry_eq]
  generalize (lg_sl ([.ref (ad 0), .int p0]) ++ List.replicate (2 - (lg_sl ([.ref (ad 0), .int p0])).length) Slot.unset).toArray = ls at hl ⊢
  have hl : lv_has ls 2 [(0, .ref (ad 0)), (1, .int p0)] := hl
  refine lv_iload_n E.1 E.2.1 dX3_letter_0 rfl (lv_at hl 1 rfl) ?_
  refine lv_bipush (v := 32) E.1 E.2.1 dX3_letter_1 (by decide) ?_
  refine lv_bipush (v := 126) E.1 E.2.1 dX3_letter_3 (by decide) ?_
  refine g_SR (As := [.int p0, .int 32, .int 126]) (rest := []) E hK (m_within l D cI cB p0 32 126) (va_cwS 3 E.2.2.2.2 gX3_letter_X3_within rfl rfl rfl (by decide +kernel) ⟨Nat.le_of_ble_eq_true rfl, Nat.le_of_ble_eq_true rfl⟩) rfl hl.1 rfl (by decide) dX3_letter_5 ⟨Nat.zero_le _, Nat.zero_le _⟩ ?_
  refine lv_if_ne (x := if 32 ≤ p0 ∧ p0 ≤ 126 then 1 else 0) (tgt := 14) E.1 E.2.1 dX3_letter_8 (by decide) (fun h_1 => ?_) (fun h_1 => ?_)
  · 
    have h_1 : 32 ≤ p0 ∧ p0 ≤ 126 := ite10_1 h_1
    refine lv_aload_n E.1 E.2.1 dX3_letter_14 rfl (lv_at hl 0 rfl) ?_
    refine mg_0_16 E hK hP in_3 w_0 dX3_letter_15 ?_
    refine lv_bipush (v := 21) E.1 E.2.1 dX3_letter_18 (by decide) ?_
    refine lv_icmp_ne (x := 0) (y := 21) (tgt := 26) E.1 E.2.1 dX3_letter_20 (by decide) (fun _ => ?_) (fun h9 => absurd h9 (by decide))
    refine lv_aload_n E.1 E.2.1 dX3_letter_26 rfl (lv_at hl 0 rfl) ?_
    refine mg_0_17 E hK hP in_3 w_1 dX3_letter_27 ?_
    refine lv_aload_n E.1 E.2.1 dX3_letter_30 rfl (lv_at hl 0 rfl) ?_
    refine mg_0_16 E hK hP in_3 w_0 dX3_letter_31 ?_
    refine lv_iload_n E.1 E.2.1 dX3_letter_34 rfl (lv_at hl 1 rfl) ?_
    refine lv_i2b E.1 E.2.1 dX3_letter_35 rfl ?_
    refine ms_10 (v := p0.toInt8.toInt32) (i := 0) E hK hP hI hS (by unfold vp_in; decide) dX3_letter_36 (fun H locs hP hS => ?_)
    refine lv_aload_n E.1 E.2.1 dX3_letter_37 rfl (lv_at hl 0 rfl) ?_
    refine lv_dup E.1 E.2.1 dX3_letter_38 rfl ?_
    refine mg_0_16 E hK hP in_3 w_0 dX3_letter_39 ?_
    refine lv_iconst (v := 1) E.1 E.2.1 dX3_letter_42 (by decide) ?_
    refine lv_iadd E.1 E.2.1 dX3_letter_43 ?_
    refine lv_topi (fun y_2 ey_2 => ?_)
    obtain rfl : y_2 = 1 := ey_2.trans (by decide)
    refine mp_0_16 (v := 1) E hK hP in_3 w_0 hI hS dX3_letter_44 (fun H locs hP hS => ?_)
    refine lv_aload_n E.1 E.2.1 dX3_letter_47 rfl (lv_at hl 0 rfl) ?_
    refine mg_0_16 E hK hP in_3 w_0 dX3_letter_48 ?_
    exact W.iret (v := 1) E.1 E.2.1 hr (fun t ht _ => ⟨⟨1, (), rfl, (if_pos h_1).symm, fun _ _ h => by simp at h⟩, hS.F ht⟩) hS.2.2 dX3_letter_51
  · 
    have h_1 : ¬ (32 ≤ p0 ∧ p0 ≤ 126) := ite10_0 h_1
    refine lv_bipush (v := (-102)) E.1 E.2.1 dX3_letter_11 (by decide) ?_
    exact W.iret (v := (-102)) E.1 E.2.1 hr (fun t ht _ => ⟨⟨(-102), (), rfl, (if_neg (fun h9 => h_1 (h9))).symm, fun _ _ h => by simp at h⟩, hS.F ht⟩) hS.2.2 dX3_letter_13
set_option maxHeartbeats 4000000 in
set_option maxRecDepth 100000 in
/-- blank of a fresh object -/
theorem z_X3_blank (l : Launch) (D : va_G) (cI cB : ClassId) (ad : Nat → Nat) (gl : Nat → Int64) (hI : wI 20 ad)  : Met l yX3_blank wsX3_blank ({ frames := 0, cells := 0, slots := 0, locals := 0 }) (GPc D cI cB (wM cI cB ad z0 gl zz) [.ref (ad 0)]) (va_Qi (fun (r : Int32) (_ : Unit) => r = 0) (fun _ t => va_P D vwCl [] t.heap) (wA 20 ad)) 0 0 (wA 20 ad) := by
  refine Met.ofW (cc := cX3_blank) (maxL := 2) (ret := (some .int)) (by decide) rfl ?_
  intro p e s m args below meth c s₁ B hml hv
  obtain ⟨rfl, hP, hK⟩ := hv
  have hts := atoms_spec (ws := wsX3_blank) B.pre
  have E : CallFix p m c cX3_blank 2 s _ wsX3_blank RX3 := ⟨B.exec, B.bytes, hml, findClass_of_methodNamed B.named, hts⟩
  have hr := B.returns
  have hlocks := B.notSynchronized
  have hS : va_S (wA 20 ad) s.heap s.heap [] := va_S.rf
  have in_3 : ∀ w ∈ wsX30, w ∈ wsX3_blank := fun _ h => List.mem_cons_of_mem _ (List.mem_append_right _ h)
  have w_0 : (Cond.fieldLink RX3 72 "SnowTermModel" "pageLength" "I").before _ s = true := hts _ (by decide +kernel)
  have hl := lv_entry ([.ref (ad 0)]) (n := 2) (Nat.le_of_ble_eq_true rfl)
  rw [lg_entry_eq]
  generalize (lg_sl ([.ref (ad 0)]) ++ List.replicate (2 - (lg_sl ([.ref (ad 0)])).length) Slot.unset).toArray = ls at hl ⊢
  have hl : lv_has ls 2 [(0, .ref (ad 0))] := hl
  refine lv_aload_n E.1 E.2.1 dX3_blank_0 rfl (lv_at hl 0 rfl) ?_
  refine mg_0_16 E hK hP in_3 w_0 dX3_blank_1 ?_
  refine lv_istore_n (lv' := [(1, .int 0), (0, .ref (ad 0))]) E.1 E.2.1 dX3_blank_4 rfl hl (by decide) rfl (fun ls hl => ?_)
  refine lv_aload_n E.1 E.2.1 dX3_blank_5 rfl (lv_at hl 1 rfl) ?_
  refine lv_iconst (v := 0) E.1 E.2.1 dX3_blank_6 (by decide) ?_
  refine mp_0_16 (v := 0) E hK hP in_3 w_0 hI hS dX3_blank_7 (fun H locs hP hS => ?_)
  refine lv_iload_n E.1 E.2.1 dX3_blank_10 rfl (lv_at hl 0 rfl) ?_
  exact W.iret (v := 0) E.1 E.2.1 hr (fun t ht _ => ⟨⟨0, (), rfl, rfl, fun _ _ h => by simp at h⟩, hS.F ht⟩) hS.2.2 dX3_blank_11
set_option maxHeartbeats 4000000 in
set_option maxRecDepth 100000 in
/-- read of an empty page -/
theorem z_X3_read (l : Launch) (D : va_G) (cI cB : ClassId) (ad : Nat → Nat) (gl : Nat → Int64) (hI : wI 20 ad)  : Met l yX3_read wsX3_read ({ frames := 0, cells := 0, slots := 0, locals := 0 }) (GPc D cI cB (wM cI cB ad z0 gl zz) [.ref (ad 0)]) (va_Qi (fun (r : Int32) (u : Nat → Int32) => r = 0 ∧ u = upd (upd z0 18 0) 19 0) (fun u t => va_P D vwCl (wM cI cB ad u gl zz) t.heap) (wA 20 ad)) 0 0 (wA 20 ad) := by
  refine Met.ofW (cc := cX3_read) (maxL := 2) (ret := (some .int)) (by decide) rfl ?_
  intro p e s m args below meth c s₁ B hml hv
  obtain ⟨rfl, hP, hK⟩ := hv
  have hts := atoms_spec (ws := wsX3_read) B.pre
  have E : CallFix p m c cX3_read 2 s _ wsX3_read RX3 := ⟨B.exec, B.bytes, hml, findClass_of_methodNamed B.named, hts⟩
  have hr := B.returns
  have hlocks := B.notSynchronized
  have hS : va_S (wA 20 ad) s.heap s.heap [] := va_S.rf
  have in_3 : ∀ w ∈ wsX30, w ∈ wsX3_read := fun _ h => List.mem_cons_of_mem _ (List.mem_append_right _ h)
  have w_0 : (Cond.fieldLink RX3 76 "SnowTermModel" "isWhole" "Z").before _ s = true := hts _ (by decide +kernel)
  have w_1 : (Cond.fieldLink RX3 80 "SnowTermModel" "newMany" "I").before _ s = true := hts _ (by decide +kernel)
  have w_2 : (Cond.fieldLink RX3 72 "SnowTermModel" "pageLength" "I").before _ s = true := hts _ (by decide +kernel)
  have hl := lv_entry ([.ref (ad 0)]) (n := 2) (Nat.le_of_ble_eq_true rfl)
  rw [lg_entry_eq]
  generalize (lg_sl ([.ref (ad 0)]) ++ List.replicate (2 - (lg_sl ([.ref (ad 0)])).length) Slot.unset).toArray = ls at hl ⊢
  have hl : lv_has ls 2 [(0, .ref (ad 0))] := hl
  refine lv_aload_n E.1 E.2.1 dX3_read_0 rfl (lv_at hl 0 rfl) ?_
  refine lv_iconst (v := 0) E.1 E.2.1 dX3_read_1 (by decide) ?_
  refine mp_0_18 (v := 0) E hK hP in_3 w_0 hI hS rfl rfl dX3_read_2 (fun H locs hP hS => ?_)
  refine lv_aload_n E.1 E.2.1 dX3_read_5 rfl (lv_at hl 0 rfl) ?_
  refine lv_iconst (v := 0) E.1 E.2.1 dX3_read_6 (by decide) ?_
  refine mp_0_19 (v := 0) E hK hP in_3 w_1 hI hS dX3_read_7 (fun H locs hP hS => ?_)
  refine lv_iconst (v := 0) E.1 E.2.1 dX3_read_10 (by decide) ?_
  refine lv_istore_n (lv' := [(1, .int 0), (0, .ref (ad 0))]) E.1 E.2.1 dX3_read_11 rfl hl (by decide) rfl (fun ls hl => ?_)
  refine lv_aload_n E.1 E.2.1 dX3_read_12 rfl (lv_at hl 1 rfl) ?_
  refine mg_0_19 E hK hP in_3 w_1 dX3_read_13 ?_
  refine lv_bipush (v := 6) E.1 E.2.1 dX3_read_16 (by decide) ?_
  refine lv_icmp_ge (x := 0) (y := 6) (tgt := 201) E.1 E.2.1 dX3_read_18 (by decide) (fun h9 => absurd h9 (by decide)) (fun _ => ?_)
  refine lv_iload_n E.1 E.2.1 dX3_read_21 rfl (lv_at hl 0 rfl) ?_
  refine lv_aload_n E.1 E.2.1 dX3_read_22 rfl (lv_at hl 1 rfl) ?_
  refine mg_0_16 E hK hP in_3 w_2 dX3_read_23 ?_
  refine lv_icmp_eq (x := 0) (y := 0) (tgt := 42) E.1 E.2.1 dX3_read_26 (by decide) (fun _ => ?_) (fun h9 => absurd (by decide) h9)
  refine lv_iload_n E.1 E.2.1 dX3_read_42 rfl (lv_at hl 0 rfl) ?_
  exact W.iret (v := 0) E.1 E.2.1 hr (fun t ht _ => ⟨⟨0, (upd (upd z0 18 0) 19 0), rfl, ⟨rfl, rfl⟩, by subst ht; exact hP⟩, hS.F ht⟩) hS.2.2 dX3_read_43
set_option maxHeartbeats 4000000 in
set_option maxRecDepth 100000 in
/-- fault of a fresh object -/
theorem z_X3_fault (l : Launch) (D : va_G) (cI cB : ClassId) (ad : Nat → Nat) (gl : Nat → Int64) (hI : wI 20 ad)  : Met l yX3_fault wsX3_fault ({ frames := 1, cells := 0, slots := 0, locals := 21 }) (GPc D cI cB (wM cI cB ad z0 gl zz) [.ref (ad 0)]) (va_Qi (fun (r : Int32) (_ : Unit) => r = 0) (fun _ t => va_P D vwCl [] t.heap) (wA 20 ad)) 0 0 (wA 20 ad) := by
  refine Met.ofW (cc := cX3_fault) (maxL := 1) (ret := (some .int)) (by decide) rfl ?_
  intro p e s m args below meth c s₁ B hml hv
  obtain ⟨rfl, hP, hK⟩ := hv
  have hts := atoms_spec (ws := wsX3_fault) B.pre
  have E : CallFix p m c cX3_fault 1 s _ wsX3_fault RX3 := ⟨B.exec, B.bytes, hml, findClass_of_methodNamed B.named, hts⟩
  have hr := B.returns
  have hlocks := B.notSynchronized
  have hS : va_S (wA 20 ad) s.heap s.heap [] := va_S.rf
  have hl := lv_entry ([.ref (ad 0)]) (n := 1) (Nat.le_of_ble_eq_true rfl)
  rw [lg_entry_eq]
  generalize (lg_sl ([.ref (ad 0)]) ++ List.replicate (1 - (lg_sl ([.ref (ad 0)])).length) Slot.unset).toArray = ls at hl ⊢
  have hl : lv_has ls 1 [(0, .ref (ad 0))] := hl
  refine lv_aload_n E.1 E.2.1 dX3_fault_0 rfl (lv_at hl 0 rfl) ?_
  refine g_VWi (As := []) (rest := []) E hK hP hS (fun q h => h) (z_X3_read l D cI cB ad gl hI) (cwV 0 E.2.2.2.2 gX3_fault_X3_read rfl rfl rfl (by decide +kernel) ⟨Nat.le_of_ble_eq_true rfl, Nat.le_of_ble_eq_true rfl⟩) (rm0x hK hP) rfl hl.1 rfl (by decide) dX3_fault_1 ⟨Nat.zero_le _, Nat.zero_le _⟩ (fun r_2 u_1 H1 locs hp_3 hP1 hk_4 hS => ?_)
  obtain ⟨rfl, rfl⟩ := hp_3
  have hP : va_P D vwCl (wM cI cB ad (upd (upd z0 18 0) 19 0) gl zz) H1 := hP1
  generalize H1 = H at hP hS ⊢
  exact W.iret (v := 0) E.1 E.2.1 hr (fun t ht _ => ⟨⟨0, (), rfl, rfl, fun _ _ h => by simp at h⟩, hS.F ht⟩) hS.2.2 dX3_fault_4
set_option maxHeartbeats 4000000 in
set_option maxRecDepth 100000 in
/-- city of a fresh object -/
theorem z_X3_city (l : Launch) (D : va_G) (cI cB : ClassId) (ad : Nat → Nat) (gl : Nat → Int64) (hI : wI 20 ad)  : Met l yX3_city wsX3_city ({ frames := 1, cells := 0, slots := 0, locals := 21 }) (GPc D cI cB (wM cI cB ad z0 gl zz) [.ref (ad 0)]) (va_Qi (fun (r : Int32) (_ : Unit) => r = (-103)) (fun _ t => va_P D vwCl [] t.heap) (wA 20 ad)) 0 0 (wA 20 ad) := by
  refine Met.ofW (cc := cX3_city) (maxL := 3) (ret := (some .int)) (by decide) rfl ?_
  intro p e s m args below meth c s₁ B hml hv
  obtain ⟨rfl, hP, hK⟩ := hv
  have hts := atoms_spec (ws := wsX3_city) B.pre
  have E : CallFix p m c cX3_city 3 s _ wsX3_city RX3 := ⟨B.exec, B.bytes, hml, findClass_of_methodNamed B.named, hts⟩
  have hr := B.returns
  have hlocks := B.notSynchronized
  have hS : va_S (wA 20 ad) s.heap s.heap [] := va_S.rf
  have in_3 : ∀ w ∈ wsX30, w ∈ wsX3_city := fun _ h => List.mem_cons_of_mem _ (List.mem_append_right _ h)
  have w_0 : (Cond.fieldLink RX3 76 "SnowTermModel" "isWhole" "Z").before _ s = true := hts _ (by decide +kernel)
  have hl := lv_entry ([.ref (ad 0)]) (n := 3) (Nat.le_of_ble_eq_true rfl)
  rw [lg_entry_eq]
  generalize (lg_sl ([.ref (ad 0)]) ++ List.replicate (3 - (lg_sl ([.ref (ad 0)])).length) Slot.unset).toArray = ls at hl ⊢
  have hl : lv_has ls 3 [(0, .ref (ad 0))] := hl
  refine lv_aload_n E.1 E.2.1 dX3_city_0 rfl (lv_at hl 0 rfl) ?_
  refine g_VWi (As := []) (rest := []) E hK hP hS (fun q h => h) (z_X3_read l D cI cB ad gl hI) (cwV 0 E.2.2.2.2 gX3_city_X3_read rfl rfl rfl (by decide +kernel) ⟨Nat.le_of_ble_eq_true rfl, Nat.le_of_ble_eq_true rfl⟩) (rm0x hK hP) rfl hl.1 rfl (by decide) dX3_city_1 ⟨Nat.zero_le _, Nat.zero_le _⟩ (fun r_2 u_1 H1 locs hp_3 hP1 hk_4 hS => ?_)
  obtain ⟨rfl, rfl⟩ := hp_3
  have hP : va_P D vwCl (wM cI cB ad (upd (upd z0 18 0) 19 0) gl zz) H1 := hP1
  generalize H1 = H at hP hS ⊢
  refine lv_istore_n (lv' := [(1, .int 0), (0, .ref (ad 0))]) E.1 E.2.1 dX3_city_4 rfl hl (by decide) rfl (fun ls hl => ?_)
  refine lv_aload_n E.1 E.2.1 dX3_city_5 rfl (lv_at hl 1 rfl) ?_
  refine mg_0_18 E hK hP in_3 w_0 dX3_city_6 ?_
  refine lv_if_ne (x := 0) (tgt := 15) E.1 E.2.1 dX3_city_9 (by decide) (fun h9 => absurd (by decide) h9) (fun _ => ?_)
  refine lv_bipush (v := (-103)) E.1 E.2.1 dX3_city_12 (by decide) ?_
  exact W.iret (v := (-103)) E.1 E.2.1 hr (fun t ht _ => ⟨⟨(-103), (), rfl, rfl, fun _ _ h => by simp at h⟩, hS.F ht⟩) hS.2.2 dX3_city_14
set_option maxHeartbeats 4000000 in
set_option maxRecDepth 100000 in
/-- about of a fresh object -/
theorem z_X3_about (l : Launch) (D : va_G) (cI cB : ClassId) (ad : Nat → Nat) (gl : Nat → Int64) (p0 : Int32) (p1 : Int32) : Met l yX3_about wsX3_about ({ frames := 2, cells := 0, slots := 0, locals := 43 }) (GPc D cI cB (wM cI cB ad z0 gl zz) [.ref (ad 0), .int p0, .int p1]) (QcRead ((-101))) 0 0 (fun _ => False) := by
  refine Met.ofW (cc := cX3_about) (maxL := 3) (ret := (some .int)) (by decide) rfl ?_
  intro p e s m args below meth c s₁ B hml hv
  obtain ⟨rfl, hP, hK⟩ := hv
  have hts := atoms_spec (ws := wsX3_about) B.pre
  have E : CallFix p m c cX3_about 3 s _ wsX3_about RX3 := ⟨B.exec, B.bytes, hml, findClass_of_methodNamed B.named, hts⟩
  have hr := B.returns
  have hlocks := B.notSynchronized
  have hl := lv_entry ([.ref (ad 0), .int p0, .int p1]) (n := 3) (Nat.le_of_ble_eq_true rfl)
  rw [lg_entry_eq]
  generalize (lg_sl ([.ref (ad 0), .int p0, .int p1]) ++ List.replicate (3 - (lg_sl ([.ref (ad 0), .int p0, .int p1])).length) Slot.unset).toArray = ls at hl ⊢
  have hl : lv_has ls 3 [(0, .ref (ad 0)), (1, .int p0), (2, .int p1)] := hl
  refine lv_aload_n E.1 E.2.1 dX3_about_0 rfl (lv_at hl 0 rfl) ?_
  refine lv_iload_n E.1 E.2.1 dX3_about_1 rfl (lv_at hl 1 rfl) ?_
  refine g_VR (As := [.int p0]) (rest := []) E hK hP (z_X3_isSite l D cI cB ad gl p0) (cwV 1 E.2.2.2.2 gX3_about_X3_isSite rfl rfl rfl (by decide +kernel) ⟨Nat.le_of_ble_eq_true rfl, Nat.le_of_ble_eq_true rfl⟩) (rm0x hK hP) rfl hl.1 rfl (by decide) dX3_about_2 ⟨Nat.zero_le _, Nat.zero_le _⟩ ?_
  refine lv_if_ne (x := 0) (tgt := 13) E.1 E.2.1 dX3_about_5 (by decide) (fun h9 => absurd (by decide) h9) (fun _ => ?_)
  refine lv_bipush (v := (-101)) E.1 E.2.1 dX3_about_8 (by decide) ?_
  refine lv_goto (tgt := 34) E.1 E.2.1 dX3_about_10 (by decide) ?_
  exact W.iret (v := (-101)) E.1 E.2.1 hr (fun t ht _ => ⟨rfl, ht⟩) (fun q hq => by cases hq) dX3_about_34
set_option maxHeartbeats 4000000 in
set_option maxRecDepth 100000 in
/-- as of a fresh object -/
theorem z_X3_as (l : Launch) (D : va_G) (cI cB : ClassId) (ad : Nat → Nat) (gl : Nat → Int64) (p0 : Int32) (p1 : Int32) : Met l yX3_as wsX3_as ({ frames := 2, cells := 0, slots := 0, locals := 43 }) (GPc D cI cB (wM cI cB ad z0 gl zz) [.ref (ad 0), .int p0, .int p1]) (QcRead ((-101))) 0 0 (fun _ => False) := by
  refine Met.ofW (cc := cX3_as) (maxL := 4) (ret := (some .int)) (by decide) rfl ?_
  intro p e s m args below meth c s₁ B hml hv
  obtain ⟨rfl, hP, hK⟩ := hv
  have hts := atoms_spec (ws := wsX3_as) B.pre
  have E : CallFix p m c cX3_as 4 s _ wsX3_as RX3 := ⟨B.exec, B.bytes, hml, findClass_of_methodNamed B.named, hts⟩
  have hr := B.returns
  have hlocks := B.notSynchronized
  have hl := lv_entry ([.ref (ad 0), .int p0, .int p1]) (n := 4) (Nat.le_of_ble_eq_true rfl)
  rw [lg_entry_eq]
  generalize (lg_sl ([.ref (ad 0), .int p0, .int p1]) ++ List.replicate (4 - (lg_sl ([.ref (ad 0), .int p0, .int p1])).length) Slot.unset).toArray = ls at hl ⊢
  have hl : lv_has ls 4 [(0, .ref (ad 0)), (1, .int p0), (2, .int p1)] := hl
  refine lv_aload_n E.1 E.2.1 dX3_as_0 rfl (lv_at hl 0 rfl) ?_
  refine lv_iload_n E.1 E.2.1 dX3_as_1 rfl (lv_at hl 1 rfl) ?_
  refine g_VR (As := [.int p0]) (rest := []) E hK hP (z_X3_isSite l D cI cB ad gl p0) (cwV 1 E.2.2.2.2 gX3_as_X3_isSite rfl rfl rfl (by decide +kernel) ⟨Nat.le_of_ble_eq_true rfl, Nat.le_of_ble_eq_true rfl⟩) (rm0x hK hP) rfl hl.1 rfl (by decide) dX3_as_2 ⟨Nat.zero_le _, Nat.zero_le _⟩ ?_
  refine lv_if_ne (x := 0) (tgt := 11) E.1 E.2.1 dX3_as_5 (by decide) (fun h9 => absurd (by decide) h9) (fun _ => ?_)
  refine lv_bipush (v := (-101)) E.1 E.2.1 dX3_as_8 (by decide) ?_
  exact W.iret (v := (-101)) E.1 E.2.1 hr (fun t ht _ => ⟨rfl, ht⟩) (fun q hq => by cases hq) dX3_as_10
set_option maxHeartbeats 4000000 in
set_option maxRecDepth 100000 in
/-- bring of a fresh object -/
theorem z_X3_bring (l : Launch) (D : va_G) (cI cB : ClassId) (ad : Nat → Nat) (gl : Nat → Int64) (p0 : Int32) (p1 : Int32) : Met l yX3_bring wsX3_bring ({ frames := 2, cells := 0, slots := 0, locals := 43 }) (GPc D cI cB (wM cI cB ad z0 gl zz) [.ref (ad 0), .int p0, .int p1]) (QcRead ((-101))) 0 0 (fun _ => False) := by
  refine Met.ofW (cc := cX3_bring) (maxL := 3) (ret := (some .int)) (by decide) rfl ?_
  intro p e s m args below meth c s₁ B hml hv
  obtain ⟨rfl, hP, hK⟩ := hv
  have hts := atoms_spec (ws := wsX3_bring) B.pre
  have E : CallFix p m c cX3_bring 3 s _ wsX3_bring RX3 := ⟨B.exec, B.bytes, hml, findClass_of_methodNamed B.named, hts⟩
  have hr := B.returns
  have hlocks := B.notSynchronized
  have hl := lv_entry ([.ref (ad 0), .int p0, .int p1]) (n := 3) (Nat.le_of_ble_eq_true rfl)
  rw [lg_entry_eq]
  generalize (lg_sl ([.ref (ad 0), .int p0, .int p1]) ++ List.replicate (3 - (lg_sl ([.ref (ad 0), .int p0, .int p1])).length) Slot.unset).toArray = ls at hl ⊢
  have hl : lv_has ls 3 [(0, .ref (ad 0)), (1, .int p0), (2, .int p1)] := hl
  refine lv_aload_n E.1 E.2.1 dX3_bring_0 rfl (lv_at hl 0 rfl) ?_
  refine lv_iload_n E.1 E.2.1 dX3_bring_1 rfl (lv_at hl 1 rfl) ?_
  refine g_VR (As := [.int p0]) (rest := []) E hK hP (z_X3_isSite l D cI cB ad gl p0) (cwV 1 E.2.2.2.2 gX3_bring_X3_isSite rfl rfl rfl (by decide +kernel) ⟨Nat.le_of_ble_eq_true rfl, Nat.le_of_ble_eq_true rfl⟩) (rm0x hK hP) rfl hl.1 rfl (by decide) dX3_bring_2 ⟨Nat.zero_le _, Nat.zero_le _⟩ ?_
  refine lv_if_ne (x := 0) (tgt := 11) E.1 E.2.1 dX3_bring_5 (by decide) (fun h9 => absurd (by decide) h9) (fun _ => ?_)
  refine lv_bipush (v := (-101)) E.1 E.2.1 dX3_bring_8 (by decide) ?_
  exact W.iret (v := (-101)) E.1 E.2.1 hr (fun t ht _ => ⟨rfl, ht⟩) (fun q hq => by cases hq) dX3_bring_10
set_option maxHeartbeats 4000000 in
set_option maxRecDepth 100000 in
/-- tread of a fresh object -/
theorem z_X3_tread (l : Launch) (D : va_G) (cI cB : ClassId) (ad : Nat → Nat) (gl : Nat → Int64) (p0 : Int32) (p1 : Int32) : Met l yX3_tread wsX3_tread ({ frames := 2, cells := 0, slots := 0, locals := 43 }) (GPc D cI cB (wM cI cB ad z0 gl zz) [.ref (ad 0), .int p0, .int p1]) (QcRead ((-101))) 0 0 (fun _ => False) := by
  refine Met.ofW (cc := cX3_tread) (maxL := 4) (ret := (some .int)) (by decide) rfl ?_
  intro p e s m args below meth c s₁ B hml hv
  obtain ⟨rfl, hP, hK⟩ := hv
  have hts := atoms_spec (ws := wsX3_tread) B.pre
  have E : CallFix p m c cX3_tread 4 s _ wsX3_tread RX3 := ⟨B.exec, B.bytes, hml, findClass_of_methodNamed B.named, hts⟩
  have hr := B.returns
  have hlocks := B.notSynchronized
  have hl := lv_entry ([.ref (ad 0), .int p0, .int p1]) (n := 4) (Nat.le_of_ble_eq_true rfl)
  rw [lg_entry_eq]
  generalize (lg_sl ([.ref (ad 0), .int p0, .int p1]) ++ List.replicate (4 - (lg_sl ([.ref (ad 0), .int p0, .int p1])).length) Slot.unset).toArray = ls at hl ⊢
  have hl : lv_has ls 4 [(0, .ref (ad 0)), (1, .int p0), (2, .int p1)] := hl
  refine lv_aload_n E.1 E.2.1 dX3_tread_0 rfl (lv_at hl 0 rfl) ?_
  refine lv_iload_n E.1 E.2.1 dX3_tread_1 rfl (lv_at hl 1 rfl) ?_
  refine g_VR (As := [.int p0]) (rest := []) E hK hP (z_X3_isSite l D cI cB ad gl p0) (cwV 1 E.2.2.2.2 gX3_tread_X3_isSite rfl rfl rfl (by decide +kernel) ⟨Nat.le_of_ble_eq_true rfl, Nat.le_of_ble_eq_true rfl⟩) (rm0x hK hP) rfl hl.1 rfl (by decide) dX3_tread_2 ⟨Nat.zero_le _, Nat.zero_le _⟩ ?_
  refine lv_if_ne (x := 0) (tgt := 11) E.1 E.2.1 dX3_tread_5 (by decide) (fun h9 => absurd (by decide) h9) (fun _ => ?_)
  refine lv_bipush (v := (-101)) E.1 E.2.1 dX3_tread_8 (by decide) ?_
  exact W.iret (v := (-101)) E.1 E.2.1 hr (fun t ht _ => ⟨rfl, ht⟩) (fun q hq => by cases hq) dX3_tread_10
set_option maxHeartbeats 4000000 in
set_option maxRecDepth 100000 in
/-- need of a fresh object -/
theorem z_X3_need (l : Launch) (D : va_G) (cI cB : ClassId) (ad : Nat → Nat) (gl : Nat → Int64) (p0 : Int32) (p1 : Int32) : Met l yX3_need wsX3_need ({ frames := 2, cells := 0, slots := 0, locals := 43 }) (GPc D cI cB (wM cI cB ad z0 gl zz) [.ref (ad 0), .int p0, .int p1]) (QcRead ((-101))) 0 0 (fun _ => False) := by
  refine Met.ofW (cc := cX3_need) (maxL := 3) (ret := (some .int)) (by decide) rfl ?_
  intro p e s m args below meth c s₁ B hml hv
  obtain ⟨rfl, hP, hK⟩ := hv
  have hts := atoms_spec (ws := wsX3_need) B.pre
  have E : CallFix p m c cX3_need 3 s _ wsX3_need RX3 := ⟨B.exec, B.bytes, hml, findClass_of_methodNamed B.named, hts⟩
  have hr := B.returns
  have hlocks := B.notSynchronized
  have hl := lv_entry ([.ref (ad 0), .int p0, .int p1]) (n := 3) (Nat.le_of_ble_eq_true rfl)
  rw [lg_entry_eq]
  generalize (lg_sl ([.ref (ad 0), .int p0, .int p1]) ++ List.replicate (3 - (lg_sl ([.ref (ad 0), .int p0, .int p1])).length) Slot.unset).toArray = ls at hl ⊢
  have hl : lv_has ls 3 [(0, .ref (ad 0)), (1, .int p0), (2, .int p1)] := hl
  refine lv_aload_n E.1 E.2.1 dX3_need_0 rfl (lv_at hl 0 rfl) ?_
  refine lv_iload_n E.1 E.2.1 dX3_need_1 rfl (lv_at hl 1 rfl) ?_
  refine g_VR (As := [.int p0]) (rest := []) E hK hP (z_X3_isSite l D cI cB ad gl p0) (cwV 1 E.2.2.2.2 gX3_need_X3_isSite rfl rfl rfl (by decide +kernel) ⟨Nat.le_of_ble_eq_true rfl, Nat.le_of_ble_eq_true rfl⟩) (rm0x hK hP) rfl hl.1 rfl (by decide) dX3_need_2 ⟨Nat.zero_le _, Nat.zero_le _⟩ ?_
  refine lv_if_ne (x := 0) (tgt := 13) E.1 E.2.1 dX3_need_5 (by decide) (fun h9 => absurd (by decide) h9) (fun _ => ?_)
  refine lv_bipush (v := (-101)) E.1 E.2.1 dX3_need_8 (by decide) ?_
  refine lv_goto (tgt := 34) E.1 E.2.1 dX3_need_10 (by decide) ?_
  exact W.iret (v := (-101)) E.1 E.2.1 hr (fun t ht _ => ⟨rfl, ht⟩) (fun q hq => by cases hq) dX3_need_34
set_option maxHeartbeats 4000000 in
set_option maxRecDepth 100000 in
/-- found of a fresh object -/
theorem z_X3_found (l : Launch) (D : va_G) (cI cB : ClassId) (ad : Nat → Nat) (gl : Nat → Int64) (p0 : Int32) (p1 : Int32) (p2 : Int32) : Met l yX3_found wsX3_found ({ frames := 2, cells := 0, slots := 0, locals := 43 }) (GPc D cI cB (wM cI cB ad z0 gl zz) [.ref (ad 0), .int p0, .int p1, .int p2]) (QcRead ((-101))) 0 0 (fun _ => False) := by
  refine Met.ofW (cc := cX3_found) (maxL := 4) (ret := (some .int)) (by decide) rfl ?_
  intro p e s m args below meth c s₁ B hml hv
  obtain ⟨rfl, hP, hK⟩ := hv
  have hts := atoms_spec (ws := wsX3_found) B.pre
  have E : CallFix p m c cX3_found 4 s _ wsX3_found RX3 := ⟨B.exec, B.bytes, hml, findClass_of_methodNamed B.named, hts⟩
  have hr := B.returns
  have hlocks := B.notSynchronized
  have hl := lv_entry ([.ref (ad 0), .int p0, .int p1, .int p2]) (n := 4) (Nat.le_of_ble_eq_true rfl)
  rw [lg_entry_eq]
  generalize (lg_sl ([.ref (ad 0), .int p0, .int p1, .int p2]) ++ List.replicate (4 - (lg_sl ([.ref (ad 0), .int p0, .int p1, .int p2])).length) Slot.unset).toArray = ls at hl ⊢
  have hl : lv_has ls 4 [(0, .ref (ad 0)), (1, .int p0), (2, .int p1), (3, .int p2)] := hl
  refine lv_aload_n E.1 E.2.1 dX3_found_0 rfl (lv_at hl 0 rfl) ?_
  refine lv_iload_n E.1 E.2.1 dX3_found_1 rfl (lv_at hl 1 rfl) ?_
  refine g_VR (As := [.int p0]) (rest := []) E hK hP (z_X3_isSite l D cI cB ad gl p0) (cwV 1 E.2.2.2.2 gX3_found_X3_isSite rfl rfl rfl (by decide +kernel) ⟨Nat.le_of_ble_eq_true rfl, Nat.le_of_ble_eq_true rfl⟩) (rm0x hK hP) rfl hl.1 rfl (by decide) dX3_found_2 ⟨Nat.zero_le _, Nat.zero_le _⟩ ?_
  refine lv_if_ne (x := 0) (tgt := 11) E.1 E.2.1 dX3_found_5 (by decide) (fun h9 => absurd (by decide) h9) (fun _ => ?_)
  refine lv_bipush (v := (-101)) E.1 E.2.1 dX3_found_8 (by decide) ?_
  exact W.iret (v := (-101)) E.1 E.2.1 hr (fun t ht _ => ⟨rfl, ht⟩) (fun q hq => by cases hq) dX3_found_10
set_option maxHeartbeats 4000000 in
set_option maxRecDepth 100000 in
/-- sun of a fresh object -/
theorem z_X3_sun (l : Launch) (D : va_G) (cI cB : ClassId) (ad : Nat → Nat) (gl : Nat → Int64) (p0 : Int32) : Met l yX3_sun wsX3_sun ({ frames := 1, cells := 0, slots := 0, locals := 22 }) (GPc D cI cB (wM cI cB ad z0 gl zz) [.ref (ad 0), .int p0]) (QcRead (if 0 ≤ p0 ∧ p0 ≤ 9 then (-103) else (-102))) 0 0 (fun _ => False) := by
  refine Met.ofW (cc := cX3_sun) (maxL := 3) (ret := (some .int)) (by decide) rfl ?_
  intro p e s m args below meth c s₁ B hml hv
  obtain ⟨rfl, hP, hK⟩ := hv
  have hts := atoms_spec (ws := wsX3_sun) B.pre
  have E : CallFix p m c cX3_sun 3 s _ wsX3_sun RX3 := ⟨B.exec, B.bytes, hml, findClass_of_methodNamed B.named, hts⟩
  have hr := B.returns
  have hlocks := B.notSynchronized
  have in_3 : ∀ w ∈ wsX30, w ∈ wsX3_sun := fun _ h => List.mem_cons_of_mem _ (List.mem_append_right _ h)
  have w_0 : (Cond.fieldLink RX3 94 "SnowTermModel" "sites" "I").before _ s = true := hts _ (by decide +kernel)
  have hl := lv_entry ([.ref (ad 0), .int p0]) (n := 3) (Nat.le_of_ble_eq_true rfl)
  rw [lg_entry_eq]
  generalize (lg_sl ([.ref (ad 0), .int p0]) ++ List.replicate (3 - (lg_sl ([.ref (ad 0), .int p0])).length) Slot.unset).toArray = ls at hl ⊢
  have hl : lv_has ls 3 [(0, .ref (ad 0)), (1, .int p0)] := hl
  refine lv_iload_n E.1 E.2.1 dX3_sun_0 rfl (lv_at hl 1 rfl) ?_
  refine lv_iconst (v := 0) E.1 E.2.1 dX3_sun_1 (by decide) ?_
  refine lv_bipush (v := 9) E.1 E.2.1 dX3_sun_2 (by decide) ?_
  refine g_SR (As := [.int p0, .int 0, .int 9]) (rest := []) E hK (m_within l D cI cB p0 0 9) (va_cwS 3 E.2.2.2.2 gX3_sun_X3_within rfl rfl rfl (by decide +kernel) ⟨Nat.le_of_ble_eq_true rfl, Nat.le_of_ble_eq_true rfl⟩) rfl hl.1 rfl (by decide) dX3_sun_4 ⟨Nat.zero_le _, Nat.zero_le _⟩ ?_
  refine lv_if_ne (x := if 0 ≤ p0 ∧ p0 ≤ 9 then 1 else 0) (tgt := 13) E.1 E.2.1 dX3_sun_7 (by decide) (fun h_1 => ?_) (fun h_1 => ?_)
  · 
    have h_1 : 0 ≤ p0 ∧ p0 ≤ 9 := ite10_1 h_1
    refine lv_aload_n E.1 E.2.1 dX3_sun_13 rfl (lv_at hl 0 rfl) ?_
    refine mg_0_1 E hK hP in_3 w_0 dX3_sun_14 ?_
    refine lv_if_ne (x := 0) (tgt := 23) E.1 E.2.1 dX3_sun_17 (by decide) (fun h9 => absurd (by decide) h9) (fun _ => ?_)
    refine lv_bipush (v := (-103)) E.1 E.2.1 dX3_sun_20 (by decide) ?_
    exact W.iret (v := (-103)) E.1 E.2.1 hr (fun t ht _ => ⟨(congrArg (fun z : Int32 => Outcome.returned (some (Value.int z))) ((if_pos h_1).symm)), ht⟩) (fun q hq => by cases hq) dX3_sun_22
  · 
    have h_1 : ¬ (0 ≤ p0 ∧ p0 ≤ 9) := ite10_0 h_1
    refine lv_bipush (v := (-102)) E.1 E.2.1 dX3_sun_10 (by decide) ?_
    exact W.iret (v := (-102)) E.1 E.2.1 hr (fun t ht _ => ⟨(congrArg (fun z : Int32 => Outcome.returned (some (Value.int z))) ((if_neg (fun h9 => h_1 (h9))).symm)), ht⟩) (fun q hq => by cases hq) dX3_sun_12
set_option maxHeartbeats 4000000 in
set_option maxRecDepth 100000 in
/-- day of a fresh object -/
theorem z_X3_day (l : Launch) (D : va_G) (cI cB : ClassId) (ad : Nat → Nat) (gl : Nat → Int64)  : Met l yX3_day wsX3_day ({ frames := 0, cells := 0, slots := 0, locals := 0 }) (GPc D cI cB (wM cI cB ad z0 gl zz) [.ref (ad 0)]) (QcRead ((-103))) 0 0 (fun _ => False) := by
  refine Met.ofW (cc := cX3_day) (maxL := 2) (ret := (some .int)) (by decide) rfl ?_
  intro p e s m args below meth c s₁ B hml hv
  obtain ⟨rfl, hP, hK⟩ := hv
  have hts := atoms_spec (ws := wsX3_day) B.pre
  have E : CallFix p m c cX3_day 2 s _ wsX3_day RX3 := ⟨B.exec, B.bytes, hml, findClass_of_methodNamed B.named, hts⟩
  have hr := B.returns
  have hlocks := B.notSynchronized
  have in_3 : ∀ w ∈ wsX30, w ∈ wsX3_day := fun _ h => List.mem_cons_of_mem _ (List.mem_append_right _ h)
  have w_0 : (Cond.fieldLink RX3 94 "SnowTermModel" "sites" "I").before _ s = true := hts _ (by decide +kernel)
  have hl := lv_entry ([.ref (ad 0)]) (n := 2) (Nat.le_of_ble_eq_true rfl)
  rw [lg_entry_eq]
  generalize (lg_sl ([.ref (ad 0)]) ++ List.replicate (2 - (lg_sl ([.ref (ad 0)])).length) Slot.unset).toArray = ls at hl ⊢
  have hl : lv_has ls 2 [(0, .ref (ad 0))] := hl
  refine lv_aload_n E.1 E.2.1 dX3_day_0 rfl (lv_at hl 0 rfl) ?_
  refine mg_0_1 E hK hP in_3 w_0 dX3_day_1 ?_
  refine lv_if_ne (x := 0) (tgt := 10) E.1 E.2.1 dX3_day_4 (by decide) (fun h9 => absurd (by decide) h9) (fun _ => ?_)
  refine lv_bipush (v := (-103)) E.1 E.2.1 dX3_day_7 (by decide) ?_
  exact W.iret (v := (-103)) E.1 E.2.1 hr (fun t ht _ => ⟨rfl, ht⟩) (fun q hq => by cases hq) dX3_day_9
set_option maxHeartbeats 4000000 in
set_option maxRecDepth 100000 in
/-- plan of a fresh object -/
theorem z_X3_plan (l : Launch) (D : va_G) (cI cB : ClassId) (ad : Nat → Nat) (gl : Nat → Int64) (p0 : Int32) (p1 : Int32) (p2 : Int32) : Met l yX3_plan wsX3_plan ({ frames := 1, cells := 0, slots := 0, locals := 22 }) (GPc D cI cB (wM cI cB ad z0 gl zz) [.ref (ad 0), .int p0, .int p1, .int p2]) (QcRead (if (0 ≤ p0 ∧ p0 ≤ 60) ∧ (0 ≤ p1 ∧ p1 ≤ 9) ∧ (0 ≤ p2 ∧ p2 ≤ 3) then (-103) else (-102))) 0 0 (fun _ => False) := by
  refine Met.ofW (cc := cX3_plan) (maxL := 4) (ret := (some .int)) (by decide) rfl ?_
  intro p e s m args below meth c s₁ B hml hv
  obtain ⟨rfl, hP, hK⟩ := hv
  have hts := atoms_spec (ws := wsX3_plan) B.pre
  have E : CallFix p m c cX3_plan 4 s _ wsX3_plan RX3 := ⟨B.exec, B.bytes, hml, findClass_of_methodNamed B.named, hts⟩
  have hr := B.returns
  have hlocks := B.notSynchronized
  have in_3 : ∀ w ∈ wsX30, w ∈ wsX3_plan := fun _ h => List.mem_cons_of_mem _ (List.mem_append_right _ h)
  have w_0 : (Cond.fieldLink RX3 94 "SnowTermModel" "sites" "I").before _ s = true := hts _ (by decide +kernel)
  have hl := lv_entry ([.ref (ad 0), .int p0, .int p1, .int p2]) (n := 4) (Nat.le_of_ble_eq_true rfl)
  rw [lg_entry_eq]
  generalize (lg_sl ([.ref (ad 0), .int p0, .int p1, .int p2]) ++ List.replicate (4 - (lg_sl ([.ref (ad 0), .int p0, .int p1, .int p2])).length) Slot.unset).toArray = ls at hl ⊢
  have hl : lv_has ls 4 [(0, .ref (ad 0)), (1, .int p0), (2, .int p1), (3, .int p2)] := hl
  refine lv_iload_n E.1 E.2.1 dX3_plan_0 rfl (lv_at hl 1 rfl) ?_
  refine lv_iconst (v := 0) E.1 E.2.1 dX3_plan_1 (by decide) ?_
  refine lv_bipush (v := 60) E.1 E.2.1 dX3_plan_2 (by decide) ?_
  refine g_SR (As := [.int p0, .int 0, .int 60]) (rest := []) E hK (m_within l D cI cB p0 0 60) (va_cwS 3 E.2.2.2.2 gX3_plan_X3_within rfl rfl rfl (by decide +kernel) ⟨Nat.le_of_ble_eq_true rfl, Nat.le_of_ble_eq_true rfl⟩) rfl hl.1 rfl (by decide) dX3_plan_4 ⟨Nat.zero_le _, Nat.zero_le _⟩ ?_
  refine lv_if_eq (x := if 0 ≤ p0 ∧ p0 ≤ 60 then 1 else 0) (tgt := 29) E.1 E.2.1 dX3_plan_7 (by decide) (fun h_1 => ?_) (fun h_1 => ?_)
  · 
    have h_1 : ¬ (0 ≤ p0 ∧ p0 ≤ 60) := ite10_0 h_1
    refine lv_bipush (v := (-102)) E.1 E.2.1 dX3_plan_29 (by decide) ?_
    exact W.iret (v := (-102)) E.1 E.2.1 hr (fun t ht _ => ⟨(congrArg (fun z : Int32 => Outcome.returned (some (Value.int z))) ((if_neg (fun h9 => h_1 (h9.1))).symm)), ht⟩) (fun q hq => by cases hq) dX3_plan_31
  · 
    have h_1 : 0 ≤ p0 ∧ p0 ≤ 60 := ite10_1 h_1
    refine lv_iload_n E.1 E.2.1 dX3_plan_10 rfl (lv_at hl 2 rfl) ?_
    refine lv_iconst (v := 0) E.1 E.2.1 dX3_plan_11 (by decide) ?_
    refine lv_bipush (v := 9) E.1 E.2.1 dX3_plan_12 (by decide) ?_
    refine g_SR (As := [.int p1, .int 0, .int 9]) (rest := []) E hK (m_within l D cI cB p1 0 9) (va_cwS 3 E.2.2.2.2 gX3_plan_X3_within rfl rfl rfl (by decide +kernel) ⟨Nat.le_of_ble_eq_true rfl, Nat.le_of_ble_eq_true rfl⟩) rfl hl.1 rfl (by decide) dX3_plan_14 ⟨Nat.zero_le _, Nat.zero_le _⟩ ?_
    refine lv_if_eq (x := if 0 ≤ p1 ∧ p1 ≤ 9 then 1 else 0) (tgt := 29) E.1 E.2.1 dX3_plan_17 (by decide) (fun h_2 => ?_) (fun h_2 => ?_)
    · 
      have h_2 : ¬ (0 ≤ p1 ∧ p1 ≤ 9) := ite10_0 h_2
      refine lv_bipush (v := (-102)) E.1 E.2.1 dX3_plan_29 (by decide) ?_
      exact W.iret (v := (-102)) E.1 E.2.1 hr (fun t ht _ => ⟨(congrArg (fun z : Int32 => Outcome.returned (some (Value.int z))) ((if_neg (fun h9 => h_2 (h9.2.1))).symm)), ht⟩) (fun q hq => by cases hq) dX3_plan_31
    · 
      have h_2 : 0 ≤ p1 ∧ p1 ≤ 9 := ite10_1 h_2
      refine lv_iload_n E.1 E.2.1 dX3_plan_20 rfl (lv_at hl 3 rfl) ?_
      refine lv_iconst (v := 0) E.1 E.2.1 dX3_plan_21 (by decide) ?_
      refine lv_iconst (v := 3) E.1 E.2.1 dX3_plan_22 (by decide) ?_
      refine g_SR (As := [.int p2, .int 0, .int 3]) (rest := []) E hK (m_within l D cI cB p2 0 3) (va_cwS 3 E.2.2.2.2 gX3_plan_X3_within rfl rfl rfl (by decide +kernel) ⟨Nat.le_of_ble_eq_true rfl, Nat.le_of_ble_eq_true rfl⟩) rfl hl.1 rfl (by decide) dX3_plan_23 ⟨Nat.zero_le _, Nat.zero_le _⟩ ?_
      refine lv_if_ne (x := if 0 ≤ p2 ∧ p2 ≤ 3 then 1 else 0) (tgt := 32) E.1 E.2.1 dX3_plan_26 (by decide) (fun h_3 => ?_) (fun h_3 => ?_)
      · 
        have h_3 : 0 ≤ p2 ∧ p2 ≤ 3 := ite10_1 h_3
        refine lv_aload_n E.1 E.2.1 dX3_plan_32 rfl (lv_at hl 0 rfl) ?_
        refine mg_0_1 E hK hP in_3 w_0 dX3_plan_33 ?_
        refine lv_if_ne (x := 0) (tgt := 44) E.1 E.2.1 dX3_plan_36 (by decide) (fun h9 => absurd (by decide) h9) (fun _ => ?_)
        refine lv_bipush (v := (-103)) E.1 E.2.1 dX3_plan_39 (by decide) ?_
        refine lv_goto (tgt := 51) E.1 E.2.1 dX3_plan_41 (by decide) ?_
        exact W.iret (v := (-103)) E.1 E.2.1 hr (fun t ht _ => ⟨(congrArg (fun z : Int32 => Outcome.returned (some (Value.int z))) ((if_pos ⟨h_1, h_2, h_3⟩).symm)), ht⟩) (fun q hq => by cases hq) dX3_plan_51
      · 
        have h_3 : ¬ (0 ≤ p2 ∧ p2 ≤ 3) := ite10_0 h_3
        refine lv_bipush (v := (-102)) E.1 E.2.1 dX3_plan_29 (by decide) ?_
        exact W.iret (v := (-102)) E.1 E.2.1 hr (fun t ht _ => ⟨(congrArg (fun z : Int32 => Outcome.returned (some (Value.int z))) ((if_neg (fun h9 => h_3 (h9.2.2))).symm)), ht⟩) (fun q hq => by cases hq) dX3_plan_31
set_option maxHeartbeats 4000000 in
set_option maxRecDepth 100000 in
/-- error of a fresh object -/
theorem z_X3_error (l : Launch) (D : va_G) (cI cB : ClassId) (ad : Nat → Nat) (gl : Nat → Int64) (p0 : Int32) : Met l yX3_error wsX3_error ({ frames := 1, cells := 0, slots := 0, locals := 22 }) (GPc D cI cB (wM cI cB ad z0 gl zz) [.ref (ad 0), .int p0]) (QcRead (if 0 ≤ p0 ∧ p0 ≤ 1 then (-103) else (-102))) 0 0 (fun _ => False) := by
  refine Met.ofW (cc := cX3_error) (maxL := 2) (ret := (some .int)) (by decide) rfl ?_
  intro p e s m args below meth c s₁ B hml hv
  obtain ⟨rfl, hP, hK⟩ := hv
  have hts := atoms_spec (ws := wsX3_error) B.pre
  have E : CallFix p m c cX3_error 2 s _ wsX3_error RX3 := ⟨B.exec, B.bytes, hml, findClass_of_methodNamed B.named, hts⟩
  have hr := B.returns
  have hlocks := B.notSynchronized
  have in_3 : ∀ w ∈ wsX30, w ∈ wsX3_error := fun _ h => List.mem_cons_of_mem _ (List.mem_append_right _ h)
  have w_0 : (Cond.fieldLink RX3 94 "SnowTermModel" "sites" "I").before _ s = true := hts _ (by decide +kernel)
  have hl := lv_entry ([.ref (ad 0), .int p0]) (n := 2) (Nat.le_of_ble_eq_true rfl)
  rw [lg_entry_eq]
  generalize (lg_sl ([.ref (ad 0), .int p0]) ++ List.replicate (2 - (lg_sl ([.ref (ad 0), .int p0])).length) Slot.unset).toArray = ls at hl ⊢
  have hl : lv_has ls 2 [(0, .ref (ad 0)), (1, .int p0)] := hl
  refine lv_iload_n E.1 E.2.1 dX3_error_0 rfl (lv_at hl 1 rfl) ?_
  refine lv_iconst (v := 0) E.1 E.2.1 dX3_error_1 (by decide) ?_
  refine lv_iconst (v := 1) E.1 E.2.1 dX3_error_2 (by decide) ?_
  refine g_SR (As := [.int p0, .int 0, .int 1]) (rest := []) E hK (m_within l D cI cB p0 0 1) (va_cwS 3 E.2.2.2.2 gX3_error_X3_within rfl rfl rfl (by decide +kernel) ⟨Nat.le_of_ble_eq_true rfl, Nat.le_of_ble_eq_true rfl⟩) rfl hl.1 rfl (by decide) dX3_error_3 ⟨Nat.zero_le _, Nat.zero_le _⟩ ?_
  refine lv_if_ne (x := if 0 ≤ p0 ∧ p0 ≤ 1 then 1 else 0) (tgt := 12) E.1 E.2.1 dX3_error_6 (by decide) (fun h_1 => ?_) (fun h_1 => ?_)
  · 
    have h_1 : 0 ≤ p0 ∧ p0 ≤ 1 := ite10_1 h_1
    refine lv_aload_n E.1 E.2.1 dX3_error_12 rfl (lv_at hl 0 rfl) ?_
    refine mg_0_1 E hK hP in_3 w_0 dX3_error_13 ?_
    refine lv_if_ne (x := 0) (tgt := 24) E.1 E.2.1 dX3_error_16 (by decide) (fun h9 => absurd (by decide) h9) (fun _ => ?_)
    refine lv_bipush (v := (-103)) E.1 E.2.1 dX3_error_19 (by decide) ?_
    refine lv_goto (tgt := 29) E.1 E.2.1 dX3_error_21 (by decide) ?_
    exact W.iret (v := (-103)) E.1 E.2.1 hr (fun t ht _ => ⟨(congrArg (fun z : Int32 => Outcome.returned (some (Value.int z))) ((if_pos h_1).symm)), ht⟩) (fun q hq => by cases hq) dX3_error_29
  · 
    have h_1 : ¬ (0 ≤ p0 ∧ p0 ≤ 1) := ite10_0 h_1
    refine lv_bipush (v := (-102)) E.1 E.2.1 dX3_error_9 (by decide) ?_
    exact W.iret (v := (-102)) E.1 E.2.1 hr (fun t ht _ => ⟨(congrArg (fun z : Int32 => Outcome.returned (some (Value.int z))) ((if_neg (fun h9 => h_1 (h9))).symm)), ht⟩) (fun q hq => by cases hq) dX3_error_11
set_option maxHeartbeats 4000000 in
set_option maxRecDepth 100000 in
/-- winters of a fresh object -/
theorem z_X3_winters (l : Launch) (D : va_G) (cI cB : ClassId) (ad : Nat → Nat) (gl : Nat → Int64) (p0 : Int32) (p1 : Int32) (p2 : Int32) : Met l yX3_winters wsX3_winters ({ frames := 1, cells := 0, slots := 0, locals := 22 }) (GPc D cI cB (wM cI cB ad z0 gl zz) [.ref (ad 0), .int p0, .int p1, .int p2]) (QcRead (if (1 ≤ p0 ∧ p0 ≤ 60) ∧ (¬ p1 < 0) ∧ (0 ≤ p2 ∧ p2 ≤ 2) then (-103) else (-102))) 0 0 (fun _ => False) := by
  refine Met.ofW (cc := cX3_winters) (maxL := 4) (ret := (some .int)) (by decide) rfl ?_
  intro p e s m args below meth c s₁ B hml hv
  obtain ⟨rfl, hP, hK⟩ := hv
  have hts := atoms_spec (ws := wsX3_winters) B.pre
  have E : CallFix p m c cX3_winters 4 s _ wsX3_winters RX3 := ⟨B.exec, B.bytes, hml, findClass_of_methodNamed B.named, hts⟩
  have hr := B.returns
  have hlocks := B.notSynchronized
  have in_3 : ∀ w ∈ wsX30, w ∈ wsX3_winters := fun _ h => List.mem_cons_of_mem _ (List.mem_append_right _ h)
  have w_0 : (Cond.fieldLink RX3 94 "SnowTermModel" "sites" "I").before _ s = true := hts _ (by decide +kernel)
  have hl := lv_entry ([.ref (ad 0), .int p0, .int p1, .int p2]) (n := 4) (Nat.le_of_ble_eq_true rfl)
  rw [lg_entry_eq]
  generalize (lg_sl ([.ref (ad 0), .int p0, .int p1, .int p2]) ++ List.replicate (4 - (lg_sl ([.ref (ad 0), .int p0, .int p1, .int p2])).length) Slot.unset).toArray = ls at hl ⊢
  have hl : lv_has ls 4 [(0, .ref (ad 0)), (1, .int p0), (2, .int p1), (3, .int p2)] := hl
  refine lv_iload_n E.1 E.2.1 dX3_winters_0 rfl (lv_at hl 1 rfl) ?_
  refine lv_iconst (v := 1) E.1 E.2.1 dX3_winters_1 (by decide) ?_
  refine lv_bipush (v := 60) E.1 E.2.1 dX3_winters_2 (by decide) ?_
  refine g_SR (As := [.int p0, .int 1, .int 60]) (rest := []) E hK (m_within l D cI cB p0 1 60) (va_cwS 3 E.2.2.2.2 gX3_winters_X3_within rfl rfl rfl (by decide +kernel) ⟨Nat.le_of_ble_eq_true rfl, Nat.le_of_ble_eq_true rfl⟩) rfl hl.1 rfl (by decide) dX3_winters_4 ⟨Nat.zero_le _, Nat.zero_le _⟩ ?_
  refine lv_if_eq (x := if 1 ≤ p0 ∧ p0 ≤ 60 then 1 else 0) (tgt := 23) E.1 E.2.1 dX3_winters_7 (by decide) (fun h_1 => ?_) (fun h_1 => ?_)
  · 
    have h_1 : ¬ (1 ≤ p0 ∧ p0 ≤ 60) := ite10_0 h_1
    refine lv_bipush (v := (-102)) E.1 E.2.1 dX3_winters_23 (by decide) ?_
    exact W.iret (v := (-102)) E.1 E.2.1 hr (fun t ht _ => ⟨(congrArg (fun z : Int32 => Outcome.returned (some (Value.int z))) ((if_neg (fun h9 => h_1 (h9.1))).symm)), ht⟩) (fun q hq => by cases hq) dX3_winters_25
  · 
    have h_1 : 1 ≤ p0 ∧ p0 ≤ 60 := ite10_1 h_1
    refine lv_iload_n E.1 E.2.1 dX3_winters_10 rfl (lv_at hl 2 rfl) ?_
    refine lv_if_lt (x := p1) (tgt := 23) E.1 E.2.1 dX3_winters_11 (by decide) (fun h11 => ?_) (fun h11 => ?_)
    · 
      refine lv_bipush (v := (-102)) E.1 E.2.1 dX3_winters_23 (by decide) ?_
      exact W.iret (v := (-102)) E.1 E.2.1 hr (fun t ht _ => ⟨(congrArg (fun z : Int32 => Outcome.returned (some (Value.int z))) ((if_neg (fun h9 => (fun h8 => h8 h11) (h9.2.1))).symm)), ht⟩) (fun q hq => by cases hq) dX3_winters_25
    · 
      refine lv_iload_n E.1 E.2.1 dX3_winters_14 rfl (lv_at hl 3 rfl) ?_
      refine lv_iconst (v := 0) E.1 E.2.1 dX3_winters_15 (by decide) ?_
      refine lv_iconst (v := 2) E.1 E.2.1 dX3_winters_16 (by decide) ?_
      refine g_SR (As := [.int p2, .int 0, .int 2]) (rest := []) E hK (m_within l D cI cB p2 0 2) (va_cwS 3 E.2.2.2.2 gX3_winters_X3_within rfl rfl rfl (by decide +kernel) ⟨Nat.le_of_ble_eq_true rfl, Nat.le_of_ble_eq_true rfl⟩) rfl hl.1 rfl (by decide) dX3_winters_17 ⟨Nat.zero_le _, Nat.zero_le _⟩ ?_
      refine lv_if_ne (x := if 0 ≤ p2 ∧ p2 ≤ 2 then 1 else 0) (tgt := 26) E.1 E.2.1 dX3_winters_20 (by decide) (fun h_2 => ?_) (fun h_2 => ?_)
      · 
        have h_2 : 0 ≤ p2 ∧ p2 ≤ 2 := ite10_1 h_2
        refine lv_aload_n E.1 E.2.1 dX3_winters_26 rfl (lv_at hl 0 rfl) ?_
        refine mg_0_1 E hK hP in_3 w_0 dX3_winters_27 ?_
        refine lv_if_ne (x := 0) (tgt := 38) E.1 E.2.1 dX3_winters_30 (by decide) (fun h9 => absurd (by decide) h9) (fun _ => ?_)
        refine lv_bipush (v := (-103)) E.1 E.2.1 dX3_winters_33 (by decide) ?_
        refine lv_goto (tgt := 45) E.1 E.2.1 dX3_winters_35 (by decide) ?_
        exact W.iret (v := (-103)) E.1 E.2.1 hr (fun t ht _ => ⟨(congrArg (fun z : Int32 => Outcome.returned (some (Value.int z))) ((if_pos ⟨h_1, h11, h_2⟩).symm)), ht⟩) (fun q hq => by cases hq) dX3_winters_45
      · 
        have h_2 : ¬ (0 ≤ p2 ∧ p2 ≤ 2) := ite10_0 h_2
        refine lv_bipush (v := (-102)) E.1 E.2.1 dX3_winters_23 (by decide) ?_
        exact W.iret (v := (-102)) E.1 E.2.1 hr (fun t ht _ => ⟨(congrArg (fun z : Int32 => Outcome.returned (some (Value.int z))) ((if_neg (fun h9 => h_2 (h9.2.2))).symm)), ht⟩) (fun q hq => by cases hq) dX3_winters_25
set_option maxHeartbeats 4000000 in
set_option maxRecDepth 100000 in
/-- forget of a fresh object -/
theorem z_X3_forget (l : Launch) (D : va_G) (cI cB : ClassId) (ad : Nat → Nat) (gl : Nat → Int64) (hI : wI 20 ad)  : Met l yX3_forget wsX3_forget ({ frames := 0, cells := 0, slots := 0, locals := 0 }) (GPc D cI cB (wM cI cB ad z0 gl zz) [.ref (ad 0)]) (va_Qi (fun (r : Int32) (_ : Unit) => r = 0) (fun _ t => va_P D vwCl [] t.heap) (wA 20 ad)) 0 0 (wA 20 ad) := by
  refine Met.ofW (cc := cX3_forget) (maxL := 2) (ret := (some .int)) (by decide) rfl ?_
  intro p e s m args below meth c s₁ B hml hv
  obtain ⟨rfl, hP, hK⟩ := hv
  have hts := atoms_spec (ws := wsX3_forget) B.pre
  have E : CallFix p m c cX3_forget 2 s _ wsX3_forget RX3 := ⟨B.exec, B.bytes, hml, findClass_of_methodNamed B.named, hts⟩
  have hr := B.returns
  have hlocks := B.notSynchronized
  have hS : va_S (wA 20 ad) s.heap s.heap [] := va_S.rf
  have in_3 : ∀ w ∈ wsX30, w ∈ wsX3_forget := fun _ h => List.mem_cons_of_mem _ (List.mem_append_right _ h)
  have w_0 : (Cond.fieldLink RX3 112 "SnowTermModel" "found" "I").before _ s = true := hts _ (by decide +kernel)
  have hl := lv_entry ([.ref (ad 0)]) (n := 2) (Nat.le_of_ble_eq_true rfl)
  rw [lg_entry_eq]
  generalize (lg_sl ([.ref (ad 0)]) ++ List.replicate (2 - (lg_sl ([.ref (ad 0)])).length) Slot.unset).toArray = ls at hl ⊢
  have hl : lv_has ls 2 [(0, .ref (ad 0))] := hl
  refine lv_aload_n E.1 E.2.1 dX3_forget_0 rfl (lv_at hl 0 rfl) ?_
  refine mg_0_12 E hK hP in_3 w_0 dX3_forget_1 ?_
  refine lv_istore_n (lv' := [(1, .int 0), (0, .ref (ad 0))]) E.1 E.2.1 dX3_forget_4 rfl hl (by decide) rfl (fun ls hl => ?_)
  refine lv_aload_n E.1 E.2.1 dX3_forget_5 rfl (lv_at hl 1 rfl) ?_
  refine lv_iconst (v := 0) E.1 E.2.1 dX3_forget_6 (by decide) ?_
  refine mp_0_12 (v := 0) E hK hP in_3 w_0 hI hS dX3_forget_7 (fun H locs hP hS => ?_)
  refine lv_iload_n E.1 E.2.1 dX3_forget_10 rfl (lv_at hl 0 rfl) ?_
  exact W.iret (v := 0) E.1 E.2.1 hr (fun t ht _ => ⟨⟨0, (), rfl, rfl, fun _ _ h => by simp at h⟩, hS.F ht⟩) hS.2.2 dX3_forget_11
set_option maxHeartbeats 4000000 in
set_option maxRecDepth 100000 in
/-- suns of a fresh object -/
theorem z_X3_suns (l : Launch) (D : va_G) (cI cB : ClassId) (ad : Nat → Nat) (gl : Nat → Int64)  : Met l yX3_suns wsX3_suns ({ frames := 0, cells := 0, slots := 0, locals := 0 }) (GPc D cI cB (wM cI cB ad z0 gl zz) [.ref (ad 0)]) (QcRead ((-103))) 0 0 (fun _ => False) := by
  refine Met.ofW (cc := cX3_suns) (maxL := 1) (ret := (some .int)) (by decide) rfl ?_
  intro p e s m args below meth c s₁ B hml hv
  obtain ⟨rfl, hP, hK⟩ := hv
  have hts := atoms_spec (ws := wsX3_suns) B.pre
  have E : CallFix p m c cX3_suns 1 s _ wsX3_suns RX3 := ⟨B.exec, B.bytes, hml, findClass_of_methodNamed B.named, hts⟩
  have hr := B.returns
  have hlocks := B.notSynchronized
  have in_3 : ∀ w ∈ wsX30, w ∈ wsX3_suns := fun _ h => List.mem_cons_of_mem _ (List.mem_append_right _ h)
  have w_0 : (Cond.fieldLink RX3 94 "SnowTermModel" "sites" "I").before _ s = true := hts _ (by decide +kernel)
  have hl := lv_entry ([.ref (ad 0)]) (n := 1) (Nat.le_of_ble_eq_true rfl)
  rw [lg_entry_eq]
  generalize (lg_sl ([.ref (ad 0)]) ++ List.replicate (1 - (lg_sl ([.ref (ad 0)])).length) Slot.unset).toArray = ls at hl ⊢
  have hl : lv_has ls 1 [(0, .ref (ad 0))] := hl
  refine lv_aload_n E.1 E.2.1 dX3_suns_0 rfl (lv_at hl 0 rfl) ?_
  refine mg_0_1 E hK hP in_3 w_0 dX3_suns_1 ?_
  refine lv_if_ne (x := 0) (tgt := 12) E.1 E.2.1 dX3_suns_4 (by decide) (fun h9 => absurd (by decide) h9) (fun _ => ?_)
  refine lv_bipush (v := (-103)) E.1 E.2.1 dX3_suns_7 (by decide) ?_
  refine lv_goto (tgt := 16) E.1 E.2.1 dX3_suns_9 (by decide) ?_
  exact W.iret (v := (-103)) E.1 E.2.1 hr (fun t ht _ => ⟨rfl, ht⟩) (fun q hq => by cases hq) dX3_suns_16
set_option maxHeartbeats 4000000 in
set_option maxRecDepth 100000 in
/-- look of a fresh object -/
theorem z_X3_look (l : Launch) (D : va_G) (cI cB : ClassId) (ad : Nat → Nat) (gl : Nat → Int64)  : Met l yX3_look wsX3_look ({ frames := 0, cells := 0, slots := 0, locals := 0 }) (GPc D cI cB (wM cI cB ad z0 gl zz) [.ref (ad 0)]) (QcRead ((-103))) 0 0 (fun _ => False) := by
  refine Met.ofW (cc := cX3_look) (maxL := 1) (ret := (some .int)) (by decide) rfl ?_
  intro p e s m args below meth c s₁ B hml hv
  obtain ⟨rfl, hP, hK⟩ := hv
  have hts := atoms_spec (ws := wsX3_look) B.pre
  have E : CallFix p m c cX3_look 1 s _ wsX3_look RX3 := ⟨B.exec, B.bytes, hml, findClass_of_methodNamed B.named, hts⟩
  have hr := B.returns
  have hlocks := B.notSynchronized
  have in_3 : ∀ w ∈ wsX30, w ∈ wsX3_look := fun _ h => List.mem_cons_of_mem _ (List.mem_append_right _ h)
  have w_0 : (Cond.fieldLink RX3 94 "SnowTermModel" "sites" "I").before _ s = true := hts _ (by decide +kernel)
  have hl := lv_entry ([.ref (ad 0)]) (n := 1) (Nat.le_of_ble_eq_true rfl)
  rw [lg_entry_eq]
  generalize (lg_sl ([.ref (ad 0)]) ++ List.replicate (1 - (lg_sl ([.ref (ad 0)])).length) Slot.unset).toArray = ls at hl ⊢
  have hl : lv_has ls 1 [(0, .ref (ad 0))] := hl
  refine lv_aload_n E.1 E.2.1 dX3_look_0 rfl (lv_at hl 0 rfl) ?_
  refine mg_0_1 E hK hP in_3 w_0 dX3_look_1 ?_
  refine lv_if_ne (x := 0) (tgt := 12) E.1 E.2.1 dX3_look_4 (by decide) (fun h9 => absurd (by decide) h9) (fun _ => ?_)
  refine lv_bipush (v := (-103)) E.1 E.2.1 dX3_look_7 (by decide) ?_
  refine lv_goto (tgt := 16) E.1 E.2.1 dX3_look_9 (by decide) ?_
  exact W.iret (v := (-103)) E.1 E.2.1 hr (fun t ht _ => ⟨rfl, ht⟩) (fun q hq => by cases hq) dX3_look_16
set_option maxHeartbeats 4000000 in
set_option maxRecDepth 100000 in
/-- image of a fresh object -/
theorem z_X3_image (l : Launch) (D : va_G) (cI cB : ClassId) (ad : Nat → Nat) (gl : Nat → Int64)  : Met l yX3_image wsX3_image ({ frames := 0, cells := 0, slots := 0, locals := 0 }) (GPc D cI cB (wM cI cB ad z0 gl zz) [.ref (ad 0)]) (QcRead ((-103))) 0 0 (fun _ => False) := by
  refine Met.ofW (cc := cX3_image) (maxL := 2) (ret := (some .int)) (by decide) rfl ?_
  intro p e s m args below meth c s₁ B hml hv
  obtain ⟨rfl, hP, hK⟩ := hv
  have hts := atoms_spec (ws := wsX3_image) B.pre
  have E : CallFix p m c cX3_image 2 s _ wsX3_image RX3 := ⟨B.exec, B.bytes, hml, findClass_of_methodNamed B.named, hts⟩
  have hr := B.returns
  have hlocks := B.notSynchronized
  have in_3 : ∀ w ∈ wsX30, w ∈ wsX3_image := fun _ h => List.mem_cons_of_mem _ (List.mem_append_right _ h)
  have w_0 : (Cond.fieldLink RX3 94 "SnowTermModel" "sites" "I").before _ s = true := hts _ (by decide +kernel)
  have hl := lv_entry ([.ref (ad 0)]) (n := 2) (Nat.le_of_ble_eq_true rfl)
  rw [lg_entry_eq]
  generalize (lg_sl ([.ref (ad 0)]) ++ List.replicate (2 - (lg_sl ([.ref (ad 0)])).length) Slot.unset).toArray = ls at hl ⊢
  have hl : lv_has ls 2 [(0, .ref (ad 0))] := hl
  refine lv_aload_n E.1 E.2.1 dX3_image_0 rfl (lv_at hl 0 rfl) ?_
  refine mg_0_1 E hK hP in_3 w_0 dX3_image_1 ?_
  refine lv_if_ne (x := 0) (tgt := 10) E.1 E.2.1 dX3_image_4 (by decide) (fun h9 => absurd (by decide) h9) (fun _ => ?_)
  refine lv_bipush (v := (-103)) E.1 E.2.1 dX3_image_7 (by decide) ?_
  exact W.iret (v := (-103)) E.1 E.2.1 hr (fun t ht _ => ⟨rfl, ht⟩) (fun q hq => by cases hq) dX3_image_9
set_option maxHeartbeats 4000000 in
set_option maxRecDepth 100000 in
/-- restore of a fresh object -/
theorem z_X3_restore (l : Launch) (D : va_G) (cI cB : ClassId) (ad : Nat → Nat) (gl : Nat → Int64)  : Met l yX3_restore wsX3_restore ({ frames := 0, cells := 0, slots := 0, locals := 0 }) (GPc D cI cB (wM cI cB ad z0 gl zz) [.ref (ad 0)]) (QcRead ((-103))) 0 0 (fun _ => False) := by
  refine Met.ofW (cc := cX3_restore) (maxL := 2) (ret := (some .int)) (by decide) rfl ?_
  intro p e s m args below meth c s₁ B hml hv
  obtain ⟨rfl, hP, hK⟩ := hv
  have hts := atoms_spec (ws := wsX3_restore) B.pre
  have E : CallFix p m c cX3_restore 2 s _ wsX3_restore RX3 := ⟨B.exec, B.bytes, hml, findClass_of_methodNamed B.named, hts⟩
  have hr := B.returns
  have hlocks := B.notSynchronized
  have in_3 : ∀ w ∈ wsX30, w ∈ wsX3_restore := fun _ h => List.mem_cons_of_mem _ (List.mem_append_right _ h)
  have w_0 : (Cond.fieldLink RX3 208 "SnowTermModel" "isImage" "Z").before _ s = true := hts _ (by decide +kernel)
  have hl := lv_entry ([.ref (ad 0)]) (n := 2) (Nat.le_of_ble_eq_true rfl)
  rw [lg_entry_eq]
  generalize (lg_sl ([.ref (ad 0)]) ++ List.replicate (2 - (lg_sl ([.ref (ad 0)])).length) Slot.unset).toArray = ls at hl ⊢
  have hl : lv_has ls 2 [(0, .ref (ad 0))] := hl
  refine lv_aload_n E.1 E.2.1 dX3_restore_0 rfl (lv_at hl 0 rfl) ?_
  refine mg_0_25 E hK hP in_3 w_0 dX3_restore_1 ?_
  refine lv_if_eq (x := 0) (tgt := 18) E.1 E.2.1 dX3_restore_4 (by decide) (fun _ => ?_) (fun h9 => absurd (by decide) h9)
  refine lv_bipush (v := (-103)) E.1 E.2.1 dX3_restore_18 (by decide) ?_
  exact W.iret (v := (-103)) E.1 E.2.1 hr (fun t ht _ => ⟨rfl, ht⟩) (fun q hq => by cases hq) dX3_restore_20
set_option maxHeartbeats 4000000 in
set_option maxRecDepth 100000 in
/-- keptNow of a fresh object -/
theorem z_X3_keptNow (l : Launch) (D : va_G) (cI cB : ClassId) (ad : Nat → Nat) (gl : Nat → Int64)  : Met l yX3_keptNow wsX3_keptNow ({ frames := 0, cells := 0, slots := 0, locals := 0 }) (GPc D cI cB (wM cI cB ad z0 gl zz) [.ref (ad 0)]) (QcRead (0)) 0 0 (fun _ => False) := by
  refine Met.ofW (cc := cX3_keptNow) (maxL := 3) (ret := (some .int)) (by decide) rfl ?_
  intro p e s m args below meth c s₁ B hml hv
  obtain ⟨rfl, hP, hK⟩ := hv
  have hts := atoms_spec (ws := wsX3_keptNow) B.pre
  have E : CallFix p m c cX3_keptNow 3 s _ wsX3_keptNow RX3 := ⟨B.exec, B.bytes, hml, findClass_of_methodNamed B.named, hts⟩
  have hr := B.returns
  have hlocks := B.notSynchronized
  have in_3 : ∀ w ∈ wsX30, w ∈ wsX3_keptNow := fun _ h => List.mem_cons_of_mem _ (List.mem_append_right _ h)
  have w_0 : (Cond.fieldLink RX3 94 "SnowTermModel" "sites" "I").before _ s = true := hts _ (by decide +kernel)
  have hl := lv_entry ([.ref (ad 0)]) (n := 3) (Nat.le_of_ble_eq_true rfl)
  rw [lg_entry_eq]
  generalize (lg_sl ([.ref (ad 0)]) ++ List.replicate (3 - (lg_sl ([.ref (ad 0)])).length) Slot.unset).toArray = ls at hl ⊢
  have hl : lv_has ls 3 [(0, .ref (ad 0))] := hl
  refine lv_iconst (v := 0) E.1 E.2.1 dX3_keptNow_0 (by decide) ?_
  refine lv_istore_n (lv' := [(1, .int 0), (0, .ref (ad 0))]) E.1 E.2.1 dX3_keptNow_1 rfl hl (by decide) rfl (fun ls hl => ?_)
  refine lv_iconst (v := 0) E.1 E.2.1 dX3_keptNow_2 (by decide) ?_
  refine lv_istore_n (lv' := [(2, .int 0), (1, .int 0), (0, .ref (ad 0))]) E.1 E.2.1 dX3_keptNow_3 rfl hl (by decide) rfl (fun ls hl => ?_)
  refine lv_iload_n E.1 E.2.1 dX3_keptNow_4 rfl (lv_at hl 0 rfl) ?_
  refine lv_aload_n E.1 E.2.1 dX3_keptNow_5 rfl (lv_at hl 2 rfl) ?_
  refine mg_0_1 E hK hP in_3 w_0 dX3_keptNow_6 ?_
  refine lv_icmp_ge (x := 0) (y := 0) (tgt := 40) E.1 E.2.1 dX3_keptNow_9 (by decide) (fun _ => ?_) (fun h9 => absurd (by decide) h9)
  refine lv_iload_n E.1 E.2.1 dX3_keptNow_40 rfl (lv_at hl 1 rfl) ?_
  exact W.iret (v := 0) E.1 E.2.1 hr (fun t ht _ => ⟨rfl, ht⟩) (fun q hq => by cases hq) dX3_keptNow_41
set_option maxHeartbeats 4000000 in
set_option maxRecDepth 100000 in
/-- snowAll of a fresh object -/
theorem z_X3_snowAll (l : Launch) (D : va_G) (cI cB : ClassId) (ad : Nat → Nat) (gl : Nat → Int64)  : Met l yX3_snowAll wsX3_snowAll ({ frames := 0, cells := 0, slots := 0, locals := 0 }) (GPc D cI cB (wM cI cB ad z0 gl zz) [.ref (ad 0)]) (QcRead (0)) 0 0 (fun _ => False) := by
  refine Met.ofW (cc := cX3_snowAll) (maxL := 3) (ret := (some .int)) (by decide) rfl ?_
  intro p e s m args below meth c s₁ B hml hv
  obtain ⟨rfl, hP, hK⟩ := hv
  have hts := atoms_spec (ws := wsX3_snowAll) B.pre
  have E : CallFix p m c cX3_snowAll 3 s _ wsX3_snowAll RX3 := ⟨B.exec, B.bytes, hml, findClass_of_methodNamed B.named, hts⟩
  have hr := B.returns
  have hlocks := B.notSynchronized
  have in_3 : ∀ w ∈ wsX30, w ∈ wsX3_snowAll := fun _ h => List.mem_cons_of_mem _ (List.mem_append_right _ h)
  have w_0 : (Cond.fieldLink RX3 94 "SnowTermModel" "sites" "I").before _ s = true := hts _ (by decide +kernel)
  have hl := lv_entry ([.ref (ad 0)]) (n := 3) (Nat.le_of_ble_eq_true rfl)
  rw [lg_entry_eq]
  generalize (lg_sl ([.ref (ad 0)]) ++ List.replicate (3 - (lg_sl ([.ref (ad 0)])).length) Slot.unset).toArray = ls at hl ⊢
  have hl : lv_has ls 3 [(0, .ref (ad 0))] := hl
  refine lv_iconst (v := 0) E.1 E.2.1 dX3_snowAll_0 (by decide) ?_
  refine lv_istore_n (lv' := [(1, .int 0), (0, .ref (ad 0))]) E.1 E.2.1 dX3_snowAll_1 rfl hl (by decide) rfl (fun ls hl => ?_)
  refine lv_iconst (v := 0) E.1 E.2.1 dX3_snowAll_2 (by decide) ?_
  refine lv_istore_n (lv' := [(2, .int 0), (1, .int 0), (0, .ref (ad 0))]) E.1 E.2.1 dX3_snowAll_3 rfl hl (by decide) rfl (fun ls hl => ?_)
  refine lv_iload_n E.1 E.2.1 dX3_snowAll_4 rfl (lv_at hl 0 rfl) ?_
  refine lv_aload_n E.1 E.2.1 dX3_snowAll_5 rfl (lv_at hl 2 rfl) ?_
  refine mg_0_1 E hK hP in_3 w_0 dX3_snowAll_6 ?_
  refine lv_icmp_ge (x := 0) (y := 0) (tgt := 27) E.1 E.2.1 dX3_snowAll_9 (by decide) (fun _ => ?_) (fun h9 => absurd (by decide) h9)
  refine lv_iload_n E.1 E.2.1 dX3_snowAll_27 rfl (lv_at hl 1 rfl) ?_
  exact W.iret (v := 0) E.1 E.2.1 hr (fun t ht _ => ⟨rfl, ht⟩) (fun q hq => by cases hq) dX3_snowAll_28
set_option maxHeartbeats 4000000 in
set_option maxRecDepth 100000 in
/-- howMany of a fresh object -/
theorem z_X3_howMany (l : Launch) (D : va_G) (cI cB : ClassId) (ad : Nat → Nat) (gl : Nat → Int64) (p0 : Int32) : Met l yX3_howMany wsX3_howMany ({ frames := 1, cells := 0, slots := 0, locals := 22 }) (GPc D cI cB (wM cI cB ad z0 gl zz) [.ref (ad 0), .int p0]) (QcRead (if 0 ≤ p0 ∧ p0 ≤ 9 then 0 else (-102))) 0 0 (fun _ => False) := by
  refine Met.ofW (cc := cX3_howMany) (maxL := 2) (ret := (some .int)) (by decide) rfl ?_
  intro p e s m args below meth c s₁ B hml hv
  obtain ⟨rfl, hP, hK⟩ := hv
  have hts := atoms_spec (ws := wsX3_howMany) B.pre
  have E : CallFix p m c cX3_howMany 2 s _ wsX3_howMany RX3 := ⟨B.exec, B.bytes, hml, findClass_of_methodNamed B.named, hts⟩
  have hr := B.returns
  have hlocks := B.notSynchronized
  have in_3 : ∀ w ∈ wsX30, w ∈ wsX3_howMany := fun _ h => List.mem_cons_of_mem _ (List.mem_append_right _ h)
  have w_0 : (Cond.fieldLink RX3 94 "SnowTermModel" "sites" "I").before _ s = true := hts _ (by decide +kernel)
  have w_1 : (Cond.fieldLink RX3 97 "SnowTermModel" "sunNow" "I").before _ s = true := hts _ (by decide +kernel)
  have w_2 : (Cond.fieldLink RX3 103 "SnowTermModel" "days" "I").before _ s = true := hts _ (by decide +kernel)
  have w_3 : (Cond.fieldLink RX3 106 "SnowTermModel" "praise" "I").before _ s = true := hts _ (by decide +kernel)
  have w_4 : (Cond.fieldLink RX3 109 "SnowTermModel" "cost" "I").before _ s = true := hts _ (by decide +kernel)
  have w_5 : (Cond.fieldLink RX3 112 "SnowTermModel" "found" "I").before _ s = true := hts _ (by decide +kernel)
  have w_6 : (Cond.fieldLink RX3 72 "SnowTermModel" "pageLength" "I").before _ s = true := hts _ (by decide +kernel)
  have w_7 : (Cond.fieldLink RX3 100 "SnowTermModel" "cities" "I").before _ s = true := hts _ (by decide +kernel)
  have hl := lv_entry ([.ref (ad 0), .int p0]) (n := 2) (Nat.le_of_ble_eq_true rfl)
  rw [lg_entry_eq]
  generalize (lg_sl ([.ref (ad 0), .int p0]) ++ List.replicate (2 - (lg_sl ([.ref (ad 0), .int p0])).length) Slot.unset).toArray = ls at hl ⊢
  have hl : lv_has ls 2 [(0, .ref (ad 0)), (1, .int p0)] := hl
  refine lv_iload_n E.1 E.2.1 dX3_howMany_0 rfl (lv_at hl 1 rfl) ?_
  by_cases hc : 0 ≤ p0 ∧ p0 ≤ 9
  · rw [if_pos hc]
    rcases sw_in9 hc with rfl | rfl | rfl | rfl | rfl | rfl | rfl | rfl | rfl | rfl
    · 
      refine lv_tableIn (x := 0) (off := 55) (tgt := 56) E.1 E.2.1 dX3_howMany_1 (by decide) (by decide) (by decide) (by decide) ?_
      refine lv_aload_n E.1 E.2.1 dX3_howMany_56 rfl (lv_at hl 0 rfl) ?_
      refine mg_0_1 E hK hP in_3 w_0 dX3_howMany_57 ?_
      exact W.iret (v := 0) E.1 E.2.1 hr (fun t ht _ => ⟨rfl, ht⟩) (fun q hq => by cases hq) dX3_howMany_60
    · 
      refine lv_tableIn (x := 1) (off := 60) (tgt := 61) E.1 E.2.1 dX3_howMany_1 (by decide) (by decide) (by decide) (by decide) ?_
      refine lv_aload_n E.1 E.2.1 dX3_howMany_61 rfl (lv_at hl 0 rfl) ?_
      refine mg_0_8 E hK hP in_3 w_1 dX3_howMany_62 ?_
      exact W.iret (v := 0) E.1 E.2.1 hr (fun t ht _ => ⟨rfl, ht⟩) (fun q hq => by cases hq) dX3_howMany_65
    · 
      refine lv_tableIn (x := 2) (off := 65) (tgt := 66) E.1 E.2.1 dX3_howMany_1 (by decide) (by decide) (by decide) (by decide) ?_
      refine lv_aload_n E.1 E.2.1 dX3_howMany_66 rfl (lv_at hl 0 rfl) ?_
      refine mg_0_9 E hK hP in_3 w_2 dX3_howMany_67 ?_
      exact W.iret (v := 0) E.1 E.2.1 hr (fun t ht _ => ⟨rfl, ht⟩) (fun q hq => by cases hq) dX3_howMany_70
    · 
      refine lv_tableIn (x := 3) (off := 70) (tgt := 71) E.1 E.2.1 dX3_howMany_1 (by decide) (by decide) (by decide) (by decide) ?_
      refine lv_aload_n E.1 E.2.1 dX3_howMany_71 rfl (lv_at hl 0 rfl) ?_
      refine g_VR (As := []) (rest := []) E hK hP (z_X3_snowAll l D cI cB ad gl) (cwV 0 E.2.2.2.2 gX3_howMany_X3_snowAll rfl rfl rfl (by decide +kernel) ⟨Nat.le_of_ble_eq_true rfl, Nat.le_of_ble_eq_true rfl⟩) (rm0x hK hP) rfl hl.1 rfl (by decide) dX3_howMany_72 ⟨Nat.zero_le _, Nat.zero_le _⟩ ?_
      exact W.iret (v := 0) E.1 E.2.1 hr (fun t ht _ => ⟨rfl, ht⟩) (fun q hq => by cases hq) dX3_howMany_75
    · 
      refine lv_tableIn (x := 4) (off := 75) (tgt := 76) E.1 E.2.1 dX3_howMany_1 (by decide) (by decide) (by decide) (by decide) ?_
      refine lv_aload_n E.1 E.2.1 dX3_howMany_76 rfl (lv_at hl 0 rfl) ?_
      refine g_VR (As := []) (rest := []) E hK hP (z_X3_keptNow l D cI cB ad gl) (cwV 0 E.2.2.2.2 gX3_howMany_X3_keptNow rfl rfl rfl (by decide +kernel) ⟨Nat.le_of_ble_eq_true rfl, Nat.le_of_ble_eq_true rfl⟩) (rm0x hK hP) rfl hl.1 rfl (by decide) dX3_howMany_77 ⟨Nat.zero_le _, Nat.zero_le _⟩ ?_
      exact W.iret (v := 0) E.1 E.2.1 hr (fun t ht _ => ⟨rfl, ht⟩) (fun q hq => by cases hq) dX3_howMany_80
    · 
      refine lv_tableIn (x := 5) (off := 80) (tgt := 81) E.1 E.2.1 dX3_howMany_1 (by decide) (by decide) (by decide) (by decide) ?_
      refine lv_aload_n E.1 E.2.1 dX3_howMany_81 rfl (lv_at hl 0 rfl) ?_
      refine mg_0_10 E hK hP in_3 w_3 dX3_howMany_82 ?_
      exact W.iret (v := 0) E.1 E.2.1 hr (fun t ht _ => ⟨rfl, ht⟩) (fun q hq => by cases hq) dX3_howMany_85
    · 
      refine lv_tableIn (x := 6) (off := 85) (tgt := 86) E.1 E.2.1 dX3_howMany_1 (by decide) (by decide) (by decide) (by decide) ?_
      refine lv_aload_n E.1 E.2.1 dX3_howMany_86 rfl (lv_at hl 0 rfl) ?_
      refine mg_0_11 E hK hP in_3 w_4 dX3_howMany_87 ?_
      exact W.iret (v := 0) E.1 E.2.1 hr (fun t ht _ => ⟨rfl, ht⟩) (fun q hq => by cases hq) dX3_howMany_90
    · 
      refine lv_tableIn (x := 7) (off := 90) (tgt := 91) E.1 E.2.1 dX3_howMany_1 (by decide) (by decide) (by decide) (by decide) ?_
      refine lv_aload_n E.1 E.2.1 dX3_howMany_91 rfl (lv_at hl 0 rfl) ?_
      refine mg_0_12 E hK hP in_3 w_5 dX3_howMany_92 ?_
      exact W.iret (v := 0) E.1 E.2.1 hr (fun t ht _ => ⟨rfl, ht⟩) (fun q hq => by cases hq) dX3_howMany_95
    · 
      refine lv_tableIn (x := 8) (off := 95) (tgt := 96) E.1 E.2.1 dX3_howMany_1 (by decide) (by decide) (by decide) (by decide) ?_
      refine lv_aload_n E.1 E.2.1 dX3_howMany_96 rfl (lv_at hl 0 rfl) ?_
      refine mg_0_16 E hK hP in_3 w_6 dX3_howMany_97 ?_
      exact W.iret (v := 0) E.1 E.2.1 hr (fun t ht _ => ⟨rfl, ht⟩) (fun q hq => by cases hq) dX3_howMany_100
    · 
      refine lv_tableIn (x := 9) (off := 100) (tgt := 101) E.1 E.2.1 dX3_howMany_1 (by decide) (by decide) (by decide) (by decide) ?_
      refine lv_aload_n E.1 E.2.1 dX3_howMany_101 rfl (lv_at hl 0 rfl) ?_
      refine mg_0_0 E hK hP in_3 w_7 dX3_howMany_102 ?_
      exact W.iret (v := 0) E.1 E.2.1 hr (fun t ht _ => ⟨rfl, ht⟩) (fun q hq => by cases hq) dX3_howMany_105
  · rw [if_neg hc]
    refine lv_tableOut (x := p0) (tgt := 106) E.1 E.2.1 dX3_howMany_1 (sw_out9 hc) (by decide) ?_
    refine lv_bipush (v := (-102)) E.1 E.2.1 dX3_howMany_106 (by decide) ?_
    exact W.iret (v := (-102)) E.1 E.2.1 hr (fun t ht _ => ⟨rfl, ht⟩) (fun q hq => by cases hq) dX3_howMany_108
set_option maxHeartbeats 4000000 in
set_option maxRecDepth 100000 in
/-- count of a fresh object -/
theorem z_X3_count (l : Launch) (D : va_G) (cI cB : ClassId) (ad : Nat → Nat) (gl : Nat → Int64) (p0 : Int32) : Met l yX3_count wsX3_count ({ frames := 2, cells := 0, slots := 0, locals := 43 }) (GPc D cI cB (wM cI cB ad z0 gl zz) [.ref (ad 0), .int p0]) (QcRead (if 0 ≤ p0 ∧ p0 ≤ 9 then 0 else (-102))) 0 0 (fun _ => False) := by
  refine Met.ofW (cc := cX3_count) (maxL := 2) (ret := (some .int)) (by decide) rfl ?_
  intro p e s m args below meth c s₁ B hml hv
  obtain ⟨rfl, hP, hK⟩ := hv
  have hts := atoms_spec (ws := wsX3_count) B.pre
  have E : CallFix p m c cX3_count 2 s _ wsX3_count RX3 := ⟨B.exec, B.bytes, hml, findClass_of_methodNamed B.named, hts⟩
  have hr := B.returns
  have hlocks := B.notSynchronized
  have hl := lv_entry ([.ref (ad 0), .int p0]) (n := 2) (Nat.le_of_ble_eq_true rfl)
  rw [lg_entry_eq]
  generalize (lg_sl ([.ref (ad 0), .int p0]) ++ List.replicate (2 - (lg_sl ([.ref (ad 0), .int p0])).length) Slot.unset).toArray = ls at hl ⊢
  have hl : lv_has ls 2 [(0, .ref (ad 0)), (1, .int p0)] := hl
  refine lv_aload_n E.1 E.2.1 dX3_count_0 rfl (lv_at hl 0 rfl) ?_
  refine lv_iload_n E.1 E.2.1 dX3_count_1 rfl (lv_at hl 1 rfl) ?_
  refine g_VR (As := [.int p0]) (rest := []) E hK hP (z_X3_howMany l D cI cB ad gl p0) (cwV 1 E.2.2.2.2 gX3_count_X3_howMany rfl rfl rfl (by decide +kernel) ⟨Nat.le_of_ble_eq_true rfl, Nat.le_of_ble_eq_true rfl⟩) (rm0x hK hP) rfl hl.1 rfl (by decide) dX3_count_2 ⟨Nat.zero_le _, Nat.zero_le _⟩ ?_
  exact W.iret (v := if 0 ≤ p0 ∧ p0 ≤ 9 then 0 else (-102)) E.1 E.2.1 hr (fun t ht _ => ⟨rfl, ht⟩) (fun q hq => by cases hq) dX3_count_5
set_option maxHeartbeats 4000000 in
set_option maxRecDepth 100000 in
/-- h becomes 31 h + v -/
theorem c_mix (l : Launch) (D : va_G) (cI cB : ClassId) (ad : Nat → Nat) (g : Nat → Int32) (gl : Nat → Int64) (b : Nat → Nat → Int32) (hI : wI 20 ad) (p0 : Int64) : Met l yX3_mix wsX3_mix ({ frames := 0, cells := 0, slots := 0, locals := 0 }) (GPc D cI cB (wM cI cB ad g gl b) [.ref (ad 0), .long p0]) (va_Qv (fun u : Nat → Int64 => u = uL gl 39 (31 * gl 39 + p0)) (fun u t => va_P D vwCl (wM cI cB ad g u b) t.heap) (wA 20 ad)) 0 0 (wA 20 ad) := by
  refine Met.ofW (cc := cX3_mix) (maxL := 3) (ret := none) (by decide) rfl ?_
  intro p e s m args below meth c s₁ B hml hv
  obtain ⟨rfl, hP, hK⟩ := hv
  have hts := atoms_spec (ws := wsX3_mix) B.pre
  have E : CallFix p m c cX3_mix 3 s _ wsX3_mix RX3 := ⟨B.exec, B.bytes, hml, findClass_of_methodNamed B.named, hts⟩
  have hr := B.returns
  have hlocks := B.notSynchronized
  have hS : va_S (wA 20 ad) s.heap s.heap [] := va_S.rf
  have in_3 : ∀ w ∈ wsX30, w ∈ wsX3_mix := fun _ h => List.mem_cons_of_mem _ (List.mem_append_right _ h)
  have w_0 : (Cond.constantLong RX3 232 31).before _ s = true := hts _ (by decide +kernel)
  have w_1 : (Cond.fieldLink RX3 234 "SnowTermModel" "h" "J").before _ s = true := hts _ (by decide +kernel)
  have hl := lv_entry ([.ref (ad 0), .long p0]) (n := 3) (Nat.le_of_ble_eq_true rfl)
  rw [lg_entry_eq]
  generalize (lg_sl ([.ref (ad 0), .long p0]) ++ List.replicate (3 - (lg_sl ([.ref (ad 0), .long p0])).length) Slot.unset).toArray = ls at hl ⊢
  have hl : lv_has ls 3 [(0, .ref (ad 0)), (1, .long p0)] := hl
  refine lv_aload_n E.1 E.2.1 dX3_mix_0 rfl (lv_at hl 0 rfl) ?_
  refine lv_ldc2 (v := 31) E.1 E.2.1 E.2.2.2.1 w_0 dX3_mix_1 ?_
  refine lv_aload_n E.1 E.2.1 dX3_mix_4 rfl (lv_at hl 0 rfl) ?_
  refine mg_0_39 E hK hP in_3 w_1 dX3_mix_5 ?_
  refine lv_lmul E.1 E.2.1 dX3_mix_8 ?_
  refine lv_lload_n E.1 E.2.1 dX3_mix_9 rfl (lv_at hl 1 rfl) ?_
  refine lv_ladd E.1 E.2.1 dX3_mix_10 ?_
  refine mp_0_39 (v := (31 * (gl 39)) + p0) E hK hP in_3 w_1 hI hS dX3_mix_11 (fun H locs hP hS => ?_)
  exact W.vret E.1 E.2.1 hr (fun t ht _ => ⟨⟨(uL gl 39 ((31 * (gl 39)) + p0)), rfl, rfl, by subst ht; exact hP⟩, hS.F ht⟩) hS.2.2 dX3_mix_14
set_option maxHeartbeats 4000000 in
set_option maxRecDepth 100000 in
/-- digest of a fresh object -/
theorem z_X3_digest (l : Launch) (D : va_G) (cI cB : ClassId) (ad : Nat → Nat) (gl : Nat → Int64) (hI : wI 20 ad)  : Met l yX3_digest wsX3_digest ({ frames := 2, cells := 0, slots := 0, locals := 43 }) (GPc D cI cB (wM cI cB ad z0 gl zz) [.ref (ad 0)]) (va_Ql (fun (r : Int64) (_ : Unit) => r = 869625612486629861) (fun _ t => va_P D vwCl [] t.heap) (wA 20 ad)) 0 0 (wA 20 ad) := by
  refine Met.ofW (cc := cX3_digest) (maxL := 3) (ret := (some .long)) (by decide) rfl ?_
  intro p e s m args below meth c s₁ B hml hv
  obtain ⟨rfl, hP, hK⟩ := hv
  have hts := atoms_spec (ws := wsX3_digest) B.pre
  have E : CallFix p m c cX3_digest 3 s _ wsX3_digest RX3 := ⟨B.exec, B.bytes, hml, findClass_of_methodNamed B.named, hts⟩
  have hr := B.returns
  have hlocks := B.notSynchronized
  have hS : va_S (wA 20 ad) s.heap s.heap [] := va_S.rf
  have in_3 : ∀ w ∈ wsX30, w ∈ wsX3_digest := fun _ h => List.mem_cons_of_mem _ (List.mem_append_right _ h)
  have w_0 : (Cond.constantLong RX3 237 1061).before _ s = true := hts _ (by decide +kernel)
  have w_1 : (Cond.fieldLink RX3 234 "SnowTermModel" "h" "J").before _ s = true := hts _ (by decide +kernel)
  have w_2 : (Cond.fieldLink RX3 94 "SnowTermModel" "sites" "I").before _ s = true := hts _ (by decide +kernel)
  have w_3 : (Cond.fieldLink RX3 72 "SnowTermModel" "pageLength" "I").before _ s = true := hts _ (by decide +kernel)
  have hl := lv_entry ([.ref (ad 0)]) (n := 3) (Nat.le_of_ble_eq_true rfl)
  rw [lg_entry_eq]
  generalize (lg_sl ([.ref (ad 0)]) ++ List.replicate (3 - (lg_sl ([.ref (ad 0)])).length) Slot.unset).toArray = ls at hl ⊢
  have hl : lv_has ls 3 [(0, .ref (ad 0))] := hl
  refine lv_aload_n E.1 E.2.1 dX3_digest_0 rfl (lv_at hl 0 rfl) ?_
  refine lv_ldc2 (v := 1061) E.1 E.2.1 E.2.2.2.1 w_0 dX3_digest_1 ?_
  refine mp_0_39 (v := 1061) E hK hP in_3 w_1 hI hS dX3_digest_4 (fun H locs hP hS => ?_)
  refine lv_iconst (v := 0) E.1 E.2.1 dX3_digest_7 (by decide) ?_
  refine lv_istore_n (lv' := [(1, .int 0), (0, .ref (ad 0))]) E.1 E.2.1 dX3_digest_8 rfl hl (by decide) rfl (fun ls hl => ?_)
  refine lv_iload_n E.1 E.2.1 dX3_digest_9 rfl (lv_at hl 0 rfl) ?_
  refine lv_aload_n E.1 E.2.1 dX3_digest_10 rfl (lv_at hl 1 rfl) ?_
  refine mg_0_1 E hK hP in_3 w_2 dX3_digest_11 ?_
  refine lv_icmp_ge (x := 0) (y := 0) (tgt := 81) E.1 E.2.1 dX3_digest_14 (by decide) (fun _ => ?_) (fun h9 => absurd (by decide) h9)
  refine lv_aload_n E.1 E.2.1 dX3_digest_81 rfl (lv_at hl 1 rfl) ?_
  refine mg_0_1 E hK hP in_3 w_2 dX3_digest_82 ?_
  refine lv_if_le (x := 0) (tgt := 152) E.1 E.2.1 dX3_digest_85 (by decide) (fun _ => ?_) (fun h9 => absurd (by decide) h9)
  refine lv_iconst (v := 0) E.1 E.2.1 dX3_digest_152 (by decide) ?_
  refine lv_istore_n (lv' := [(1, .int 0), (0, .ref (ad 0))]) E.1 E.2.1 dX3_digest_153 rfl hl (by decide) rfl (fun ls hl => ?_)
  refine lv_iload_n E.1 E.2.1 dX3_digest_154 rfl (lv_at hl 0 rfl) ?_
  refine lv_aload_n E.1 E.2.1 dX3_digest_155 rfl (lv_at hl 1 rfl) ?_
  refine mg_0_16 E hK hP in_3 w_3 dX3_digest_156 ?_
  refine lv_icmp_ge (x := 0) (y := 0) (tgt := 179) E.1 E.2.1 dX3_digest_159 (by decide) (fun _ => ?_) (fun h9 => absurd (by decide) h9)
  refine lv_iconst (v := 0) E.1 E.2.1 dX3_digest_179 (by decide) ?_
  refine lv_istore_n (lv' := [(1, .int 0), (0, .ref (ad 0))]) E.1 E.2.1 dX3_digest_180 rfl hl (by decide) rfl (fun ls hl => ?_)
  refine lv_iload_n E.1 E.2.1 dX3_digest_181 rfl (lv_at hl 0 rfl) ?_
  refine lv_bipush (v := 10) E.1 E.2.1 dX3_digest_182 (by decide) ?_
  refine lv_icmp_ge (x := 0) (y := 10) (tgt := 203) E.1 E.2.1 dX3_digest_184 (by decide) (fun h9 => absurd h9 (by decide)) (fun _ => ?_)
  refine lv_aload_n E.1 E.2.1 dX3_digest_187 rfl (lv_at hl 1 rfl) ?_
  refine lv_aload_n E.1 E.2.1 dX3_digest_188 rfl (lv_at hl 1 rfl) ?_
  refine lv_iload_n E.1 E.2.1 dX3_digest_189 rfl (lv_at hl 0 rfl) ?_
  refine g_VR (As := [.int 0]) (rest := [.ref (ad 0)]) E hK hP (z_X3_howMany l D cI cB ad (uL gl 39 1061) 0) (cwV 1 E.2.2.2.2 gX3_digest_X3_howMany rfl rfl rfl (by decide +kernel) ⟨Nat.le_of_ble_eq_true rfl, Nat.le_of_ble_eq_true rfl⟩) (rm0x hK hP) rfl hl.1 rfl (Nat.le_of_ble_eq_true rfl) dX3_digest_190 ⟨Nat.zero_le _, Nat.zero_le _⟩ ?_
  refine lv_topi (fun y_1 ey_1 => ?_)
  obtain rfl : y_1 = 0 := ey_1.trans (by decide)
  refine lv_i2l (v := 0) E.1 E.2.1 dX3_digest_193 (by decide) ?_
  refine g_VWv (As := [.long 0]) (rest := []) E hK hP hS (fun q h => h) (c_mix l D cI cB ad z0 (uL gl 39 1061) zz hI 0) (cwV 1 E.2.2.2.2 gX3_digest_X3_mix rfl rfl rfl (by decide +kernel) ⟨Nat.le_of_ble_eq_true rfl, Nat.le_of_ble_eq_true rfl⟩) (rm0x hK hP) rfl hl.1 rfl (by decide) dX3_digest_194 ⟨Nat.zero_le _, Nat.zero_le _⟩ (fun u_2 H1 locs hp_4 hP1 hk_5 hS => ?_)
  have eh_7 : u_2 39 = 32891 := by
    rw [hp_4]
    show 31 * (uL gl 39 1061) 39 + 0 = 32891
    rw [(show (uL gl 39 1061) 39 = 1061 from rfl)]
    decide
  have hP : va_P D vwCl (wM cI cB ad z0 u_2 zz) H1 := hP1
  clear hP1 hp_4
  generalize H1 = H at hP hS ⊢
  refine lv_iinc (v := 1) (k := 0) (lv' := [(1, .int 1), (0, .ref (ad 0))]) E.1 E.2.1 dX3_digest_197 hl rfl (by decide) (by decide) rfl (fun ls hl => ?_)
  refine lv_goto (tgt := 181) E.1 E.2.1 dX3_digest_200 (by decide) ?_
  refine lv_iload_n E.1 E.2.1 dX3_digest_181 rfl (lv_at hl 0 rfl) ?_
  refine lv_bipush (v := 10) E.1 E.2.1 dX3_digest_182 (by decide) ?_
  refine lv_icmp_ge (x := 1) (y := 10) (tgt := 203) E.1 E.2.1 dX3_digest_184 (by decide) (fun h9 => absurd h9 (by decide)) (fun _ => ?_)
  refine lv_aload_n E.1 E.2.1 dX3_digest_187 rfl (lv_at hl 1 rfl) ?_
  refine lv_aload_n E.1 E.2.1 dX3_digest_188 rfl (lv_at hl 1 rfl) ?_
  refine lv_iload_n E.1 E.2.1 dX3_digest_189 rfl (lv_at hl 0 rfl) ?_
  refine g_VR (As := [.int 1]) (rest := [.ref (ad 0)]) E hK hP (z_X3_howMany l D cI cB ad u_2 1) (cwV 1 E.2.2.2.2 gX3_digest_X3_howMany rfl rfl rfl (by decide +kernel) ⟨Nat.le_of_ble_eq_true rfl, Nat.le_of_ble_eq_true rfl⟩) (rm0x hK hP) rfl hl.1 rfl (Nat.le_of_ble_eq_true rfl) dX3_digest_190 ⟨Nat.zero_le _, Nat.zero_le _⟩ ?_
  refine lv_topi (fun y_8 ey_8 => ?_)
  obtain rfl : y_8 = 0 := ey_8.trans (by decide)
  refine lv_i2l (v := 0) E.1 E.2.1 dX3_digest_193 (by decide) ?_
  refine g_VWv (As := [.long 0]) (rest := []) E hK hP hS (fun q h => h) (c_mix l D cI cB ad z0 u_2 zz hI 0) (cwV 1 E.2.2.2.2 gX3_digest_X3_mix rfl rfl rfl (by decide +kernel) ⟨Nat.le_of_ble_eq_true rfl, Nat.le_of_ble_eq_true rfl⟩) (rm0x hK hP) rfl hl.1 rfl (by decide) dX3_digest_194 ⟨Nat.zero_le _, Nat.zero_le _⟩ (fun u_9 H1 locs hp_11 hP1 hk_12 hS => ?_)
  have eh_14 : u_9 39 = 1019621 := by
    rw [hp_11]
    show 31 * u_2 39 + 0 = 1019621
    rw [eh_7]
    decide
  have hP : va_P D vwCl (wM cI cB ad z0 u_9 zz) H1 := hP1
  clear hP1 hp_11
  generalize H1 = H at hP hS ⊢
  refine lv_iinc (v := 2) (k := 0) (lv' := [(1, .int 2), (0, .ref (ad 0))]) E.1 E.2.1 dX3_digest_197 hl rfl (by decide) (by decide) rfl (fun ls hl => ?_)
  refine lv_goto (tgt := 181) E.1 E.2.1 dX3_digest_200 (by decide) ?_
  refine lv_iload_n E.1 E.2.1 dX3_digest_181 rfl (lv_at hl 0 rfl) ?_
  refine lv_bipush (v := 10) E.1 E.2.1 dX3_digest_182 (by decide) ?_
  refine lv_icmp_ge (x := 2) (y := 10) (tgt := 203) E.1 E.2.1 dX3_digest_184 (by decide) (fun h9 => absurd h9 (by decide)) (fun _ => ?_)
  refine lv_aload_n E.1 E.2.1 dX3_digest_187 rfl (lv_at hl 1 rfl) ?_
  refine lv_aload_n E.1 E.2.1 dX3_digest_188 rfl (lv_at hl 1 rfl) ?_
  refine lv_iload_n E.1 E.2.1 dX3_digest_189 rfl (lv_at hl 0 rfl) ?_
  refine g_VR (As := [.int 2]) (rest := [.ref (ad 0)]) E hK hP (z_X3_howMany l D cI cB ad u_9 2) (cwV 1 E.2.2.2.2 gX3_digest_X3_howMany rfl rfl rfl (by decide +kernel) ⟨Nat.le_of_ble_eq_true rfl, Nat.le_of_ble_eq_true rfl⟩) (rm0x hK hP) rfl hl.1 rfl (Nat.le_of_ble_eq_true rfl) dX3_digest_190 ⟨Nat.zero_le _, Nat.zero_le _⟩ ?_
  refine lv_topi (fun y_15 ey_15 => ?_)
  obtain rfl : y_15 = 0 := ey_15.trans (by decide)
  refine lv_i2l (v := 0) E.1 E.2.1 dX3_digest_193 (by decide) ?_
  refine g_VWv (As := [.long 0]) (rest := []) E hK hP hS (fun q h => h) (c_mix l D cI cB ad z0 u_9 zz hI 0) (cwV 1 E.2.2.2.2 gX3_digest_X3_mix rfl rfl rfl (by decide +kernel) ⟨Nat.le_of_ble_eq_true rfl, Nat.le_of_ble_eq_true rfl⟩) (rm0x hK hP) rfl hl.1 rfl (by decide) dX3_digest_194 ⟨Nat.zero_le _, Nat.zero_le _⟩ (fun u_16 H1 locs hp_18 hP1 hk_19 hS => ?_)
  have eh_21 : u_16 39 = 31608251 := by
    rw [hp_18]
    show 31 * u_9 39 + 0 = 31608251
    rw [eh_14]
    decide
  have hP : va_P D vwCl (wM cI cB ad z0 u_16 zz) H1 := hP1
  clear hP1 hp_18
  generalize H1 = H at hP hS ⊢
  refine lv_iinc (v := 3) (k := 0) (lv' := [(1, .int 3), (0, .ref (ad 0))]) E.1 E.2.1 dX3_digest_197 hl rfl (by decide) (by decide) rfl (fun ls hl => ?_)
  refine lv_goto (tgt := 181) E.1 E.2.1 dX3_digest_200 (by decide) ?_
  refine lv_iload_n E.1 E.2.1 dX3_digest_181 rfl (lv_at hl 0 rfl) ?_
  refine lv_bipush (v := 10) E.1 E.2.1 dX3_digest_182 (by decide) ?_
  refine lv_icmp_ge (x := 3) (y := 10) (tgt := 203) E.1 E.2.1 dX3_digest_184 (by decide) (fun h9 => absurd h9 (by decide)) (fun _ => ?_)
  refine lv_aload_n E.1 E.2.1 dX3_digest_187 rfl (lv_at hl 1 rfl) ?_
  refine lv_aload_n E.1 E.2.1 dX3_digest_188 rfl (lv_at hl 1 rfl) ?_
  refine lv_iload_n E.1 E.2.1 dX3_digest_189 rfl (lv_at hl 0 rfl) ?_
  refine g_VR (As := [.int 3]) (rest := [.ref (ad 0)]) E hK hP (z_X3_howMany l D cI cB ad u_16 3) (cwV 1 E.2.2.2.2 gX3_digest_X3_howMany rfl rfl rfl (by decide +kernel) ⟨Nat.le_of_ble_eq_true rfl, Nat.le_of_ble_eq_true rfl⟩) (rm0x hK hP) rfl hl.1 rfl (Nat.le_of_ble_eq_true rfl) dX3_digest_190 ⟨Nat.zero_le _, Nat.zero_le _⟩ ?_
  refine lv_topi (fun y_22 ey_22 => ?_)
  obtain rfl : y_22 = 0 := ey_22.trans (by decide)
  refine lv_i2l (v := 0) E.1 E.2.1 dX3_digest_193 (by decide) ?_
  refine g_VWv (As := [.long 0]) (rest := []) E hK hP hS (fun q h => h) (c_mix l D cI cB ad z0 u_16 zz hI 0) (cwV 1 E.2.2.2.2 gX3_digest_X3_mix rfl rfl rfl (by decide +kernel) ⟨Nat.le_of_ble_eq_true rfl, Nat.le_of_ble_eq_true rfl⟩) (rm0x hK hP) rfl hl.1 rfl (by decide) dX3_digest_194 ⟨Nat.zero_le _, Nat.zero_le _⟩ (fun u_23 H1 locs hp_25 hP1 hk_26 hS => ?_)
  have eh_28 : u_23 39 = 979855781 := by
    rw [hp_25]
    show 31 * u_16 39 + 0 = 979855781
    rw [eh_21]
    decide
  have hP : va_P D vwCl (wM cI cB ad z0 u_23 zz) H1 := hP1
  clear hP1 hp_25
  generalize H1 = H at hP hS ⊢
  refine lv_iinc (v := 4) (k := 0) (lv' := [(1, .int 4), (0, .ref (ad 0))]) E.1 E.2.1 dX3_digest_197 hl rfl (by decide) (by decide) rfl (fun ls hl => ?_)
  refine lv_goto (tgt := 181) E.1 E.2.1 dX3_digest_200 (by decide) ?_
  refine lv_iload_n E.1 E.2.1 dX3_digest_181 rfl (lv_at hl 0 rfl) ?_
  refine lv_bipush (v := 10) E.1 E.2.1 dX3_digest_182 (by decide) ?_
  refine lv_icmp_ge (x := 4) (y := 10) (tgt := 203) E.1 E.2.1 dX3_digest_184 (by decide) (fun h9 => absurd h9 (by decide)) (fun _ => ?_)
  refine lv_aload_n E.1 E.2.1 dX3_digest_187 rfl (lv_at hl 1 rfl) ?_
  refine lv_aload_n E.1 E.2.1 dX3_digest_188 rfl (lv_at hl 1 rfl) ?_
  refine lv_iload_n E.1 E.2.1 dX3_digest_189 rfl (lv_at hl 0 rfl) ?_
  refine g_VR (As := [.int 4]) (rest := [.ref (ad 0)]) E hK hP (z_X3_howMany l D cI cB ad u_23 4) (cwV 1 E.2.2.2.2 gX3_digest_X3_howMany rfl rfl rfl (by decide +kernel) ⟨Nat.le_of_ble_eq_true rfl, Nat.le_of_ble_eq_true rfl⟩) (rm0x hK hP) rfl hl.1 rfl (Nat.le_of_ble_eq_true rfl) dX3_digest_190 ⟨Nat.zero_le _, Nat.zero_le _⟩ ?_
  refine lv_topi (fun y_29 ey_29 => ?_)
  obtain rfl : y_29 = 0 := ey_29.trans (by decide)
  refine lv_i2l (v := 0) E.1 E.2.1 dX3_digest_193 (by decide) ?_
  refine g_VWv (As := [.long 0]) (rest := []) E hK hP hS (fun q h => h) (c_mix l D cI cB ad z0 u_23 zz hI 0) (cwV 1 E.2.2.2.2 gX3_digest_X3_mix rfl rfl rfl (by decide +kernel) ⟨Nat.le_of_ble_eq_true rfl, Nat.le_of_ble_eq_true rfl⟩) (rm0x hK hP) rfl hl.1 rfl (by decide) dX3_digest_194 ⟨Nat.zero_le _, Nat.zero_le _⟩ (fun u_30 H1 locs hp_32 hP1 hk_33 hS => ?_)
  have eh_35 : u_30 39 = 30375529211 := by
    rw [hp_32]
    show 31 * u_23 39 + 0 = 30375529211
    rw [eh_28]
    decide
  have hP : va_P D vwCl (wM cI cB ad z0 u_30 zz) H1 := hP1
  clear hP1 hp_32
  generalize H1 = H at hP hS ⊢
  refine lv_iinc (v := 5) (k := 0) (lv' := [(1, .int 5), (0, .ref (ad 0))]) E.1 E.2.1 dX3_digest_197 hl rfl (by decide) (by decide) rfl (fun ls hl => ?_)
  refine lv_goto (tgt := 181) E.1 E.2.1 dX3_digest_200 (by decide) ?_
  refine lv_iload_n E.1 E.2.1 dX3_digest_181 rfl (lv_at hl 0 rfl) ?_
  refine lv_bipush (v := 10) E.1 E.2.1 dX3_digest_182 (by decide) ?_
  refine lv_icmp_ge (x := 5) (y := 10) (tgt := 203) E.1 E.2.1 dX3_digest_184 (by decide) (fun h9 => absurd h9 (by decide)) (fun _ => ?_)
  refine lv_aload_n E.1 E.2.1 dX3_digest_187 rfl (lv_at hl 1 rfl) ?_
  refine lv_aload_n E.1 E.2.1 dX3_digest_188 rfl (lv_at hl 1 rfl) ?_
  refine lv_iload_n E.1 E.2.1 dX3_digest_189 rfl (lv_at hl 0 rfl) ?_
  refine g_VR (As := [.int 5]) (rest := [.ref (ad 0)]) E hK hP (z_X3_howMany l D cI cB ad u_30 5) (cwV 1 E.2.2.2.2 gX3_digest_X3_howMany rfl rfl rfl (by decide +kernel) ⟨Nat.le_of_ble_eq_true rfl, Nat.le_of_ble_eq_true rfl⟩) (rm0x hK hP) rfl hl.1 rfl (Nat.le_of_ble_eq_true rfl) dX3_digest_190 ⟨Nat.zero_le _, Nat.zero_le _⟩ ?_
  refine lv_topi (fun y_36 ey_36 => ?_)
  obtain rfl : y_36 = 0 := ey_36.trans (by decide)
  refine lv_i2l (v := 0) E.1 E.2.1 dX3_digest_193 (by decide) ?_
  refine g_VWv (As := [.long 0]) (rest := []) E hK hP hS (fun q h => h) (c_mix l D cI cB ad z0 u_30 zz hI 0) (cwV 1 E.2.2.2.2 gX3_digest_X3_mix rfl rfl rfl (by decide +kernel) ⟨Nat.le_of_ble_eq_true rfl, Nat.le_of_ble_eq_true rfl⟩) (rm0x hK hP) rfl hl.1 rfl (by decide) dX3_digest_194 ⟨Nat.zero_le _, Nat.zero_le _⟩ (fun u_37 H1 locs hp_39 hP1 hk_40 hS => ?_)
  have eh_42 : u_37 39 = 941641405541 := by
    rw [hp_39]
    show 31 * u_30 39 + 0 = 941641405541
    rw [eh_35]
    decide
  have hP : va_P D vwCl (wM cI cB ad z0 u_37 zz) H1 := hP1
  clear hP1 hp_39
  generalize H1 = H at hP hS ⊢
  refine lv_iinc (v := 6) (k := 0) (lv' := [(1, .int 6), (0, .ref (ad 0))]) E.1 E.2.1 dX3_digest_197 hl rfl (by decide) (by decide) rfl (fun ls hl => ?_)
  refine lv_goto (tgt := 181) E.1 E.2.1 dX3_digest_200 (by decide) ?_
  refine lv_iload_n E.1 E.2.1 dX3_digest_181 rfl (lv_at hl 0 rfl) ?_
  refine lv_bipush (v := 10) E.1 E.2.1 dX3_digest_182 (by decide) ?_
  refine lv_icmp_ge (x := 6) (y := 10) (tgt := 203) E.1 E.2.1 dX3_digest_184 (by decide) (fun h9 => absurd h9 (by decide)) (fun _ => ?_)
  refine lv_aload_n E.1 E.2.1 dX3_digest_187 rfl (lv_at hl 1 rfl) ?_
  refine lv_aload_n E.1 E.2.1 dX3_digest_188 rfl (lv_at hl 1 rfl) ?_
  refine lv_iload_n E.1 E.2.1 dX3_digest_189 rfl (lv_at hl 0 rfl) ?_
  refine g_VR (As := [.int 6]) (rest := [.ref (ad 0)]) E hK hP (z_X3_howMany l D cI cB ad u_37 6) (cwV 1 E.2.2.2.2 gX3_digest_X3_howMany rfl rfl rfl (by decide +kernel) ⟨Nat.le_of_ble_eq_true rfl, Nat.le_of_ble_eq_true rfl⟩) (rm0x hK hP) rfl hl.1 rfl (Nat.le_of_ble_eq_true rfl) dX3_digest_190 ⟨Nat.zero_le _, Nat.zero_le _⟩ ?_
  refine lv_topi (fun y_43 ey_43 => ?_)
  obtain rfl : y_43 = 0 := ey_43.trans (by decide)
  refine lv_i2l (v := 0) E.1 E.2.1 dX3_digest_193 (by decide) ?_
  refine g_VWv (As := [.long 0]) (rest := []) E hK hP hS (fun q h => h) (c_mix l D cI cB ad z0 u_37 zz hI 0) (cwV 1 E.2.2.2.2 gX3_digest_X3_mix rfl rfl rfl (by decide +kernel) ⟨Nat.le_of_ble_eq_true rfl, Nat.le_of_ble_eq_true rfl⟩) (rm0x hK hP) rfl hl.1 rfl (by decide) dX3_digest_194 ⟨Nat.zero_le _, Nat.zero_le _⟩ (fun u_44 H1 locs hp_46 hP1 hk_47 hS => ?_)
  have eh_49 : u_44 39 = 29190883571771 := by
    rw [hp_46]
    show 31 * u_37 39 + 0 = 29190883571771
    rw [eh_42]
    decide
  have hP : va_P D vwCl (wM cI cB ad z0 u_44 zz) H1 := hP1
  clear hP1 hp_46
  generalize H1 = H at hP hS ⊢
  refine lv_iinc (v := 7) (k := 0) (lv' := [(1, .int 7), (0, .ref (ad 0))]) E.1 E.2.1 dX3_digest_197 hl rfl (by decide) (by decide) rfl (fun ls hl => ?_)
  refine lv_goto (tgt := 181) E.1 E.2.1 dX3_digest_200 (by decide) ?_
  refine lv_iload_n E.1 E.2.1 dX3_digest_181 rfl (lv_at hl 0 rfl) ?_
  refine lv_bipush (v := 10) E.1 E.2.1 dX3_digest_182 (by decide) ?_
  refine lv_icmp_ge (x := 7) (y := 10) (tgt := 203) E.1 E.2.1 dX3_digest_184 (by decide) (fun h9 => absurd h9 (by decide)) (fun _ => ?_)
  refine lv_aload_n E.1 E.2.1 dX3_digest_187 rfl (lv_at hl 1 rfl) ?_
  refine lv_aload_n E.1 E.2.1 dX3_digest_188 rfl (lv_at hl 1 rfl) ?_
  refine lv_iload_n E.1 E.2.1 dX3_digest_189 rfl (lv_at hl 0 rfl) ?_
  refine g_VR (As := [.int 7]) (rest := [.ref (ad 0)]) E hK hP (z_X3_howMany l D cI cB ad u_44 7) (cwV 1 E.2.2.2.2 gX3_digest_X3_howMany rfl rfl rfl (by decide +kernel) ⟨Nat.le_of_ble_eq_true rfl, Nat.le_of_ble_eq_true rfl⟩) (rm0x hK hP) rfl hl.1 rfl (Nat.le_of_ble_eq_true rfl) dX3_digest_190 ⟨Nat.zero_le _, Nat.zero_le _⟩ ?_
  refine lv_topi (fun y_50 ey_50 => ?_)
  obtain rfl : y_50 = 0 := ey_50.trans (by decide)
  refine lv_i2l (v := 0) E.1 E.2.1 dX3_digest_193 (by decide) ?_
  refine g_VWv (As := [.long 0]) (rest := []) E hK hP hS (fun q h => h) (c_mix l D cI cB ad z0 u_44 zz hI 0) (cwV 1 E.2.2.2.2 gX3_digest_X3_mix rfl rfl rfl (by decide +kernel) ⟨Nat.le_of_ble_eq_true rfl, Nat.le_of_ble_eq_true rfl⟩) (rm0x hK hP) rfl hl.1 rfl (by decide) dX3_digest_194 ⟨Nat.zero_le _, Nat.zero_le _⟩ (fun u_51 H1 locs hp_53 hP1 hk_54 hS => ?_)
  have eh_56 : u_51 39 = 904917390724901 := by
    rw [hp_53]
    show 31 * u_44 39 + 0 = 904917390724901
    rw [eh_49]
    decide
  have hP : va_P D vwCl (wM cI cB ad z0 u_51 zz) H1 := hP1
  clear hP1 hp_53
  generalize H1 = H at hP hS ⊢
  refine lv_iinc (v := 8) (k := 0) (lv' := [(1, .int 8), (0, .ref (ad 0))]) E.1 E.2.1 dX3_digest_197 hl rfl (by decide) (by decide) rfl (fun ls hl => ?_)
  refine lv_goto (tgt := 181) E.1 E.2.1 dX3_digest_200 (by decide) ?_
  refine lv_iload_n E.1 E.2.1 dX3_digest_181 rfl (lv_at hl 0 rfl) ?_
  refine lv_bipush (v := 10) E.1 E.2.1 dX3_digest_182 (by decide) ?_
  refine lv_icmp_ge (x := 8) (y := 10) (tgt := 203) E.1 E.2.1 dX3_digest_184 (by decide) (fun h9 => absurd h9 (by decide)) (fun _ => ?_)
  refine lv_aload_n E.1 E.2.1 dX3_digest_187 rfl (lv_at hl 1 rfl) ?_
  refine lv_aload_n E.1 E.2.1 dX3_digest_188 rfl (lv_at hl 1 rfl) ?_
  refine lv_iload_n E.1 E.2.1 dX3_digest_189 rfl (lv_at hl 0 rfl) ?_
  refine g_VR (As := [.int 8]) (rest := [.ref (ad 0)]) E hK hP (z_X3_howMany l D cI cB ad u_51 8) (cwV 1 E.2.2.2.2 gX3_digest_X3_howMany rfl rfl rfl (by decide +kernel) ⟨Nat.le_of_ble_eq_true rfl, Nat.le_of_ble_eq_true rfl⟩) (rm0x hK hP) rfl hl.1 rfl (Nat.le_of_ble_eq_true rfl) dX3_digest_190 ⟨Nat.zero_le _, Nat.zero_le _⟩ ?_
  refine lv_topi (fun y_57 ey_57 => ?_)
  obtain rfl : y_57 = 0 := ey_57.trans (by decide)
  refine lv_i2l (v := 0) E.1 E.2.1 dX3_digest_193 (by decide) ?_
  refine g_VWv (As := [.long 0]) (rest := []) E hK hP hS (fun q h => h) (c_mix l D cI cB ad z0 u_51 zz hI 0) (cwV 1 E.2.2.2.2 gX3_digest_X3_mix rfl rfl rfl (by decide +kernel) ⟨Nat.le_of_ble_eq_true rfl, Nat.le_of_ble_eq_true rfl⟩) (rm0x hK hP) rfl hl.1 rfl (by decide) dX3_digest_194 ⟨Nat.zero_le _, Nat.zero_le _⟩ (fun u_58 H1 locs hp_60 hP1 hk_61 hS => ?_)
  have eh_63 : u_58 39 = 28052439112471931 := by
    rw [hp_60]
    show 31 * u_51 39 + 0 = 28052439112471931
    rw [eh_56]
    decide
  have hP : va_P D vwCl (wM cI cB ad z0 u_58 zz) H1 := hP1
  clear hP1 hp_60
  generalize H1 = H at hP hS ⊢
  refine lv_iinc (v := 9) (k := 0) (lv' := [(1, .int 9), (0, .ref (ad 0))]) E.1 E.2.1 dX3_digest_197 hl rfl (by decide) (by decide) rfl (fun ls hl => ?_)
  refine lv_goto (tgt := 181) E.1 E.2.1 dX3_digest_200 (by decide) ?_
  refine lv_iload_n E.1 E.2.1 dX3_digest_181 rfl (lv_at hl 0 rfl) ?_
  refine lv_bipush (v := 10) E.1 E.2.1 dX3_digest_182 (by decide) ?_
  refine lv_icmp_ge (x := 9) (y := 10) (tgt := 203) E.1 E.2.1 dX3_digest_184 (by decide) (fun h9 => absurd h9 (by decide)) (fun _ => ?_)
  refine lv_aload_n E.1 E.2.1 dX3_digest_187 rfl (lv_at hl 1 rfl) ?_
  refine lv_aload_n E.1 E.2.1 dX3_digest_188 rfl (lv_at hl 1 rfl) ?_
  refine lv_iload_n E.1 E.2.1 dX3_digest_189 rfl (lv_at hl 0 rfl) ?_
  refine g_VR (As := [.int 9]) (rest := [.ref (ad 0)]) E hK hP (z_X3_howMany l D cI cB ad u_58 9) (cwV 1 E.2.2.2.2 gX3_digest_X3_howMany rfl rfl rfl (by decide +kernel) ⟨Nat.le_of_ble_eq_true rfl, Nat.le_of_ble_eq_true rfl⟩) (rm0x hK hP) rfl hl.1 rfl (Nat.le_of_ble_eq_true rfl) dX3_digest_190 ⟨Nat.zero_le _, Nat.zero_le _⟩ ?_
  refine lv_topi (fun y_64 ey_64 => ?_)
  obtain rfl : y_64 = 0 := ey_64.trans (by decide)
  refine lv_i2l (v := 0) E.1 E.2.1 dX3_digest_193 (by decide) ?_
  refine g_VWv (As := [.long 0]) (rest := []) E hK hP hS (fun q h => h) (c_mix l D cI cB ad z0 u_58 zz hI 0) (cwV 1 E.2.2.2.2 gX3_digest_X3_mix rfl rfl rfl (by decide +kernel) ⟨Nat.le_of_ble_eq_true rfl, Nat.le_of_ble_eq_true rfl⟩) (rm0x hK hP) rfl hl.1 rfl (by decide) dX3_digest_194 ⟨Nat.zero_le _, Nat.zero_le _⟩ (fun u_65 H1 locs hp_67 hP1 hk_68 hS => ?_)
  have eh_70 : u_65 39 = 869625612486629861 := by
    rw [hp_67]
    show 31 * u_58 39 + 0 = 869625612486629861
    rw [eh_63]
    decide
  have hP : va_P D vwCl (wM cI cB ad z0 u_65 zz) H1 := hP1
  clear hP1 hp_67
  generalize H1 = H at hP hS ⊢
  refine lv_iinc (v := 10) (k := 0) (lv' := [(1, .int 10), (0, .ref (ad 0))]) E.1 E.2.1 dX3_digest_197 hl rfl (by decide) (by decide) rfl (fun ls hl => ?_)
  refine lv_goto (tgt := 181) E.1 E.2.1 dX3_digest_200 (by decide) ?_
  refine lv_iload_n E.1 E.2.1 dX3_digest_181 rfl (lv_at hl 0 rfl) ?_
  refine lv_bipush (v := 10) E.1 E.2.1 dX3_digest_182 (by decide) ?_
  refine lv_icmp_ge (x := 10) (y := 10) (tgt := 203) E.1 E.2.1 dX3_digest_184 (by decide) (fun _ => ?_) (fun h9 => absurd (by decide) h9)
  refine lv_aload_n E.1 E.2.1 dX3_digest_203 rfl (lv_at hl 1 rfl) ?_
  refine mg_0_39 E hK hP in_3 w_1 dX3_digest_204 ?_
  exact W.lret (v := u_65 39) E.1 E.2.1 hr (fun t ht _ => ⟨⟨u_65 39, (), rfl, eh_70, fun _ _ h => by simp at h⟩, hS.F ht⟩) hS.2.2 dX3_digest_207
